/-! Part 35: the reference ClauseCourtModel, by program (wip/whole/gen_model.py) -/
abbrev wM (cZ : ClassId) (m0 ma : Nat) (th : Int32) (vn kn tn an : Nat) (mo tt tf mt mf : Int32) (io : Nat → Int32) (mn : Nat) : va_W := [(m0, .inr (4, [.int th, .int (nI vn), .int (nI kn), .int (nI tn), .int (nI an), .int mo, .int tt, .int tf, .int mt, .int mf, .ref ma, .int (nI mn)])), (ma, .inl (cZ, 1024, .inl io))]
abbrev LOK (vn : Nat) (x : Int32) : Prop := ¬ x = 0 ∧ -(nI vn) ≤ x ∧ x ≤ nI vn
/-- isOut behind a close that has come to x -/
def clo (io : Nat → Int32) (tt tf : Int32) (x : Nat) : Nat → Int32 := fun j => if j < x ∧ nI j &&& tt = 0 ∧ (nI j ^^^ (-1)) &&& tf = 0 then 1 else io j
theorem clo_0 (io : Nat → Int32) (tt tf : Int32) : clo io tt tf 0 = io := funext fun j => if_neg (fun h => absurd h.1 (by omega))
theorem clo_t {io : Nat → Int32} {tt tf : Int32} {x : Nat} (h : nI x &&& tt = 0 ∧ (nI x ^^^ (-1)) &&& tf = 0) : upd (clo io tt tf x) x (vp_nar .boolean 1) = clo io tt tf (x + 1) := by
  funext j
  by_cases e : j = x
  · subst e
    rw [pk_us]
    exact (if_pos ⟨by omega, h⟩).symm
  · rw [pk_un e]
    unfold clo
    by_cases c : j < x ∧ nI j &&& tt = 0 ∧ (nI j ^^^ (-1)) &&& tf = 0
    · rw [if_pos c, if_pos ⟨by omega, c.2⟩]
    · rw [if_neg c, if_neg (fun h2 => c ⟨by omega, h2.2⟩)]
theorem clo_f {io : Nat → Int32} {tt tf : Int32} {x : Nat} (h : ¬ (nI x &&& tt = 0 ∧ (nI x ^^^ (-1)) &&& tf = 0)) : clo io tt tf x = clo io tt tf (x + 1) := by
  funext j
  unfold clo
  by_cases c : j < x ∧ nI j &&& tt = 0 ∧ (nI j ^^^ (-1)) &&& tf = 0
  · rw [if_pos c, if_pos ⟨by omega, c.2⟩]
  · rw [if_neg c, if_neg (fun h2 => by
      by_cases e : j = x
      · subst e; exact h h2.2
      · exact c ⟨by omega, h2.2⟩)]
theorem nx_or (a b : Nat) : nI a ||| nI b = nI (a ||| b) := by
  apply Int32.toBitVec_inj.1
  show BitVec.ofNat 32 a ||| BitVec.ofNat 32 b = BitVec.ofNat 32 (a ||| b)
  apply BitVec.eq_of_getLsbD_eq
  intro i hi
  simp [hi]
theorem val_step {j x v : Nat} (hj : j < 10) (hx : x < 1024) (hv : v < 512) : ((nI v <<< ((1 : Int32) &&& 31)) ||| ((nI x >>> (nI j &&& 31)) &&& 1)) = nI (2 * v + (x / 2 ^ j) % 2) := by
  have h1 : nI v <<< ((1 : Int32) &&& 31) = nI (v * 2 ^ 1) := pk_shlN _ 1 (by decide +kernel) (by omega)
  have h2 : nI x >>> (nI j &&& 31) = nI (x / 2 ^ j) := pk_shrN (by omega) _ j (s_l j (by omega))
  have hle : x / 2 ^ j ≤ x := Nat.div_le_self _ _
  have h3 : nI (x / 2 ^ j) &&& 1 = nI (x / 2 ^ j % 2 ^ 1) := pk_andN (by omega) 1 (by decide +kernel)
  rw [h1, h2, h3, nx_or]
  congr 1
  have h4 := Nat.two_pow_add_eq_or_of_lt (i := 1) (b := x / 2 ^ j % 2 ^ 1) (Nat.mod_lt _ (by omega)) v
  rw [Nat.mul_comm v (2 ^ 1), ← h4]
theorem rv_1024 {x n : Nat} (h : n ≤ 10) : rv x n < 1024 := Nat.lt_of_lt_of_le (rv_lt x n) (show 2 ^ n ≤ 2 ^ 10 from Nat.pow_le_pow_right (by omega) h)
theorem pw_le {n : Nat} (h : n ≤ 10) : 2 ^ n ≤ 1024 := show 2 ^ n ≤ 2 ^ 10 from Nat.pow_le_pow_right (by omega) h
theorem sh1 {n : Nat} (h : n ≤ 10) : (1 : Int32) <<< (nI n &&& 31) = nI (2 ^ n) := (by decide +kernel : ∀ n, n < 11 → (1 : Int32) <<< (nI n &&& 31) = nI (2 ^ n)) n (by omega)
def itv (y v : Int32) : Int32 := if (if (v >>> (((if 0 ≤ y then y else -y) - 1) &&& 31)) &&& 1 = 0 then 0 else 1) = (if 0 < y then (1 : Int32) else 0) then 1 else 0
def rmB (io : Nat → Int32) (mt mf : Int32) (v : Nat) : Bool := decide (io v = 0) && (decide (nI v &&& mt = mt) && decide (nI v &&& mf = 0))
theorem rmB_iff {io : Nat → Int32} {mt mf : Int32} {v : Nat} : rmB io mt mf v = true ↔ io v = 0 ∧ nI v &&& mt = mt ∧ nI v &&& mf = 0 := by
  unfold rmB
  rw [Bool.and_eq_true, Bool.and_eq_true, decide_eq_true_eq, decide_eq_true_eq, decide_eq_true_eq]
def slv (P : Nat → Bool) : Nat → Nat → Int32
  | 0, _ => -1
  | k + 1, x => if P x = true then nI x else slv P k (x + 1)
theorem slv_s (P : Nat → Bool) (k x : Nat) : slv P (k + 1) x = if P x = true then nI x else slv P k (x + 1) := rfl
def fol (P : Nat → Bool) (T : Nat → Int32) : Nat → Nat → Int32 → Int32
  | 0, _, y => y
  | k + 1, x, y => fol P T k (x + 1) (if P x = true ∧ T x = 0 then 0 else y)
theorem fol_s (P : Nat → Bool) (T : Nat → Int32) (k x : Nat) (y : Int32) : fol P T (k + 1) x y = fol P T k (x + 1) (if P x = true ∧ T x = 0 then 0 else y) := rfl
theorem fol_01 {P : Nat → Bool} {T : Nat → Int32} : ∀ (k x : Nat) {y : Int32}, y = 0 ∨ y = 1 → fol P T k x y = 0 ∨ fol P T k x y = 1 := by
  intro k
  induction k with
  | zero => intro x y h; exact h
  | succ k ih =>
    intro x y h
    rw [fol_s]
    refine ih (x + 1) ?_
    split
    · exact Or.inl rfl
    · exact h
theorem fol_nar {P : Nat → Bool} {T : Nat → Int32} {k x : Nat} {y : Int32} (h : y = 0 ∨ y = 1) : narrow .boolean (.int (fol P T k x y)) = .int (fol P T k x y) := by
  rcases fol_01 (P := P) (T := T) k x h with e | e <;> rw [e] <;> decide +kernel
def mol (P : Nat → Bool) : Nat → Nat → Nat → Nat
  | 0, _, c => c
  | k + 1, x, c => if 40 ≤ c then c else mol P k (x + 1) (if P x = true then c + 1 else c)
theorem mol_s (P : Nat → Bool) (k x c : Nat) : mol P (k + 1) x c = if 40 ≤ c then c else mol P k (x + 1) (if P x = true then c + 1 else c) := rfl
def cntm (an vn kn tn : Nat) (mo x : Int32) : Int32 := if x = 0 then nI vn else if x = 1 then nI kn else if x = 2 then nI tn else if x = 3 then nI an else if x = 4 then (if mo < 0 then 0 else 1) else if x = 5 then 0 else -1
theorem cntm_out {an vn kn tn : Nat} {mo x : Int32} (h0 : ¬ x = 0) (h1 : ¬ x = 1) (h2 : ¬ x = 2) (h3 : ¬ x = 3) (h4 : ¬ x = 4) (h5 : ¬ x = 5) : cntm an vn kn tn mo x = -1 := by
  unfold cntm
  rw [if_neg h0, if_neg h1, if_neg h2, if_neg h3, if_neg h4, if_neg h5]
set_option maxHeartbeats 4000000 in
set_option maxRecDepth 100000 in
theorem k_M_thrown (l : Launch) (D : va_G) (cZ : ClassId) (m0 ma : Nat) (th : Int32) (vn kn tn an : Nat) (mo tt tf mt mf : Int32) (io : Nat → Int32) (mn : Nat) : KTi l y_M_thrown c_M_thrown 1 .int { frames := 0, cells := 0, slots := 0, locals := 0 } D [(cZ, .boolean)] [.ref m0] (wM cZ m0 ma th vn kn tn an mo tt tf mt mf io mn) (th) (wM cZ m0 ma th vn kn tn an mo tt tf mt mf io mn) := by
  refine KTi_of (own := R_M) (by decide +kernel) rfl (Nat.le_of_ble_eq_true rfl) (vp_nar_int _) ?_
  intro p e st m below meth c A ls Q hx hb hml hts hown hK hP hD hS hA hl fin
  refine lv_aload_n hx hb d_M_thrown_0 rfl (lv_at hl 0 rfl) ?_
  refine va_get (D := D) (ci := 4) (v := .int th) (C := R_M) (T := T_M) (N := 12) hx hb hts u_M hown hK hP 0 rfl rfl 0 (by decide) (hts _ f_M_17) (fun _ h9 => h9) rfl d_M_thrown_1 ?_
  exact fin _ _ _ _ _ hP hD hS (rfl) d_M_thrown_4
set_option maxHeartbeats 4000000 in
set_option maxRecDepth 100000 in
theorem k_M_no (l : Launch) (D : va_G) (cZ : ClassId) (m0 ma : Nat) (th : Int32) (vn kn tn an : Nat) (mo tt tf mt mf : Int32) (io : Nat → Int32) (mn : Nat) (x : Int32) : KTi l y_M_no c_M_no 2 .int { frames := 0, cells := 0, slots := 0, locals := 0 } D [(cZ, .boolean)] [.ref m0, .int x] (wM cZ m0 ma th vn kn tn an mo tt tf mt mf io mn) (0) (wM cZ m0 ma x vn kn tn an mo tt tf mt mf io mn) := by
  refine KTi_of (own := R_M) (by decide +kernel) rfl (Nat.le_of_ble_eq_true rfl) (vp_nar_int _) ?_
  intro p e st m below meth c A ls Q hx hb hml hts hown hK hP hD hS hA hl fin
  refine lv_aload_n hx hb d_M_no_0 rfl (lv_at hl 0 rfl) ?_
  refine lv_iload_n hx hb d_M_no_1 rfl (lv_at hl 1 rfl) ?_
  refine va_put (D := D) (ci := 4) (v := .int x) (ty := .int) (C := R_M) (T := T_M) (N := 12) hx hb hts u_M t_M t_M_ok n_M hown hK hP hD hS 0 rfl rfl 0 (by decide) (hts _ f_M_17) (fun _ h9 => h9) rfl (by decide +kernel) rfl rfl (Nat.le_of_ble_eq_true rfl) d_M_no_2 (fun H locs hP hD hS => ?_)
  have hP : va_P D cls_ [(m0, .inr (4, [.int x, .int (nI vn), .int (nI kn), .int (nI tn), .int (nI an), .int mo, .int tt, .int tf, .int mt, .int mf, .ref ma, .int (nI mn)])), (ma, .inl (cZ, 1024, .inl (io)))] H := hP
  have hD : va_D A [(m0, .inr (4, [.int x, .int (nI vn), .int (nI kn), .int (nI tn), .int (nI an), .int mo, .int tt, .int tf, .int mt, .int mf, .ref ma, .int (nI mn)])), (ma, .inl (cZ, 1024, .inl (io)))] := hD
  refine lv_iconst (v := 0) hx hb d_M_no_5 (by decide) ?_
  exact fin _ _ _ _ _ hP hD hS (rfl) d_M_no_6
set_option maxHeartbeats 4000000 in
set_option maxRecDepth 100000 in
theorem k_M_forget (l : Launch) (D : va_G) (cZ : ClassId) (m0 ma : Nat) (th : Int32) (vn kn tn an : Nat) (mo tt tf mt mf : Int32) (io : Nat → Int32) (mn : Nat) : KTv l y_M_forget c_M_forget 1 { frames := 0, cells := 0, slots := 0, locals := 0 } D [(cZ, .boolean)] [.ref m0] (wM cZ m0 ma th vn kn tn an mo tt tf mt mf io mn) (wM cZ m0 ma th vn kn tn 0 mo tt tf 0 0 io mn) := by
  refine KTv_of (own := R_M) (by decide +kernel) rfl (Nat.le_of_ble_eq_true rfl) ?_
  intro p e st m below meth c A ls Q hx hb hml hts hown hK hP hD hS hA hl fin
  refine lv_aload_n hx hb d_M_forget_0 rfl (lv_at hl 0 rfl) ?_
  refine lv_iconst (v := 0) hx hb d_M_forget_1 (by decide) ?_
  refine va_put (D := D) (ci := 4) (v := .int 0) (ty := .int) (C := R_M) (T := T_M) (N := 12) hx hb hts u_M t_M t_M_ok n_M hown hK hP hD hS 0 rfl rfl 4 (by decide) (hts _ f_M_43) (fun _ h9 => h9) rfl (by decide +kernel) rfl rfl (Nat.le_of_ble_eq_true rfl) d_M_forget_2 (fun H locs hP hD hS => ?_)
  have hP : va_P D cls_ [(m0, .inr (4, [.int th, .int (nI vn), .int (nI kn), .int (nI tn), .int 0, .int mo, .int tt, .int tf, .int mt, .int mf, .ref ma, .int (nI mn)])), (ma, .inl (cZ, 1024, .inl (io)))] H := hP
  have hD : va_D A [(m0, .inr (4, [.int th, .int (nI vn), .int (nI kn), .int (nI tn), .int 0, .int mo, .int tt, .int tf, .int mt, .int mf, .ref ma, .int (nI mn)])), (ma, .inl (cZ, 1024, .inl (io)))] := hD
  refine lv_aload_n hx hb d_M_forget_5 rfl (lv_at hl 0 rfl) ?_
  refine lv_iconst (v := 0) hx hb d_M_forget_6 (by decide) ?_
  refine va_put (D := D) (ci := 4) (v := .int 0) (ty := .int) (C := R_M) (T := T_M) (N := 12) hx hb hts u_M t_M t_M_ok n_M hown hK hP hD hS 0 rfl rfl 8 (by decide) (hts _ f_M_46) (fun _ h9 => h9) rfl (by decide +kernel) rfl rfl (Nat.le_of_ble_eq_true rfl) d_M_forget_7 (fun H locs hP hD hS => ?_)
  have hP : va_P D cls_ [(m0, .inr (4, [.int th, .int (nI vn), .int (nI kn), .int (nI tn), .int 0, .int mo, .int tt, .int tf, .int 0, .int mf, .ref ma, .int (nI mn)])), (ma, .inl (cZ, 1024, .inl (io)))] H := hP
  have hD : va_D A [(m0, .inr (4, [.int th, .int (nI vn), .int (nI kn), .int (nI tn), .int 0, .int mo, .int tt, .int tf, .int 0, .int mf, .ref ma, .int (nI mn)])), (ma, .inl (cZ, 1024, .inl (io)))] := hD
  refine lv_aload_n hx hb d_M_forget_10 rfl (lv_at hl 0 rfl) ?_
  refine lv_iconst (v := 0) hx hb d_M_forget_11 (by decide) ?_
  refine va_put (D := D) (ci := 4) (v := .int 0) (ty := .int) (C := R_M) (T := T_M) (N := 12) hx hb hts u_M t_M t_M_ok n_M hown hK hP hD hS 0 rfl rfl 9 (by decide) (hts _ f_M_49) (fun _ h9 => h9) rfl (by decide +kernel) rfl rfl (Nat.le_of_ble_eq_true rfl) d_M_forget_12 (fun H locs hP hD hS => ?_)
  have hP : va_P D cls_ [(m0, .inr (4, [.int th, .int (nI vn), .int (nI kn), .int (nI tn), .int 0, .int mo, .int tt, .int tf, .int 0, .int 0, .ref ma, .int (nI mn)])), (ma, .inl (cZ, 1024, .inl (io)))] H := hP
  have hD : va_D A [(m0, .inr (4, [.int th, .int (nI vn), .int (nI kn), .int (nI tn), .int 0, .int mo, .int tt, .int tf, .int 0, .int 0, .ref ma, .int (nI mn)])), (ma, .inl (cZ, 1024, .inl (io)))] := hD
  exact fin _ _ _ _ hP hD hS d_M_forget_15
set_option maxHeartbeats 4000000 in
set_option maxRecDepth 100000 in
theorem k_M_isLiteral (l : Launch) (D : va_G) (cZ : ClassId) (m0 ma : Nat) (th : Int32) (vn kn tn an : Nat) (mo tt tf mt mf : Int32) (io : Nat → Int32) (mn : Nat) (x : Int32) : KTi l y_M_isLiteral c_M_isLiteral 2 .boolean { frames := 0, cells := 0, slots := 0, locals := 0 } D [(cZ, .boolean)] [.ref m0, .int x] (wM cZ m0 ma th vn kn tn an mo tt tf mt mf io mn) (if LOK vn x then 1 else 0) (wM cZ m0 ma th vn kn tn an mo tt tf mt mf io mn) := by
  refine KTi_of (own := R_M) (by decide +kernel) rfl (Nat.le_of_ble_eq_true rfl) (nar_if _) ?_
  intro p e st m below meth c A ls Q hx hb hml hts hown hK hP hD hS hA hl fin
  refine lv_iload_n hx hb d_M_isLiteral_0 rfl (lv_at hl 1 rfl) ?_
  refine lv_if_eq (tgt := 25) hx hb d_M_isLiteral_1 rfl (fun hc1 => ?_) (fun hc1 => ?_)
  · refine lv_iconst (v := 0) hx hb d_M_isLiteral_25 (by decide) ?_
    exact fin _ _ _ _ _ hP hD hS ((if_neg (fun h => h.1 hc1)).symm) d_M_isLiteral_26
  · refine lv_iload_n hx hb d_M_isLiteral_4 rfl (lv_at hl 1 rfl) ?_
    refine lv_aload_n hx hb d_M_isLiteral_5 rfl (lv_at hl 0 rfl) ?_
    refine va_get (D := D) (ci := 4) (v := .int (nI vn)) (C := R_M) (T := T_M) (N := 12) hx hb hts u_M hown hK hP 0 rfl rfl 1 (by decide) (hts _ f_M_20) (fun _ h9 => h9) rfl d_M_isLiteral_6 ?_
    refine lv_ineg hx hb d_M_isLiteral_9 ?_
    refine lv_icmp_lt (tgt := 25) hx hb d_M_isLiteral_10 rfl (fun hc10 => ?_) (fun hc10 => ?_)
    · refine lv_iconst (v := 0) hx hb d_M_isLiteral_25 (by decide) ?_
      exact fin _ _ _ _ _ hP hD hS ((if_neg (fun h => Int32.not_lt.mpr h.2.1 hc10)).symm) d_M_isLiteral_26
    · refine lv_iload_n hx hb d_M_isLiteral_13 rfl (lv_at hl 1 rfl) ?_
      refine lv_aload_n hx hb d_M_isLiteral_14 rfl (lv_at hl 0 rfl) ?_
      refine va_get (D := D) (ci := 4) (v := .int (nI vn)) (C := R_M) (T := T_M) (N := 12) hx hb hts u_M hown hK hP 0 rfl rfl 1 (by decide) (hts _ f_M_20) (fun _ h9 => h9) rfl d_M_isLiteral_15 ?_
      refine lv_icmp_gt (tgt := 25) hx hb d_M_isLiteral_18 rfl (fun hc18 => ?_) (fun hc18 => ?_)
      · refine lv_iconst (v := 0) hx hb d_M_isLiteral_25 (by decide) ?_
        exact fin _ _ _ _ _ hP hD hS ((if_neg (fun h => Int32.not_lt.mpr h.2.2 hc18)).symm) d_M_isLiteral_26
      · refine lv_iconst (v := 1) hx hb d_M_isLiteral_21 (by decide) ?_
        refine lv_goto (tgt := 26) hx hb d_M_isLiteral_22 rfl ?_
        exact fin _ _ _ _ _ hP hD hS ((if_pos ⟨hc1, Int32.not_lt.mp hc10, Int32.not_lt.mp hc18⟩).symm) d_M_isLiteral_26
set_option maxHeartbeats 4000000 in
set_option maxRecDepth 100000 in
theorem k_M_variable_r (l : Launch) (D : va_G) (cZ : ClassId) (m0 ma : Nat) (th : Int32) (vn kn tn an : Nat) (mo tt tf mt mf : Int32) (io : Nat → Int32) (mn : Nat) (hv : vn = 10) : KTi l y_M_variable c_M_variable 1 .int { frames := 1, cells := 0, slots := 0, locals := 21 } D [(cZ, .boolean)] [.ref m0] (wM cZ m0 ma th vn kn tn an mo tt tf mt mf io mn) (0) (wM cZ m0 ma 1 vn kn tn an mo tt tf mt mf io mn) := by
  refine KTi_of (own := R_M) (by decide +kernel) rfl (Nat.le_of_ble_eq_true rfl) (vp_nar_int _) ?_
  intro p e st m below meth c A ls Q hx hb hml hts hown hK hP hD hS hA hl fin
  refine lv_aload_n hx hb d_M_variable_0 rfl (lv_at hl 0 rfl) ?_
  refine va_get (D := D) (ci := 4) (v := .int (nI vn)) (C := R_M) (T := T_M) (N := 12) hx hb hts u_M hown hK hP 0 rfl rfl 1 (by decide) (hts _ f_M_20) (fun _ h9 => h9) rfl d_M_variable_1 ?_
  refine lv_bipush (v := 10) hx hb d_M_variable_4 (by decide +kernel) ?_
  refine lv_icmp_ne (tgt := 15) hx hb d_M_variable_6 rfl (fun hc6 => absurd (by rw [hv]; rfl) hc6) (fun hc6 => ?_)
  refine lv_aload_n hx hb d_M_variable_9 rfl (lv_at hl 0 rfl) ?_
  refine lv_iconst (v := 1) hx hb d_M_variable_10 (by decide) ?_
  refine CTi_V (isC := [0, 1]) (isR := []) (wr := []) (wi := [(m0, .inr (4, [.int th, .int (nI vn), .int (nI kn), .int (nI tn), .int (nI an), .int mo, .int tt, .int tf, .int mt, .int mf, .ref ma, .int (nI mn)])), (ma, .inl (cZ, 1024, .inl (io)))]) (wo := [(m0, .inr (4, [.int 1, .int (nI vn), .int (nI kn), .int (nI tn), .int (nI an), .int mo, .int tt, .int tf, .int mt, .int mf, .ref ma, .int (nI mn)])), (ma, .inl (cZ, 1024, .inl (io)))]) (b := m0) (As := [.int 1]) (rest := []) ⟨hx, hb, hml, hown, hts⟩ [0] (k_M_no l D cZ m0 ma th vn kn tn an mo tt tf mt mf io mn 1) (cwV 1 hts v_M_23 rfl rfl rfl (by decide +kernel) ⟨Nat.le_of_ble_eq_true rfl, Nat.le_of_ble_eq_true rfl⟩) ⟨rfl, rfl, rfl, rfl, by decide⟩ rfl hK hP hD hS hA (va_recv (ci := 4) hK hP rfl (q0 := 0) rfl) rfl hl.1 (Nat.le_of_ble_eq_true rfl) d_M_variable_11 ⟨Nat.le_of_ble_eq_true rfl, Nat.le_of_ble_eq_true rfl⟩ (fun H locs hP hD hS => ?_)
  have hP : va_P D cls_ [(m0, .inr (4, [.int 1, .int (nI vn), .int (nI kn), .int (nI tn), .int (nI an), .int mo, .int tt, .int tf, .int mt, .int mf, .ref ma, .int (nI mn)])), (ma, .inl (cZ, 1024, .inl (io)))] H := hP
  have hD : va_D A [(m0, .inr (4, [.int 1, .int (nI vn), .int (nI kn), .int (nI tn), .int (nI an), .int mo, .int tt, .int tf, .int mt, .int mf, .ref ma, .int (nI mn)])), (ma, .inl (cZ, 1024, .inl (io)))] := hD
  exact fin _ _ _ _ _ hP hD hS (rfl) d_M_variable_14
set_option maxHeartbeats 4000000 in
set_option maxRecDepth 100000 in
theorem k_M_variable (l : Launch) (D : va_G) (cZ : ClassId) (m0 ma : Nat) (th : Int32) (vn kn tn an : Nat) (mo tt tf mt mf : Int32) (io : Nat → Int32) (mn : Nat) (hv : vn < 10) : KTi l y_M_variable c_M_variable 1 .int { frames := 1, cells := 0, slots := 0, locals := 21 } D [(cZ, .boolean)] [.ref m0] (wM cZ m0 ma th vn kn tn an mo tt tf mt mf io mn) (nI (vn + 1)) (wM cZ m0 ma 0 ((vn + 1)) kn tn an mo tt tf mt mf io mn) := by
  refine KTi_of (own := R_M) (by decide +kernel) rfl (Nat.le_of_ble_eq_true rfl) (vp_nar_int _) ?_
  intro p e st m below meth c A ls Q hx hb hml hts hown hK hP hD hS hA hl fin
  refine lv_aload_n hx hb d_M_variable_0 rfl (lv_at hl 0 rfl) ?_
  refine va_get (D := D) (ci := 4) (v := .int (nI vn)) (C := R_M) (T := T_M) (N := 12) hx hb hts u_M hown hK hP 0 rfl rfl 1 (by decide) (hts _ f_M_20) (fun _ h9 => h9) rfl d_M_variable_1 ?_
  refine lv_bipush (v := 10) hx hb d_M_variable_4 (by decide +kernel) ?_
  refine lv_icmp_ne (tgt := 15) hx hb d_M_variable_6 rfl (fun hc6 => ?_) (fun hc6 => absurd ((nI_eq (b := 10) (by omega) (by decide)).1 hc6) (by omega))
  refine lv_aload_n hx hb d_M_variable_15 rfl (lv_at hl 0 rfl) ?_
  refine lv_iconst (v := 0) hx hb d_M_variable_16 (by decide) ?_
  refine va_put (D := D) (ci := 4) (v := .int 0) (ty := .int) (C := R_M) (T := T_M) (N := 12) hx hb hts u_M t_M t_M_ok n_M hown hK hP hD hS 0 rfl rfl 0 (by decide) (hts _ f_M_17) (fun _ h9 => h9) rfl (by decide +kernel) rfl rfl (Nat.le_of_ble_eq_true rfl) d_M_variable_17 (fun H locs hP hD hS => ?_)
  have hP : va_P D cls_ [(m0, .inr (4, [.int 0, .int (nI vn), .int (nI kn), .int (nI tn), .int (nI an), .int mo, .int tt, .int tf, .int mt, .int mf, .ref ma, .int (nI mn)])), (ma, .inl (cZ, 1024, .inl (io)))] H := hP
  have hD : va_D A [(m0, .inr (4, [.int 0, .int (nI vn), .int (nI kn), .int (nI tn), .int (nI an), .int mo, .int tt, .int tf, .int mt, .int mf, .ref ma, .int (nI mn)])), (ma, .inl (cZ, 1024, .inl (io)))] := hD
  refine lv_aload_n hx hb d_M_variable_20 rfl (lv_at hl 0 rfl) ?_
  refine lv_dup hx hb d_M_variable_21 rfl ?_
  refine va_get (D := D) (ci := 4) (v := .int (nI vn)) (C := R_M) (T := T_M) (N := 12) hx hb hts u_M hown hK hP 0 rfl rfl 1 (by decide) (hts _ f_M_20) (fun _ h9 => h9) rfl d_M_variable_22 ?_
  refine lv_iconst (v := 1) hx hb d_M_variable_25 (by decide) ?_
  refine lv_iadd hx hb d_M_variable_26 ?_
  refine va_put (D := D) (ci := 4) (v := .int ((nI vn) + 1)) (ty := .int) (C := R_M) (T := T_M) (N := 12) hx hb hts u_M t_M t_M_ok n_M hown hK hP hD hS 0 rfl rfl 1 (by decide) (hts _ f_M_20) (fun _ h9 => h9) rfl (by decide +kernel) rfl rfl (Nat.le_of_ble_eq_true rfl) d_M_variable_27 (fun H locs hP hD hS => ?_)
  have hP : va_P D cls_ [(m0, .inr (4, [.int 0, .int ((nI vn) + 1), .int (nI kn), .int (nI tn), .int (nI an), .int mo, .int tt, .int tf, .int mt, .int mf, .ref ma, .int (nI mn)])), (ma, .inl (cZ, 1024, .inl (io)))] H := hP
  have hD : va_D A [(m0, .inr (4, [.int 0, .int ((nI vn) + 1), .int (nI kn), .int (nI tn), .int (nI an), .int mo, .int tt, .int tf, .int mt, .int mf, .ref ma, .int (nI mn)])), (ma, .inl (cZ, 1024, .inl (io)))] := hD
  refine lv_aload_n hx hb d_M_variable_30 rfl (lv_at hl 0 rfl) ?_
  refine va_get (D := D) (ci := 4) (v := .int ((nI vn) + 1)) (C := R_M) (T := T_M) (N := 12) hx hb hts u_M hown hK hP 0 rfl rfl 1 (by decide) (hts _ f_M_20) (fun _ h9 => h9) rfl d_M_variable_31 ?_
  rw [nI_1] at hP hD ⊢
  exact fin _ _ _ _ _ hP hD hS rfl d_M_variable_34
set_option maxHeartbeats 4000000 in
set_option maxRecDepth 100000 in
theorem k_M_literal_b (l : Launch) (D : va_G) (cZ : ClassId) (m0 ma : Nat) (th : Int32) (vn kn tn an : Nat) (mo tt tf mt mf : Int32) (io : Nat → Int32) (mn : Nat) (x : Int32) (hx9 : ¬ LOK vn x) : KTv l y_M_literal c_M_literal 2 { frames := 1, cells := 0, slots := 0, locals := 21 } D [(cZ, .boolean)] [.ref m0, .int x] (wM cZ m0 ma th vn kn tn an mo tt tf mt mf io mn) (wM cZ m0 ma 1 vn kn tn an mo tt tf mt mf io mn) := by
  refine KTv_of (own := R_M) (by decide +kernel) rfl (Nat.le_of_ble_eq_true rfl) ?_
  intro p e st m below meth c A ls Q hx hb hml hts hown hK hP hD hS hA hl fin
  refine lv_aload_n hx hb d_M_literal_0 rfl (lv_at hl 0 rfl) ?_
  refine lv_aload_n hx hb d_M_literal_1 rfl (lv_at hl 0 rfl) ?_
  refine lv_iload_n hx hb d_M_literal_2 rfl (lv_at hl 1 rfl) ?_
  refine CTi_V (isC := [0, 1]) (isR := []) (wr := []) (wi := [(m0, .inr (4, [.int th, .int (nI vn), .int (nI kn), .int (nI tn), .int (nI an), .int mo, .int tt, .int tf, .int mt, .int mf, .ref ma, .int (nI mn)])), (ma, .inl (cZ, 1024, .inl (io)))]) (wo := [(m0, .inr (4, [.int th, .int (nI vn), .int (nI kn), .int (nI tn), .int (nI an), .int mo, .int tt, .int tf, .int mt, .int mf, .ref ma, .int (nI mn)])), (ma, .inl (cZ, 1024, .inl (io)))]) (b := m0) (As := [.int x]) (rest := [.ref m0]) ⟨hx, hb, hml, hown, hts⟩ [0] (k_M_isLiteral l D cZ m0 ma th vn kn tn an mo tt tf mt mf io mn x) (cwV 1 hts v_M_27 rfl rfl rfl (by decide +kernel) ⟨Nat.le_of_ble_eq_true rfl, Nat.le_of_ble_eq_true rfl⟩) ⟨rfl, rfl, rfl, rfl, by decide⟩ rfl hK hP hD hS hA (va_recv (ci := 4) hK hP rfl (q0 := 0) rfl) rfl hl.1 (Nat.le_of_ble_eq_true rfl) d_M_literal_3 ⟨Nat.le_of_ble_eq_true rfl, Nat.le_of_ble_eq_true rfl⟩ (fun H locs hP hD hS => ?_)
  have hP : va_P D cls_ [(m0, .inr (4, [.int th, .int (nI vn), .int (nI kn), .int (nI tn), .int (nI an), .int mo, .int tt, .int tf, .int mt, .int mf, .ref ma, .int (nI mn)])), (ma, .inl (cZ, 1024, .inl (io)))] H := hP
  have hD : va_D A [(m0, .inr (4, [.int th, .int (nI vn), .int (nI kn), .int (nI tn), .int (nI an), .int mo, .int tt, .int tf, .int mt, .int mf, .ref ma, .int (nI mn)])), (ma, .inl (cZ, 1024, .inl (io)))] := hD
  refine lv_if_ne (tgt := 13) hx hb d_M_literal_6 rfl (fun hc6 => absurd (it1 hc6) hx9) (fun hc6 => ?_)
  refine lv_iconst (v := 1) hx hb d_M_literal_9 (by decide) ?_
  refine lv_goto (tgt := 27) hx hb d_M_literal_10 rfl ?_
  refine va_put (D := D) (ci := 4) (v := .int 1) (ty := .int) (C := R_M) (T := T_M) (N := 12) hx hb hts u_M t_M t_M_ok n_M hown hK hP hD hS 0 rfl rfl 0 (by decide) (hts _ f_M_17) (fun _ h9 => h9) rfl (by decide +kernel) rfl rfl (Nat.le_of_ble_eq_true rfl) d_M_literal_27 (fun H locs hP hD hS => ?_)
  have hP : va_P D cls_ [(m0, .inr (4, [.int 1, .int (nI vn), .int (nI kn), .int (nI tn), .int (nI an), .int mo, .int tt, .int tf, .int mt, .int mf, .ref ma, .int (nI mn)])), (ma, .inl (cZ, 1024, .inl (io)))] H := hP
  have hD : va_D A [(m0, .inr (4, [.int 1, .int (nI vn), .int (nI kn), .int (nI tn), .int (nI an), .int mo, .int tt, .int tf, .int mt, .int mf, .ref ma, .int (nI mn)])), (ma, .inl (cZ, 1024, .inl (io)))] := hD
  refine lv_aload_n hx hb d_M_literal_30 rfl (lv_at hl 0 rfl) ?_
  refine va_get (D := D) (ci := 4) (v := .int 1) (C := R_M) (T := T_M) (N := 12) hx hb hts u_M hown hK hP 0 rfl rfl 0 (by decide) (hts _ f_M_17) (fun _ h9 => h9) rfl d_M_literal_31 ?_
  refine lv_if_eq (tgt := 38) hx hb d_M_literal_34 rfl (fun hc34 => absurd hc34 (by decide)) (fun hc34 => ?_)
  exact fin _ _ _ _ hP hD hS d_M_literal_37
set_option maxHeartbeats 4000000 in
set_option maxRecDepth 100000 in
theorem k_M_literal_r (l : Launch) (D : va_G) (cZ : ClassId) (m0 ma : Nat) (th : Int32) (vn kn tn an : Nat) (mo tt tf mt mf : Int32) (io : Nat → Int32) (mn : Nat) (x : Int32) (hx9 : LOK vn x) (ht : tn = 12) : KTv l y_M_literal c_M_literal 2 { frames := 1, cells := 0, slots := 0, locals := 21 } D [(cZ, .boolean)] [.ref m0, .int x] (wM cZ m0 ma th vn kn tn an mo tt tf mt mf io mn) (wM cZ m0 ma 2 vn kn tn an mo tt tf mt mf io mn) := by
  refine KTv_of (own := R_M) (by decide +kernel) rfl (Nat.le_of_ble_eq_true rfl) ?_
  intro p e st m below meth c A ls Q hx hb hml hts hown hK hP hD hS hA hl fin
  refine lv_aload_n hx hb d_M_literal_0 rfl (lv_at hl 0 rfl) ?_
  refine lv_aload_n hx hb d_M_literal_1 rfl (lv_at hl 0 rfl) ?_
  refine lv_iload_n hx hb d_M_literal_2 rfl (lv_at hl 1 rfl) ?_
  refine CTi_V (isC := [0, 1]) (isR := []) (wr := []) (wi := [(m0, .inr (4, [.int th, .int (nI vn), .int (nI kn), .int (nI tn), .int (nI an), .int mo, .int tt, .int tf, .int mt, .int mf, .ref ma, .int (nI mn)])), (ma, .inl (cZ, 1024, .inl (io)))]) (wo := [(m0, .inr (4, [.int th, .int (nI vn), .int (nI kn), .int (nI tn), .int (nI an), .int mo, .int tt, .int tf, .int mt, .int mf, .ref ma, .int (nI mn)])), (ma, .inl (cZ, 1024, .inl (io)))]) (b := m0) (As := [.int x]) (rest := [.ref m0]) ⟨hx, hb, hml, hown, hts⟩ [0] (k_M_isLiteral l D cZ m0 ma th vn kn tn an mo tt tf mt mf io mn x) (cwV 1 hts v_M_27 rfl rfl rfl (by decide +kernel) ⟨Nat.le_of_ble_eq_true rfl, Nat.le_of_ble_eq_true rfl⟩) ⟨rfl, rfl, rfl, rfl, by decide⟩ rfl hK hP hD hS hA (va_recv (ci := 4) hK hP rfl (q0 := 0) rfl) rfl hl.1 (Nat.le_of_ble_eq_true rfl) d_M_literal_3 ⟨Nat.le_of_ble_eq_true rfl, Nat.le_of_ble_eq_true rfl⟩ (fun H locs hP hD hS => ?_)
  have hP : va_P D cls_ [(m0, .inr (4, [.int th, .int (nI vn), .int (nI kn), .int (nI tn), .int (nI an), .int mo, .int tt, .int tf, .int mt, .int mf, .ref ma, .int (nI mn)])), (ma, .inl (cZ, 1024, .inl (io)))] H := hP
  have hD : va_D A [(m0, .inr (4, [.int th, .int (nI vn), .int (nI kn), .int (nI tn), .int (nI an), .int mo, .int tt, .int tf, .int mt, .int mf, .ref ma, .int (nI mn)])), (ma, .inl (cZ, 1024, .inl (io)))] := hD
  refine lv_if_ne (tgt := 13) hx hb d_M_literal_6 rfl (fun hc6 => ?_) (fun hc6 => absurd hx9 (it0 hc6))
  refine lv_aload_n hx hb d_M_literal_13 rfl (lv_at hl 0 rfl) ?_
  refine va_get (D := D) (ci := 4) (v := .int (nI tn)) (C := R_M) (T := T_M) (N := 12) hx hb hts u_M hown hK hP 0 rfl rfl 3 (by decide) (hts _ f_M_31) (fun _ h9 => h9) rfl d_M_literal_14 ?_
  refine lv_bipush (v := 12) hx hb d_M_literal_17 (by decide +kernel) ?_
  refine lv_icmp_ne (tgt := 26) hx hb d_M_literal_19 rfl (fun hc19 => absurd (by rw [ht]; rfl) hc19) (fun hc19 => ?_)
  refine lv_iconst (v := 2) hx hb d_M_literal_22 (by decide) ?_
  refine lv_goto (tgt := 27) hx hb d_M_literal_23 rfl ?_
  refine va_put (D := D) (ci := 4) (v := .int 2) (ty := .int) (C := R_M) (T := T_M) (N := 12) hx hb hts u_M t_M t_M_ok n_M hown hK hP hD hS 0 rfl rfl 0 (by decide) (hts _ f_M_17) (fun _ h9 => h9) rfl (by decide +kernel) rfl rfl (Nat.le_of_ble_eq_true rfl) d_M_literal_27 (fun H locs hP hD hS => ?_)
  have hP : va_P D cls_ [(m0, .inr (4, [.int 2, .int (nI vn), .int (nI kn), .int (nI tn), .int (nI an), .int mo, .int tt, .int tf, .int mt, .int mf, .ref ma, .int (nI mn)])), (ma, .inl (cZ, 1024, .inl (io)))] H := hP
  have hD : va_D A [(m0, .inr (4, [.int 2, .int (nI vn), .int (nI kn), .int (nI tn), .int (nI an), .int mo, .int tt, .int tf, .int mt, .int mf, .ref ma, .int (nI mn)])), (ma, .inl (cZ, 1024, .inl (io)))] := hD
  refine lv_aload_n hx hb d_M_literal_30 rfl (lv_at hl 0 rfl) ?_
  refine va_get (D := D) (ci := 4) (v := .int 2) (C := R_M) (T := T_M) (N := 12) hx hb hts u_M hown hK hP 0 rfl rfl 0 (by decide) (hts _ f_M_17) (fun _ h9 => h9) rfl d_M_literal_31 ?_
  refine lv_if_eq (tgt := 38) hx hb d_M_literal_34 rfl (fun hc34 => absurd hc34 (by decide)) (fun hc34 => ?_)
  exact fin _ _ _ _ hP hD hS d_M_literal_37
set_option maxHeartbeats 4000000 in
set_option maxRecDepth 100000 in
theorem k_M_literal (l : Launch) (D : va_G) (cZ : ClassId) (m0 ma : Nat) (th : Int32) (vn kn tn an : Nat) (mo tt tf mt mf : Int32) (io : Nat → Int32) (mn : Nat) (x : Int32) (hx9 : LOK vn x) (ht : tn < 12) : KTv l y_M_literal c_M_literal 2 { frames := 1, cells := 0, slots := 0, locals := 21 } D [(cZ, .boolean)] [.ref m0, .int x] (wM cZ m0 ma th vn kn tn an mo tt tf mt mf io mn) (wM cZ m0 ma 0 vn kn ((tn + 1)) an mo ((if 0 < x then tt ||| (1 <<< ((x - 1) &&& 31)) else tt)) ((if 0 < x then tf else tf ||| (1 <<< ((-x - 1) &&& 31)))) mt mf io mn) := by
  refine KTv_of (own := R_M) (by decide +kernel) rfl (Nat.le_of_ble_eq_true rfl) ?_
  intro p e st m below meth c A ls Q hx hb hml hts hown hK hP hD hS hA hl fin
  refine lv_aload_n hx hb d_M_literal_0 rfl (lv_at hl 0 rfl) ?_
  refine lv_aload_n hx hb d_M_literal_1 rfl (lv_at hl 0 rfl) ?_
  refine lv_iload_n hx hb d_M_literal_2 rfl (lv_at hl 1 rfl) ?_
  refine CTi_V (isC := [0, 1]) (isR := []) (wr := []) (wi := [(m0, .inr (4, [.int th, .int (nI vn), .int (nI kn), .int (nI tn), .int (nI an), .int mo, .int tt, .int tf, .int mt, .int mf, .ref ma, .int (nI mn)])), (ma, .inl (cZ, 1024, .inl (io)))]) (wo := [(m0, .inr (4, [.int th, .int (nI vn), .int (nI kn), .int (nI tn), .int (nI an), .int mo, .int tt, .int tf, .int mt, .int mf, .ref ma, .int (nI mn)])), (ma, .inl (cZ, 1024, .inl (io)))]) (b := m0) (As := [.int x]) (rest := [.ref m0]) ⟨hx, hb, hml, hown, hts⟩ [0] (k_M_isLiteral l D cZ m0 ma th vn kn tn an mo tt tf mt mf io mn x) (cwV 1 hts v_M_27 rfl rfl rfl (by decide +kernel) ⟨Nat.le_of_ble_eq_true rfl, Nat.le_of_ble_eq_true rfl⟩) ⟨rfl, rfl, rfl, rfl, by decide⟩ rfl hK hP hD hS hA (va_recv (ci := 4) hK hP rfl (q0 := 0) rfl) rfl hl.1 (Nat.le_of_ble_eq_true rfl) d_M_literal_3 ⟨Nat.le_of_ble_eq_true rfl, Nat.le_of_ble_eq_true rfl⟩ (fun H locs hP hD hS => ?_)
  have hP : va_P D cls_ [(m0, .inr (4, [.int th, .int (nI vn), .int (nI kn), .int (nI tn), .int (nI an), .int mo, .int tt, .int tf, .int mt, .int mf, .ref ma, .int (nI mn)])), (ma, .inl (cZ, 1024, .inl (io)))] H := hP
  have hD : va_D A [(m0, .inr (4, [.int th, .int (nI vn), .int (nI kn), .int (nI tn), .int (nI an), .int mo, .int tt, .int tf, .int mt, .int mf, .ref ma, .int (nI mn)])), (ma, .inl (cZ, 1024, .inl (io)))] := hD
  refine lv_if_ne (tgt := 13) hx hb d_M_literal_6 rfl (fun hc6 => ?_) (fun hc6 => absurd hx9 (it0 hc6))
  refine lv_aload_n hx hb d_M_literal_13 rfl (lv_at hl 0 rfl) ?_
  refine va_get (D := D) (ci := 4) (v := .int (nI tn)) (C := R_M) (T := T_M) (N := 12) hx hb hts u_M hown hK hP 0 rfl rfl 3 (by decide) (hts _ f_M_31) (fun _ h9 => h9) rfl d_M_literal_14 ?_
  refine lv_bipush (v := 12) hx hb d_M_literal_17 (by decide +kernel) ?_
  refine lv_icmp_ne (tgt := 26) hx hb d_M_literal_19 rfl (fun hc19 => ?_) (fun hc19 => absurd ((nI_eq (b := 12) (by omega) (by decide)).1 hc19) (by omega))
  refine lv_iconst (v := 0) hx hb d_M_literal_26 (by decide) ?_
  refine va_put (D := D) (ci := 4) (v := .int 0) (ty := .int) (C := R_M) (T := T_M) (N := 12) hx hb hts u_M t_M t_M_ok n_M hown hK hP hD hS 0 rfl rfl 0 (by decide) (hts _ f_M_17) (fun _ h9 => h9) rfl (by decide +kernel) rfl rfl (Nat.le_of_ble_eq_true rfl) d_M_literal_27 (fun H locs hP hD hS => ?_)
  have hP : va_P D cls_ [(m0, .inr (4, [.int 0, .int (nI vn), .int (nI kn), .int (nI tn), .int (nI an), .int mo, .int tt, .int tf, .int mt, .int mf, .ref ma, .int (nI mn)])), (ma, .inl (cZ, 1024, .inl (io)))] H := hP
  have hD : va_D A [(m0, .inr (4, [.int 0, .int (nI vn), .int (nI kn), .int (nI tn), .int (nI an), .int mo, .int tt, .int tf, .int mt, .int mf, .ref ma, .int (nI mn)])), (ma, .inl (cZ, 1024, .inl (io)))] := hD
  refine lv_aload_n hx hb d_M_literal_30 rfl (lv_at hl 0 rfl) ?_
  refine va_get (D := D) (ci := 4) (v := .int 0) (C := R_M) (T := T_M) (N := 12) hx hb hts u_M hown hK hP 0 rfl rfl 0 (by decide) (hts _ f_M_17) (fun _ h9 => h9) rfl d_M_literal_31 ?_
  refine lv_if_eq (tgt := 38) hx hb d_M_literal_34 rfl (fun hc34 => ?_) (fun hc34 => absurd rfl hc34)
  refine lv_iload_n hx hb d_M_literal_38 rfl (lv_at hl 1 rfl) ?_
  refine lv_if_le (tgt := 59) hx hb d_M_literal_39 rfl (fun hc39 => ?_) (fun hc39 => ?_)
  · refine lv_aload_n hx hb d_M_literal_59 rfl (lv_at hl 0 rfl) ?_
    refine lv_dup hx hb d_M_literal_60 rfl ?_
    refine va_get (D := D) (ci := 4) (v := .int tf) (C := R_M) (T := T_M) (N := 12) hx hb hts u_M hown hK hP 0 rfl rfl 7 (by decide) (hts _ f_M_37) (fun _ h9 => h9) rfl d_M_literal_61 ?_
    refine lv_iconst (v := 1) hx hb d_M_literal_64 (by decide) ?_
    refine lv_iload_n hx hb d_M_literal_65 rfl (lv_at hl 1 rfl) ?_
    refine lv_ineg hx hb d_M_literal_66 ?_
    refine lv_iconst (v := 1) hx hb d_M_literal_67 (by decide) ?_
    refine lv_isub hx hb d_M_literal_68 ?_
    refine lv_ishl hx hb d_M_literal_69 ?_
    refine lv_ior hx hb d_M_literal_70 ?_
    refine va_put (D := D) (ci := 4) (v := .int (tf ||| (1 <<< (((-x) - 1) &&& 31)))) (ty := .int) (C := R_M) (T := T_M) (N := 12) hx hb hts u_M t_M t_M_ok n_M hown hK hP hD hS 0 rfl rfl 7 (by decide) (hts _ f_M_37) (fun _ h9 => h9) rfl (by decide +kernel) rfl rfl (Nat.le_of_ble_eq_true rfl) d_M_literal_71 (fun H locs hP hD hS => ?_)
    have hP : va_P D cls_ [(m0, .inr (4, [.int 0, .int (nI vn), .int (nI kn), .int (nI tn), .int (nI an), .int mo, .int tt, .int (tf ||| (1 <<< (((-x) - 1) &&& 31))), .int mt, .int mf, .ref ma, .int (nI mn)])), (ma, .inl (cZ, 1024, .inl (io)))] H := hP
    have hD : va_D A [(m0, .inr (4, [.int 0, .int (nI vn), .int (nI kn), .int (nI tn), .int (nI an), .int mo, .int tt, .int (tf ||| (1 <<< (((-x) - 1) &&& 31))), .int mt, .int mf, .ref ma, .int (nI mn)])), (ma, .inl (cZ, 1024, .inl (io)))] := hD
    refine lv_aload_n hx hb d_M_literal_74 rfl (lv_at hl 0 rfl) ?_
    refine lv_dup hx hb d_M_literal_75 rfl ?_
    refine va_get (D := D) (ci := 4) (v := .int (nI tn)) (C := R_M) (T := T_M) (N := 12) hx hb hts u_M hown hK hP 0 rfl rfl 3 (by decide) (hts _ f_M_31) (fun _ h9 => h9) rfl d_M_literal_76 ?_
    refine lv_iconst (v := 1) hx hb d_M_literal_79 (by decide) ?_
    refine lv_iadd hx hb d_M_literal_80 ?_
    refine va_put (D := D) (ci := 4) (v := .int ((nI tn) + 1)) (ty := .int) (C := R_M) (T := T_M) (N := 12) hx hb hts u_M t_M t_M_ok n_M hown hK hP hD hS 0 rfl rfl 3 (by decide) (hts _ f_M_31) (fun _ h9 => h9) rfl (by decide +kernel) rfl rfl (Nat.le_of_ble_eq_true rfl) d_M_literal_81 (fun H locs hP hD hS => ?_)
    have hP : va_P D cls_ [(m0, .inr (4, [.int 0, .int (nI vn), .int (nI kn), .int ((nI tn) + 1), .int (nI an), .int mo, .int tt, .int (tf ||| (1 <<< (((-x) - 1) &&& 31))), .int mt, .int mf, .ref ma, .int (nI mn)])), (ma, .inl (cZ, 1024, .inl (io)))] H := hP
    have hD : va_D A [(m0, .inr (4, [.int 0, .int (nI vn), .int (nI kn), .int ((nI tn) + 1), .int (nI an), .int mo, .int tt, .int (tf ||| (1 <<< (((-x) - 1) &&& 31))), .int mt, .int mf, .ref ma, .int (nI mn)])), (ma, .inl (cZ, 1024, .inl (io)))] := hD
    rw [nI_1] at hP hD
    rw [if_neg (Int32.not_lt.mpr hc39), if_neg (Int32.not_lt.mpr hc39)] at fin
    exact fin _ _ _ _ hP hD hS d_M_literal_84
  · refine lv_aload_n hx hb d_M_literal_42 rfl (lv_at hl 0 rfl) ?_
    refine lv_dup hx hb d_M_literal_43 rfl ?_
    refine va_get (D := D) (ci := 4) (v := .int tt) (C := R_M) (T := T_M) (N := 12) hx hb hts u_M hown hK hP 0 rfl rfl 6 (by decide) (hts _ f_M_34) (fun _ h9 => h9) rfl d_M_literal_44 ?_
    refine lv_iconst (v := 1) hx hb d_M_literal_47 (by decide) ?_
    refine lv_iload_n hx hb d_M_literal_48 rfl (lv_at hl 1 rfl) ?_
    refine lv_iconst (v := 1) hx hb d_M_literal_49 (by decide) ?_
    refine lv_isub hx hb d_M_literal_50 ?_
    refine lv_ishl hx hb d_M_literal_51 ?_
    refine lv_ior hx hb d_M_literal_52 ?_
    refine va_put (D := D) (ci := 4) (v := .int (tt ||| (1 <<< ((x - 1) &&& 31)))) (ty := .int) (C := R_M) (T := T_M) (N := 12) hx hb hts u_M t_M t_M_ok n_M hown hK hP hD hS 0 rfl rfl 6 (by decide) (hts _ f_M_34) (fun _ h9 => h9) rfl (by decide +kernel) rfl rfl (Nat.le_of_ble_eq_true rfl) d_M_literal_53 (fun H locs hP hD hS => ?_)
    have hP : va_P D cls_ [(m0, .inr (4, [.int 0, .int (nI vn), .int (nI kn), .int (nI tn), .int (nI an), .int mo, .int (tt ||| (1 <<< ((x - 1) &&& 31))), .int tf, .int mt, .int mf, .ref ma, .int (nI mn)])), (ma, .inl (cZ, 1024, .inl (io)))] H := hP
    have hD : va_D A [(m0, .inr (4, [.int 0, .int (nI vn), .int (nI kn), .int (nI tn), .int (nI an), .int mo, .int (tt ||| (1 <<< ((x - 1) &&& 31))), .int tf, .int mt, .int mf, .ref ma, .int (nI mn)])), (ma, .inl (cZ, 1024, .inl (io)))] := hD
    refine lv_goto (tgt := 74) hx hb d_M_literal_56 rfl ?_
    refine lv_aload_n hx hb d_M_literal_74 rfl (lv_at hl 0 rfl) ?_
    refine lv_dup hx hb d_M_literal_75 rfl ?_
    refine va_get (D := D) (ci := 4) (v := .int (nI tn)) (C := R_M) (T := T_M) (N := 12) hx hb hts u_M hown hK hP 0 rfl rfl 3 (by decide) (hts _ f_M_31) (fun _ h9 => h9) rfl d_M_literal_76 ?_
    refine lv_iconst (v := 1) hx hb d_M_literal_79 (by decide) ?_
    refine lv_iadd hx hb d_M_literal_80 ?_
    refine va_put (D := D) (ci := 4) (v := .int ((nI tn) + 1)) (ty := .int) (C := R_M) (T := T_M) (N := 12) hx hb hts u_M t_M t_M_ok n_M hown hK hP hD hS 0 rfl rfl 3 (by decide) (hts _ f_M_31) (fun _ h9 => h9) rfl (by decide +kernel) rfl rfl (Nat.le_of_ble_eq_true rfl) d_M_literal_81 (fun H locs hP hD hS => ?_)
    have hP : va_P D cls_ [(m0, .inr (4, [.int 0, .int (nI vn), .int (nI kn), .int ((nI tn) + 1), .int (nI an), .int mo, .int (tt ||| (1 <<< ((x - 1) &&& 31))), .int tf, .int mt, .int mf, .ref ma, .int (nI mn)])), (ma, .inl (cZ, 1024, .inl (io)))] H := hP
    have hD : va_D A [(m0, .inr (4, [.int 0, .int (nI vn), .int (nI kn), .int ((nI tn) + 1), .int (nI an), .int mo, .int (tt ||| (1 <<< ((x - 1) &&& 31))), .int tf, .int mt, .int mf, .ref ma, .int (nI mn)])), (ma, .inl (cZ, 1024, .inl (io)))] := hD
    rw [nI_1] at hP hD
    rw [if_pos (Int32.not_le.mp hc39), if_pos (Int32.not_le.mp hc39)] at fin
    exact fin _ _ _ _ hP hD hS d_M_literal_84
set_option maxHeartbeats 4000000 in
set_option maxRecDepth 100000 in
theorem k_M_assume_b (l : Launch) (D : va_G) (cZ : ClassId) (m0 ma : Nat) (th : Int32) (vn kn tn an : Nat) (mo tt tf mt mf : Int32) (io : Nat → Int32) (mn : Nat) (x : Int32) (hx9 : ¬ LOK vn x) : KTv l y_M_assume c_M_assume 2 { frames := 1, cells := 0, slots := 0, locals := 21 } D [(cZ, .boolean)] [.ref m0, .int x] (wM cZ m0 ma th vn kn tn an mo tt tf mt mf io mn) (wM cZ m0 ma 1 vn kn tn an mo tt tf mt mf io mn) := by
  refine KTv_of (own := R_M) (by decide +kernel) rfl (Nat.le_of_ble_eq_true rfl) ?_
  intro p e st m below meth c A ls Q hx hb hml hts hown hK hP hD hS hA hl fin
  refine lv_aload_n hx hb d_M_assume_0 rfl (lv_at hl 0 rfl) ?_
  refine lv_aload_n hx hb d_M_assume_1 rfl (lv_at hl 0 rfl) ?_
  refine lv_iload_n hx hb d_M_assume_2 rfl (lv_at hl 1 rfl) ?_
  refine CTi_V (isC := [0, 1]) (isR := []) (wr := []) (wi := [(m0, .inr (4, [.int th, .int (nI vn), .int (nI kn), .int (nI tn), .int (nI an), .int mo, .int tt, .int tf, .int mt, .int mf, .ref ma, .int (nI mn)])), (ma, .inl (cZ, 1024, .inl (io)))]) (wo := [(m0, .inr (4, [.int th, .int (nI vn), .int (nI kn), .int (nI tn), .int (nI an), .int mo, .int tt, .int tf, .int mt, .int mf, .ref ma, .int (nI mn)])), (ma, .inl (cZ, 1024, .inl (io)))]) (b := m0) (As := [.int x]) (rest := [.ref m0]) ⟨hx, hb, hml, hown, hts⟩ [0] (k_M_isLiteral l D cZ m0 ma th vn kn tn an mo tt tf mt mf io mn x) (cwV 1 hts v_M_27 rfl rfl rfl (by decide +kernel) ⟨Nat.le_of_ble_eq_true rfl, Nat.le_of_ble_eq_true rfl⟩) ⟨rfl, rfl, rfl, rfl, by decide⟩ rfl hK hP hD hS hA (va_recv (ci := 4) hK hP rfl (q0 := 0) rfl) rfl hl.1 (Nat.le_of_ble_eq_true rfl) d_M_assume_3 ⟨Nat.le_of_ble_eq_true rfl, Nat.le_of_ble_eq_true rfl⟩ (fun H locs hP hD hS => ?_)
  have hP : va_P D cls_ [(m0, .inr (4, [.int th, .int (nI vn), .int (nI kn), .int (nI tn), .int (nI an), .int mo, .int tt, .int tf, .int mt, .int mf, .ref ma, .int (nI mn)])), (ma, .inl (cZ, 1024, .inl (io)))] H := hP
  have hD : va_D A [(m0, .inr (4, [.int th, .int (nI vn), .int (nI kn), .int (nI tn), .int (nI an), .int mo, .int tt, .int tf, .int mt, .int mf, .ref ma, .int (nI mn)])), (ma, .inl (cZ, 1024, .inl (io)))] := hD
  refine lv_if_ne (tgt := 13) hx hb d_M_assume_6 rfl (fun hc6 => absurd (it1 hc6) hx9) (fun hc6 => ?_)
  refine lv_iconst (v := 1) hx hb d_M_assume_9 (by decide) ?_
  refine lv_goto (tgt := 27) hx hb d_M_assume_10 rfl ?_
  refine va_put (D := D) (ci := 4) (v := .int 1) (ty := .int) (C := R_M) (T := T_M) (N := 12) hx hb hts u_M t_M t_M_ok n_M hown hK hP hD hS 0 rfl rfl 0 (by decide) (hts _ f_M_17) (fun _ h9 => h9) rfl (by decide +kernel) rfl rfl (Nat.le_of_ble_eq_true rfl) d_M_assume_27 (fun H locs hP hD hS => ?_)
  have hP : va_P D cls_ [(m0, .inr (4, [.int 1, .int (nI vn), .int (nI kn), .int (nI tn), .int (nI an), .int mo, .int tt, .int tf, .int mt, .int mf, .ref ma, .int (nI mn)])), (ma, .inl (cZ, 1024, .inl (io)))] H := hP
  have hD : va_D A [(m0, .inr (4, [.int 1, .int (nI vn), .int (nI kn), .int (nI tn), .int (nI an), .int mo, .int tt, .int tf, .int mt, .int mf, .ref ma, .int (nI mn)])), (ma, .inl (cZ, 1024, .inl (io)))] := hD
  refine lv_aload_n hx hb d_M_assume_30 rfl (lv_at hl 0 rfl) ?_
  refine va_get (D := D) (ci := 4) (v := .int 1) (C := R_M) (T := T_M) (N := 12) hx hb hts u_M hown hK hP 0 rfl rfl 0 (by decide) (hts _ f_M_17) (fun _ h9 => h9) rfl d_M_assume_31 ?_
  refine lv_if_eq (tgt := 38) hx hb d_M_assume_34 rfl (fun hc34 => absurd hc34 (by decide)) (fun hc34 => ?_)
  exact fin _ _ _ _ hP hD hS d_M_assume_37
set_option maxHeartbeats 4000000 in
set_option maxRecDepth 100000 in
theorem k_M_assume_r (l : Launch) (D : va_G) (cZ : ClassId) (m0 ma : Nat) (th : Int32) (vn kn tn an : Nat) (mo tt tf mt mf : Int32) (io : Nat → Int32) (mn : Nat) (x : Int32) (hx9 : LOK vn x) (ht : an = 10) : KTv l y_M_assume c_M_assume 2 { frames := 1, cells := 0, slots := 0, locals := 21 } D [(cZ, .boolean)] [.ref m0, .int x] (wM cZ m0 ma th vn kn tn an mo tt tf mt mf io mn) (wM cZ m0 ma 2 vn kn tn an mo tt tf mt mf io mn) := by
  refine KTv_of (own := R_M) (by decide +kernel) rfl (Nat.le_of_ble_eq_true rfl) ?_
  intro p e st m below meth c A ls Q hx hb hml hts hown hK hP hD hS hA hl fin
  refine lv_aload_n hx hb d_M_assume_0 rfl (lv_at hl 0 rfl) ?_
  refine lv_aload_n hx hb d_M_assume_1 rfl (lv_at hl 0 rfl) ?_
  refine lv_iload_n hx hb d_M_assume_2 rfl (lv_at hl 1 rfl) ?_
  refine CTi_V (isC := [0, 1]) (isR := []) (wr := []) (wi := [(m0, .inr (4, [.int th, .int (nI vn), .int (nI kn), .int (nI tn), .int (nI an), .int mo, .int tt, .int tf, .int mt, .int mf, .ref ma, .int (nI mn)])), (ma, .inl (cZ, 1024, .inl (io)))]) (wo := [(m0, .inr (4, [.int th, .int (nI vn), .int (nI kn), .int (nI tn), .int (nI an), .int mo, .int tt, .int tf, .int mt, .int mf, .ref ma, .int (nI mn)])), (ma, .inl (cZ, 1024, .inl (io)))]) (b := m0) (As := [.int x]) (rest := [.ref m0]) ⟨hx, hb, hml, hown, hts⟩ [0] (k_M_isLiteral l D cZ m0 ma th vn kn tn an mo tt tf mt mf io mn x) (cwV 1 hts v_M_27 rfl rfl rfl (by decide +kernel) ⟨Nat.le_of_ble_eq_true rfl, Nat.le_of_ble_eq_true rfl⟩) ⟨rfl, rfl, rfl, rfl, by decide⟩ rfl hK hP hD hS hA (va_recv (ci := 4) hK hP rfl (q0 := 0) rfl) rfl hl.1 (Nat.le_of_ble_eq_true rfl) d_M_assume_3 ⟨Nat.le_of_ble_eq_true rfl, Nat.le_of_ble_eq_true rfl⟩ (fun H locs hP hD hS => ?_)
  have hP : va_P D cls_ [(m0, .inr (4, [.int th, .int (nI vn), .int (nI kn), .int (nI tn), .int (nI an), .int mo, .int tt, .int tf, .int mt, .int mf, .ref ma, .int (nI mn)])), (ma, .inl (cZ, 1024, .inl (io)))] H := hP
  have hD : va_D A [(m0, .inr (4, [.int th, .int (nI vn), .int (nI kn), .int (nI tn), .int (nI an), .int mo, .int tt, .int tf, .int mt, .int mf, .ref ma, .int (nI mn)])), (ma, .inl (cZ, 1024, .inl (io)))] := hD
  refine lv_if_ne (tgt := 13) hx hb d_M_assume_6 rfl (fun hc6 => ?_) (fun hc6 => absurd hx9 (it0 hc6))
  refine lv_aload_n hx hb d_M_assume_13 rfl (lv_at hl 0 rfl) ?_
  refine va_get (D := D) (ci := 4) (v := .int (nI an)) (C := R_M) (T := T_M) (N := 12) hx hb hts u_M hown hK hP 0 rfl rfl 4 (by decide) (hts _ f_M_43) (fun _ h9 => h9) rfl d_M_assume_14 ?_
  refine lv_bipush (v := 10) hx hb d_M_assume_17 (by decide +kernel) ?_
  refine lv_icmp_ne (tgt := 26) hx hb d_M_assume_19 rfl (fun hc19 => absurd (by rw [ht]; rfl) hc19) (fun hc19 => ?_)
  refine lv_iconst (v := 2) hx hb d_M_assume_22 (by decide) ?_
  refine lv_goto (tgt := 27) hx hb d_M_assume_23 rfl ?_
  refine va_put (D := D) (ci := 4) (v := .int 2) (ty := .int) (C := R_M) (T := T_M) (N := 12) hx hb hts u_M t_M t_M_ok n_M hown hK hP hD hS 0 rfl rfl 0 (by decide) (hts _ f_M_17) (fun _ h9 => h9) rfl (by decide +kernel) rfl rfl (Nat.le_of_ble_eq_true rfl) d_M_assume_27 (fun H locs hP hD hS => ?_)
  have hP : va_P D cls_ [(m0, .inr (4, [.int 2, .int (nI vn), .int (nI kn), .int (nI tn), .int (nI an), .int mo, .int tt, .int tf, .int mt, .int mf, .ref ma, .int (nI mn)])), (ma, .inl (cZ, 1024, .inl (io)))] H := hP
  have hD : va_D A [(m0, .inr (4, [.int 2, .int (nI vn), .int (nI kn), .int (nI tn), .int (nI an), .int mo, .int tt, .int tf, .int mt, .int mf, .ref ma, .int (nI mn)])), (ma, .inl (cZ, 1024, .inl (io)))] := hD
  refine lv_aload_n hx hb d_M_assume_30 rfl (lv_at hl 0 rfl) ?_
  refine va_get (D := D) (ci := 4) (v := .int 2) (C := R_M) (T := T_M) (N := 12) hx hb hts u_M hown hK hP 0 rfl rfl 0 (by decide) (hts _ f_M_17) (fun _ h9 => h9) rfl d_M_assume_31 ?_
  refine lv_if_eq (tgt := 38) hx hb d_M_assume_34 rfl (fun hc34 => absurd hc34 (by decide)) (fun hc34 => ?_)
  exact fin _ _ _ _ hP hD hS d_M_assume_37
set_option maxHeartbeats 4000000 in
set_option maxRecDepth 100000 in
theorem k_M_assume (l : Launch) (D : va_G) (cZ : ClassId) (m0 ma : Nat) (th : Int32) (vn kn tn an : Nat) (mo tt tf mt mf : Int32) (io : Nat → Int32) (mn : Nat) (x : Int32) (hx9 : LOK vn x) (ht : an < 10) : KTv l y_M_assume c_M_assume 2 { frames := 1, cells := 0, slots := 0, locals := 21 } D [(cZ, .boolean)] [.ref m0, .int x] (wM cZ m0 ma th vn kn tn an mo tt tf mt mf io mn) (wM cZ m0 ma 0 vn kn tn ((an + 1)) mo tt tf ((if 0 < x then mt ||| (1 <<< ((x - 1) &&& 31)) else mt)) ((if 0 < x then mf else mf ||| (1 <<< ((-x - 1) &&& 31)))) io mn) := by
  refine KTv_of (own := R_M) (by decide +kernel) rfl (Nat.le_of_ble_eq_true rfl) ?_
  intro p e st m below meth c A ls Q hx hb hml hts hown hK hP hD hS hA hl fin
  refine lv_aload_n hx hb d_M_assume_0 rfl (lv_at hl 0 rfl) ?_
  refine lv_aload_n hx hb d_M_assume_1 rfl (lv_at hl 0 rfl) ?_
  refine lv_iload_n hx hb d_M_assume_2 rfl (lv_at hl 1 rfl) ?_
  refine CTi_V (isC := [0, 1]) (isR := []) (wr := []) (wi := [(m0, .inr (4, [.int th, .int (nI vn), .int (nI kn), .int (nI tn), .int (nI an), .int mo, .int tt, .int tf, .int mt, .int mf, .ref ma, .int (nI mn)])), (ma, .inl (cZ, 1024, .inl (io)))]) (wo := [(m0, .inr (4, [.int th, .int (nI vn), .int (nI kn), .int (nI tn), .int (nI an), .int mo, .int tt, .int tf, .int mt, .int mf, .ref ma, .int (nI mn)])), (ma, .inl (cZ, 1024, .inl (io)))]) (b := m0) (As := [.int x]) (rest := [.ref m0]) ⟨hx, hb, hml, hown, hts⟩ [0] (k_M_isLiteral l D cZ m0 ma th vn kn tn an mo tt tf mt mf io mn x) (cwV 1 hts v_M_27 rfl rfl rfl (by decide +kernel) ⟨Nat.le_of_ble_eq_true rfl, Nat.le_of_ble_eq_true rfl⟩) ⟨rfl, rfl, rfl, rfl, by decide⟩ rfl hK hP hD hS hA (va_recv (ci := 4) hK hP rfl (q0 := 0) rfl) rfl hl.1 (Nat.le_of_ble_eq_true rfl) d_M_assume_3 ⟨Nat.le_of_ble_eq_true rfl, Nat.le_of_ble_eq_true rfl⟩ (fun H locs hP hD hS => ?_)
  have hP : va_P D cls_ [(m0, .inr (4, [.int th, .int (nI vn), .int (nI kn), .int (nI tn), .int (nI an), .int mo, .int tt, .int tf, .int mt, .int mf, .ref ma, .int (nI mn)])), (ma, .inl (cZ, 1024, .inl (io)))] H := hP
  have hD : va_D A [(m0, .inr (4, [.int th, .int (nI vn), .int (nI kn), .int (nI tn), .int (nI an), .int mo, .int tt, .int tf, .int mt, .int mf, .ref ma, .int (nI mn)])), (ma, .inl (cZ, 1024, .inl (io)))] := hD
  refine lv_if_ne (tgt := 13) hx hb d_M_assume_6 rfl (fun hc6 => ?_) (fun hc6 => absurd hx9 (it0 hc6))
  refine lv_aload_n hx hb d_M_assume_13 rfl (lv_at hl 0 rfl) ?_
  refine va_get (D := D) (ci := 4) (v := .int (nI an)) (C := R_M) (T := T_M) (N := 12) hx hb hts u_M hown hK hP 0 rfl rfl 4 (by decide) (hts _ f_M_43) (fun _ h9 => h9) rfl d_M_assume_14 ?_
  refine lv_bipush (v := 10) hx hb d_M_assume_17 (by decide +kernel) ?_
  refine lv_icmp_ne (tgt := 26) hx hb d_M_assume_19 rfl (fun hc19 => ?_) (fun hc19 => absurd ((nI_eq (b := 10) (by omega) (by decide)).1 hc19) (by omega))
  refine lv_iconst (v := 0) hx hb d_M_assume_26 (by decide) ?_
  refine va_put (D := D) (ci := 4) (v := .int 0) (ty := .int) (C := R_M) (T := T_M) (N := 12) hx hb hts u_M t_M t_M_ok n_M hown hK hP hD hS 0 rfl rfl 0 (by decide) (hts _ f_M_17) (fun _ h9 => h9) rfl (by decide +kernel) rfl rfl (Nat.le_of_ble_eq_true rfl) d_M_assume_27 (fun H locs hP hD hS => ?_)
  have hP : va_P D cls_ [(m0, .inr (4, [.int 0, .int (nI vn), .int (nI kn), .int (nI tn), .int (nI an), .int mo, .int tt, .int tf, .int mt, .int mf, .ref ma, .int (nI mn)])), (ma, .inl (cZ, 1024, .inl (io)))] H := hP
  have hD : va_D A [(m0, .inr (4, [.int 0, .int (nI vn), .int (nI kn), .int (nI tn), .int (nI an), .int mo, .int tt, .int tf, .int mt, .int mf, .ref ma, .int (nI mn)])), (ma, .inl (cZ, 1024, .inl (io)))] := hD
  refine lv_aload_n hx hb d_M_assume_30 rfl (lv_at hl 0 rfl) ?_
  refine va_get (D := D) (ci := 4) (v := .int 0) (C := R_M) (T := T_M) (N := 12) hx hb hts u_M hown hK hP 0 rfl rfl 0 (by decide) (hts _ f_M_17) (fun _ h9 => h9) rfl d_M_assume_31 ?_
  refine lv_if_eq (tgt := 38) hx hb d_M_assume_34 rfl (fun hc34 => ?_) (fun hc34 => absurd rfl hc34)
  refine lv_iload_n hx hb d_M_assume_38 rfl (lv_at hl 1 rfl) ?_
  refine lv_if_le (tgt := 59) hx hb d_M_assume_39 rfl (fun hc39 => ?_) (fun hc39 => ?_)
  · refine lv_aload_n hx hb d_M_assume_59 rfl (lv_at hl 0 rfl) ?_
    refine lv_dup hx hb d_M_assume_60 rfl ?_
    refine va_get (D := D) (ci := 4) (v := .int mf) (C := R_M) (T := T_M) (N := 12) hx hb hts u_M hown hK hP 0 rfl rfl 9 (by decide) (hts _ f_M_49) (fun _ h9 => h9) rfl d_M_assume_61 ?_
    refine lv_iconst (v := 1) hx hb d_M_assume_64 (by decide) ?_
    refine lv_iload_n hx hb d_M_assume_65 rfl (lv_at hl 1 rfl) ?_
    refine lv_ineg hx hb d_M_assume_66 ?_
    refine lv_iconst (v := 1) hx hb d_M_assume_67 (by decide) ?_
    refine lv_isub hx hb d_M_assume_68 ?_
    refine lv_ishl hx hb d_M_assume_69 ?_
    refine lv_ior hx hb d_M_assume_70 ?_
    refine va_put (D := D) (ci := 4) (v := .int (mf ||| (1 <<< (((-x) - 1) &&& 31)))) (ty := .int) (C := R_M) (T := T_M) (N := 12) hx hb hts u_M t_M t_M_ok n_M hown hK hP hD hS 0 rfl rfl 9 (by decide) (hts _ f_M_49) (fun _ h9 => h9) rfl (by decide +kernel) rfl rfl (Nat.le_of_ble_eq_true rfl) d_M_assume_71 (fun H locs hP hD hS => ?_)
    have hP : va_P D cls_ [(m0, .inr (4, [.int 0, .int (nI vn), .int (nI kn), .int (nI tn), .int (nI an), .int mo, .int tt, .int tf, .int mt, .int (mf ||| (1 <<< (((-x) - 1) &&& 31))), .ref ma, .int (nI mn)])), (ma, .inl (cZ, 1024, .inl (io)))] H := hP
    have hD : va_D A [(m0, .inr (4, [.int 0, .int (nI vn), .int (nI kn), .int (nI tn), .int (nI an), .int mo, .int tt, .int tf, .int mt, .int (mf ||| (1 <<< (((-x) - 1) &&& 31))), .ref ma, .int (nI mn)])), (ma, .inl (cZ, 1024, .inl (io)))] := hD
    refine lv_aload_n hx hb d_M_assume_74 rfl (lv_at hl 0 rfl) ?_
    refine lv_dup hx hb d_M_assume_75 rfl ?_
    refine va_get (D := D) (ci := 4) (v := .int (nI an)) (C := R_M) (T := T_M) (N := 12) hx hb hts u_M hown hK hP 0 rfl rfl 4 (by decide) (hts _ f_M_43) (fun _ h9 => h9) rfl d_M_assume_76 ?_
    refine lv_iconst (v := 1) hx hb d_M_assume_79 (by decide) ?_
    refine lv_iadd hx hb d_M_assume_80 ?_
    refine va_put (D := D) (ci := 4) (v := .int ((nI an) + 1)) (ty := .int) (C := R_M) (T := T_M) (N := 12) hx hb hts u_M t_M t_M_ok n_M hown hK hP hD hS 0 rfl rfl 4 (by decide) (hts _ f_M_43) (fun _ h9 => h9) rfl (by decide +kernel) rfl rfl (Nat.le_of_ble_eq_true rfl) d_M_assume_81 (fun H locs hP hD hS => ?_)
    have hP : va_P D cls_ [(m0, .inr (4, [.int 0, .int (nI vn), .int (nI kn), .int (nI tn), .int ((nI an) + 1), .int mo, .int tt, .int tf, .int mt, .int (mf ||| (1 <<< (((-x) - 1) &&& 31))), .ref ma, .int (nI mn)])), (ma, .inl (cZ, 1024, .inl (io)))] H := hP
    have hD : va_D A [(m0, .inr (4, [.int 0, .int (nI vn), .int (nI kn), .int (nI tn), .int ((nI an) + 1), .int mo, .int tt, .int tf, .int mt, .int (mf ||| (1 <<< (((-x) - 1) &&& 31))), .ref ma, .int (nI mn)])), (ma, .inl (cZ, 1024, .inl (io)))] := hD
    rw [nI_1] at hP hD
    rw [if_neg (Int32.not_lt.mpr hc39), if_neg (Int32.not_lt.mpr hc39)] at fin
    exact fin _ _ _ _ hP hD hS d_M_assume_84
  · refine lv_aload_n hx hb d_M_assume_42 rfl (lv_at hl 0 rfl) ?_
    refine lv_dup hx hb d_M_assume_43 rfl ?_
    refine va_get (D := D) (ci := 4) (v := .int mt) (C := R_M) (T := T_M) (N := 12) hx hb hts u_M hown hK hP 0 rfl rfl 8 (by decide) (hts _ f_M_46) (fun _ h9 => h9) rfl d_M_assume_44 ?_
    refine lv_iconst (v := 1) hx hb d_M_assume_47 (by decide) ?_
    refine lv_iload_n hx hb d_M_assume_48 rfl (lv_at hl 1 rfl) ?_
    refine lv_iconst (v := 1) hx hb d_M_assume_49 (by decide) ?_
    refine lv_isub hx hb d_M_assume_50 ?_
    refine lv_ishl hx hb d_M_assume_51 ?_
    refine lv_ior hx hb d_M_assume_52 ?_
    refine va_put (D := D) (ci := 4) (v := .int (mt ||| (1 <<< ((x - 1) &&& 31)))) (ty := .int) (C := R_M) (T := T_M) (N := 12) hx hb hts u_M t_M t_M_ok n_M hown hK hP hD hS 0 rfl rfl 8 (by decide) (hts _ f_M_46) (fun _ h9 => h9) rfl (by decide +kernel) rfl rfl (Nat.le_of_ble_eq_true rfl) d_M_assume_53 (fun H locs hP hD hS => ?_)
    have hP : va_P D cls_ [(m0, .inr (4, [.int 0, .int (nI vn), .int (nI kn), .int (nI tn), .int (nI an), .int mo, .int tt, .int tf, .int (mt ||| (1 <<< ((x - 1) &&& 31))), .int mf, .ref ma, .int (nI mn)])), (ma, .inl (cZ, 1024, .inl (io)))] H := hP
    have hD : va_D A [(m0, .inr (4, [.int 0, .int (nI vn), .int (nI kn), .int (nI tn), .int (nI an), .int mo, .int tt, .int tf, .int (mt ||| (1 <<< ((x - 1) &&& 31))), .int mf, .ref ma, .int (nI mn)])), (ma, .inl (cZ, 1024, .inl (io)))] := hD
    refine lv_goto (tgt := 74) hx hb d_M_assume_56 rfl ?_
    refine lv_aload_n hx hb d_M_assume_74 rfl (lv_at hl 0 rfl) ?_
    refine lv_dup hx hb d_M_assume_75 rfl ?_
    refine va_get (D := D) (ci := 4) (v := .int (nI an)) (C := R_M) (T := T_M) (N := 12) hx hb hts u_M hown hK hP 0 rfl rfl 4 (by decide) (hts _ f_M_43) (fun _ h9 => h9) rfl d_M_assume_76 ?_
    refine lv_iconst (v := 1) hx hb d_M_assume_79 (by decide) ?_
    refine lv_iadd hx hb d_M_assume_80 ?_
    refine va_put (D := D) (ci := 4) (v := .int ((nI an) + 1)) (ty := .int) (C := R_M) (T := T_M) (N := 12) hx hb hts u_M t_M t_M_ok n_M hown hK hP hD hS 0 rfl rfl 4 (by decide) (hts _ f_M_43) (fun _ h9 => h9) rfl (by decide +kernel) rfl rfl (Nat.le_of_ble_eq_true rfl) d_M_assume_81 (fun H locs hP hD hS => ?_)
    have hP : va_P D cls_ [(m0, .inr (4, [.int 0, .int (nI vn), .int (nI kn), .int (nI tn), .int ((nI an) + 1), .int mo, .int tt, .int tf, .int (mt ||| (1 <<< ((x - 1) &&& 31))), .int mf, .ref ma, .int (nI mn)])), (ma, .inl (cZ, 1024, .inl (io)))] H := hP
    have hD : va_D A [(m0, .inr (4, [.int 0, .int (nI vn), .int (nI kn), .int (nI tn), .int ((nI an) + 1), .int mo, .int tt, .int tf, .int (mt ||| (1 <<< ((x - 1) &&& 31))), .int mf, .ref ma, .int (nI mn)])), (ma, .inl (cZ, 1024, .inl (io)))] := hD
    rw [nI_1] at hP hD
    rw [if_pos (Int32.not_le.mp hc39), if_pos (Int32.not_le.mp hc39)] at fin
    exact fin _ _ _ _ hP hD hS d_M_assume_84
set_option maxHeartbeats 4000000 in
set_option maxRecDepth 100000 in
theorem k_M_close_r (l : Launch) (D : va_G) (cZ : ClassId) (m0 ma : Nat) (th : Int32) (vn kn tn an : Nat) (mo tt tf mt mf : Int32) (io : Nat → Int32) (mn : Nat) (hv : kn = 500) : KTi l y_M_close c_M_close 2 .int { frames := 1, cells := 0, slots := 0, locals := 21 } D [(cZ, .boolean)] [.ref m0] (wM cZ m0 ma th vn kn tn an mo tt tf mt mf io mn) (0) (wM cZ m0 ma 1 vn kn tn an mo tt tf mt mf io mn) := by
  refine KTi_of (own := R_M) (by decide +kernel) rfl (Nat.le_of_ble_eq_true rfl) (vp_nar_int _) ?_
  intro p e st m below meth c A ls Q hx hb hml hts hown hK hP hD hS hA hl fin
  refine lv_aload_n hx hb d_M_close_0 rfl (lv_at hl 0 rfl) ?_
  refine va_get (D := D) (ci := 4) (v := .int (nI kn)) (C := R_M) (T := T_M) (N := 12) hx hb hts u_M hown hK hP 0 rfl rfl 2 (by decide) (hts _ f_M_40) (fun _ h9 => h9) rfl d_M_close_1 ?_
  refine lv_sipush (v := 500) hx hb d_M_close_4 (by decide +kernel) ?_
  refine lv_icmp_ne (tgt := 16) hx hb d_M_close_7 rfl (fun hc7 => absurd (by rw [hv]; rfl) hc7) (fun hc7 => ?_)
  refine lv_aload_n hx hb d_M_close_10 rfl (lv_at hl 0 rfl) ?_
  refine lv_iconst (v := 1) hx hb d_M_close_11 (by decide) ?_
  refine CTi_V (isC := [0, 1]) (isR := []) (wr := []) (wi := [(m0, .inr (4, [.int th, .int (nI vn), .int (nI kn), .int (nI tn), .int (nI an), .int mo, .int tt, .int tf, .int mt, .int mf, .ref ma, .int (nI mn)])), (ma, .inl (cZ, 1024, .inl (io)))]) (wo := [(m0, .inr (4, [.int 1, .int (nI vn), .int (nI kn), .int (nI tn), .int (nI an), .int mo, .int tt, .int tf, .int mt, .int mf, .ref ma, .int (nI mn)])), (ma, .inl (cZ, 1024, .inl (io)))]) (b := m0) (As := [.int 1]) (rest := []) ⟨hx, hb, hml, hown, hts⟩ [0] (k_M_no l D cZ m0 ma th vn kn tn an mo tt tf mt mf io mn 1) (cwV 1 hts v_M_23 rfl rfl rfl (by decide +kernel) ⟨Nat.le_of_ble_eq_true rfl, Nat.le_of_ble_eq_true rfl⟩) ⟨rfl, rfl, rfl, rfl, by decide⟩ rfl hK hP hD hS hA (va_recv (ci := 4) hK hP rfl (q0 := 0) rfl) rfl hl.1 (Nat.le_of_ble_eq_true rfl) d_M_close_12 ⟨Nat.le_of_ble_eq_true rfl, Nat.le_of_ble_eq_true rfl⟩ (fun H locs hP hD hS => ?_)
  have hP : va_P D cls_ [(m0, .inr (4, [.int 1, .int (nI vn), .int (nI kn), .int (nI tn), .int (nI an), .int mo, .int tt, .int tf, .int mt, .int mf, .ref ma, .int (nI mn)])), (ma, .inl (cZ, 1024, .inl (io)))] H := hP
  have hD : va_D A [(m0, .inr (4, [.int 1, .int (nI vn), .int (nI kn), .int (nI tn), .int (nI an), .int mo, .int tt, .int tf, .int mt, .int mf, .ref ma, .int (nI mn)])), (ma, .inl (cZ, 1024, .inl (io)))] := hD
  exact fin _ _ _ _ _ hP hD hS (rfl) d_M_close_15
set_option maxHeartbeats 4000000 in
set_option maxRecDepth 100000 in
theorem k_M_close (l : Launch) (D : va_G) (cZ : ClassId) (m0 ma : Nat) (th : Int32) (vn kn tn an : Nat) (mo tt tf mt mf : Int32) (io : Nat → Int32) (mn : Nat) (hv : kn < 500) : KTi l y_M_close c_M_close 2 .int { frames := 1, cells := 0, slots := 0, locals := 21 } D [(cZ, .boolean)] [.ref m0] (wM cZ m0 ma th vn kn tn an mo tt tf mt mf io mn) (nI kn) (wM cZ m0 ma 0 vn ((kn + 1)) 0 an mo 0 0 mt mf ((clo io tt tf 1024)) mn) := by
  refine KTi_of (own := R_M) (by decide +kernel) rfl (Nat.le_of_ble_eq_true rfl) (vp_nar_int _) ?_
  intro p e st m below meth c A ls Q hx hb hml hts hown hK hP hD hS hA hl fin
  have loop : ∀ (k x : Nat) (ls : Array Slot) (H : Heap) (locs : List Loc), x + k = 1024 → va_P D cls_ [(m0, .inr (4, [.int 0, .int (nI vn), .int (nI kn), .int (nI tn), .int (nI an), .int mo, .int tt, .int tf, .int mt, .int mf, .ref ma, .int (nI mn)])), (ma, .inl (cZ, 1024, .inl (clo io tt tf x)))] H → va_D A [(m0, .inr (4, [.int 0, .int (nI vn), .int (nI kn), .int (nI tn), .int (nI an), .int mo, .int tt, .int tf, .int mt, .int mf, .ref ma, .int (nI mn)])), (ma, .inl (cZ, 1024, .inl (clo io tt tf x)))] → va_S A st.heap H locs → lv_has ls 2 [(1, .int (nI x)), (0, .ref m0)] → W p l e { frames := 1, cells := 0, slots := 0, locals := 21 } st m [Value.ref m0].toArray below meth c H locs 0 0 Q (F0 m 23 ls []) := by
    intro k
    induction k with
    | zero =>
      intro x ls H locs hx9 hP hD hS hl
      have hx9 : x = 1024 := by omega
      subst hx9
      refine lv_iload_n hx hb d_M_close_23 rfl (lv_at hl 0 rfl) ?_
      refine lv_aload_n hx hb d_M_close_24 rfl (lv_at hl 1 rfl) ?_
      refine va_get (D := D) (ci := 4) (v := .ref ma) (C := R_M) (T := T_M) (N := 12) hx hb hts u_M hown hK hP 0 rfl rfl 10 (by decide) (hts _ f_M_13) (fun _ h9 => h9) rfl d_M_close_25 ?_
      refine va_alen (v := 1024) hx hb hK hP 1 0 rfl rfl rfl d_M_close_28 ?_
      refine lv_icmp_ge (tgt := 65) hx hb d_M_close_29 rfl (fun hc29 => ?_) (fun hc29 => absurd (by decide +kernel) hc29)
      refine lv_aload_n hx hb d_M_close_65 rfl (lv_at hl 1 rfl) ?_
      refine lv_iconst (v := 0) hx hb d_M_close_66 (by decide) ?_
      refine va_put (D := D) (ci := 4) (v := .int 0) (ty := .int) (C := R_M) (T := T_M) (N := 12) hx hb hts u_M t_M t_M_ok n_M hown hK hP hD hS 0 rfl rfl 6 (by decide) (hts _ f_M_34) (fun _ h9 => h9) rfl (by decide +kernel) rfl rfl (Nat.le_of_ble_eq_true rfl) d_M_close_67 (fun H locs hP hD hS => ?_)
      have hP : va_P D cls_ [(m0, .inr (4, [.int 0, .int (nI vn), .int (nI kn), .int (nI tn), .int (nI an), .int mo, .int 0, .int tf, .int mt, .int mf, .ref ma, .int (nI mn)])), (ma, .inl (cZ, 1024, .inl (clo io tt tf 1024)))] H := hP
      have hD : va_D A [(m0, .inr (4, [.int 0, .int (nI vn), .int (nI kn), .int (nI tn), .int (nI an), .int mo, .int 0, .int tf, .int mt, .int mf, .ref ma, .int (nI mn)])), (ma, .inl (cZ, 1024, .inl (clo io tt tf 1024)))] := hD
      refine lv_aload_n hx hb d_M_close_70 rfl (lv_at hl 1 rfl) ?_
      refine lv_iconst (v := 0) hx hb d_M_close_71 (by decide) ?_
      refine va_put (D := D) (ci := 4) (v := .int 0) (ty := .int) (C := R_M) (T := T_M) (N := 12) hx hb hts u_M t_M t_M_ok n_M hown hK hP hD hS 0 rfl rfl 7 (by decide) (hts _ f_M_37) (fun _ h9 => h9) rfl (by decide +kernel) rfl rfl (Nat.le_of_ble_eq_true rfl) d_M_close_72 (fun H locs hP hD hS => ?_)
      have hP : va_P D cls_ [(m0, .inr (4, [.int 0, .int (nI vn), .int (nI kn), .int (nI tn), .int (nI an), .int mo, .int 0, .int 0, .int mt, .int mf, .ref ma, .int (nI mn)])), (ma, .inl (cZ, 1024, .inl (clo io tt tf 1024)))] H := hP
      have hD : va_D A [(m0, .inr (4, [.int 0, .int (nI vn), .int (nI kn), .int (nI tn), .int (nI an), .int mo, .int 0, .int 0, .int mt, .int mf, .ref ma, .int (nI mn)])), (ma, .inl (cZ, 1024, .inl (clo io tt tf 1024)))] := hD
      refine lv_aload_n hx hb d_M_close_75 rfl (lv_at hl 1 rfl) ?_
      refine lv_iconst (v := 0) hx hb d_M_close_76 (by decide) ?_
      refine va_put (D := D) (ci := 4) (v := .int 0) (ty := .int) (C := R_M) (T := T_M) (N := 12) hx hb hts u_M t_M t_M_ok n_M hown hK hP hD hS 0 rfl rfl 3 (by decide) (hts _ f_M_31) (fun _ h9 => h9) rfl (by decide +kernel) rfl rfl (Nat.le_of_ble_eq_true rfl) d_M_close_77 (fun H locs hP hD hS => ?_)
      have hP : va_P D cls_ [(m0, .inr (4, [.int 0, .int (nI vn), .int (nI kn), .int 0, .int (nI an), .int mo, .int 0, .int 0, .int mt, .int mf, .ref ma, .int (nI mn)])), (ma, .inl (cZ, 1024, .inl (clo io tt tf 1024)))] H := hP
      have hD : va_D A [(m0, .inr (4, [.int 0, .int (nI vn), .int (nI kn), .int 0, .int (nI an), .int mo, .int 0, .int 0, .int mt, .int mf, .ref ma, .int (nI mn)])), (ma, .inl (cZ, 1024, .inl (clo io tt tf 1024)))] := hD
      refine lv_aload_n hx hb d_M_close_80 rfl (lv_at hl 1 rfl) ?_
      refine lv_dup hx hb d_M_close_81 rfl ?_
      refine va_get (D := D) (ci := 4) (v := .int (nI kn)) (C := R_M) (T := T_M) (N := 12) hx hb hts u_M hown hK hP 0 rfl rfl 2 (by decide) (hts _ f_M_40) (fun _ h9 => h9) rfl d_M_close_82 ?_
      refine lv_iconst (v := 1) hx hb d_M_close_85 (by decide) ?_
      refine lv_iadd hx hb d_M_close_86 ?_
      refine va_put (D := D) (ci := 4) (v := .int ((nI kn) + 1)) (ty := .int) (C := R_M) (T := T_M) (N := 12) hx hb hts u_M t_M t_M_ok n_M hown hK hP hD hS 0 rfl rfl 2 (by decide) (hts _ f_M_40) (fun _ h9 => h9) rfl (by decide +kernel) rfl rfl (Nat.le_of_ble_eq_true rfl) d_M_close_87 (fun H locs hP hD hS => ?_)
      have hP : va_P D cls_ [(m0, .inr (4, [.int 0, .int (nI vn), .int ((nI kn) + 1), .int 0, .int (nI an), .int mo, .int 0, .int 0, .int mt, .int mf, .ref ma, .int (nI mn)])), (ma, .inl (cZ, 1024, .inl (clo io tt tf 1024)))] H := hP
      have hD : va_D A [(m0, .inr (4, [.int 0, .int (nI vn), .int ((nI kn) + 1), .int 0, .int (nI an), .int mo, .int 0, .int 0, .int mt, .int mf, .ref ma, .int (nI mn)])), (ma, .inl (cZ, 1024, .inl (clo io tt tf 1024)))] := hD
      refine lv_aload_n hx hb d_M_close_90 rfl (lv_at hl 1 rfl) ?_
      refine va_get (D := D) (ci := 4) (v := .int ((nI kn) + 1)) (C := R_M) (T := T_M) (N := 12) hx hb hts u_M hown hK hP 0 rfl rfl 2 (by decide) (hts _ f_M_40) (fun _ h9 => h9) rfl d_M_close_91 ?_
      refine lv_iconst (v := 1) hx hb d_M_close_94 (by decide) ?_
      refine lv_isub hx hb d_M_close_95 ?_
      rw [nI_1] at hP hD
      exact fin _ _ _ _ _ hP hD hS (by rw [nI_1, nI_pred]) d_M_close_96
    | succ k ih =>
      intro x ls H locs hx9 hP hD hS hl
      refine lv_iload_n hx hb d_M_close_23 rfl (lv_at hl 0 rfl) ?_
      refine lv_aload_n hx hb d_M_close_24 rfl (lv_at hl 1 rfl) ?_
      refine va_get (D := D) (ci := 4) (v := .ref ma) (C := R_M) (T := T_M) (N := 12) hx hb hts u_M hown hK hP 0 rfl rfl 10 (by decide) (hts _ f_M_13) (fun _ h9 => h9) rfl d_M_close_25 ?_
      refine va_alen (v := 1024) hx hb hK hP 1 0 rfl rfl rfl d_M_close_28 ?_
      refine lv_icmp_ge (tgt := 65) hx hb d_M_close_29 rfl (fun hc29 => absurd hc29 (nI_ge (b := 1024) (by omega) (by decide))) (fun hc29 => ?_)
      refine lv_iload_n hx hb d_M_close_32 rfl (lv_at hl 0 rfl) ?_
      refine lv_aload_n hx hb d_M_close_33 rfl (lv_at hl 1 rfl) ?_
      refine va_get (D := D) (ci := 4) (v := .int tt) (C := R_M) (T := T_M) (N := 12) hx hb hts u_M hown hK hP 0 rfl rfl 6 (by decide) (hts _ f_M_34) (fun _ h9 => h9) rfl d_M_close_34 ?_
      refine lv_iand hx hb d_M_close_37 ?_
      refine lv_if_ne (tgt := 59) hx hb d_M_close_38 rfl (fun hc38 => ?_) (fun hc38 => ?_)
      · refine lv_iinc (k := 0) (v := (nI (x + 1))) (lv' := [(1, .int (nI (x + 1))), (0, .ref m0)]) hx hb d_M_close_59 hl rfl (nI_1 x) (by decide) rfl (fun ls hl => ?_)
        refine lv_goto (tgt := 23) hx hb d_M_close_62 rfl ?_
        rw [show clo io tt tf x = clo io tt tf (x + 1) from clo_f (fun h => hc38 h.1)] at hP hD
        exact ih (x + 1) ls H locs (by omega) hP hD hS (lv_sub hl [0, 1] rfl)
      · refine lv_iload_n hx hb d_M_close_41 rfl (lv_at hl 0 rfl) ?_
        refine lv_iconst (v := (-1)) hx hb d_M_close_42 (by decide) ?_
        refine lv_ixor hx hb d_M_close_43 ?_
        refine lv_aload_n hx hb d_M_close_44 rfl (lv_at hl 1 rfl) ?_
        refine va_get (D := D) (ci := 4) (v := .int tf) (C := R_M) (T := T_M) (N := 12) hx hb hts u_M hown hK hP 0 rfl rfl 7 (by decide) (hts _ f_M_37) (fun _ h9 => h9) rfl d_M_close_45 ?_
        refine lv_iand hx hb d_M_close_48 ?_
        refine lv_if_ne (tgt := 59) hx hb d_M_close_49 rfl (fun hc49 => ?_) (fun hc49 => ?_)
        · refine lv_iinc (k := 0) (v := (nI (x + 1))) (lv' := [(1, .int (nI (x + 1))), (0, .ref m0)]) hx hb d_M_close_59 hl rfl (nI_1 x) (by decide) rfl (fun ls hl => ?_)
          refine lv_goto (tgt := 23) hx hb d_M_close_62 rfl ?_
          rw [show clo io tt tf x = clo io tt tf (x + 1) from clo_f (fun h => hc49 h.2)] at hP hD
          exact ih (x + 1) ls H locs (by omega) hP hD hS (lv_sub hl [0, 1] rfl)
        · refine lv_aload_n hx hb d_M_close_52 rfl (lv_at hl 1 rfl) ?_
          refine va_get (D := D) (ci := 4) (v := .ref ma) (C := R_M) (T := T_M) (N := 12) hx hb hts u_M hown hK hP 0 rfl rfl 10 (by decide) (hts _ f_M_13) (fun _ h9 => h9) rfl d_M_close_53 ?_
          refine lv_iload_n hx hb d_M_close_56 rfl (lv_at hl 0 rfl) ?_
          refine lv_iconst (v := 1) hx hb d_M_close_57 (by decide) ?_
          refine va_zast (D := D) (i := (nI x)) (x := 1) hx hb hK hP hD hS 1 0 rfl rfl (vp_in_nI (show x < 1024 by omega) (by decide)) d_M_close_58 (fun H locs hP hD hS => ?_)
          rw [show ((nI x) : Int32).toNatClampNeg = x from nI_clamp (by omega)] at hP hD
          have hP : va_P D cls_ [(m0, .inr (4, [.int 0, .int (nI vn), .int (nI kn), .int (nI tn), .int (nI an), .int mo, .int tt, .int tf, .int mt, .int mf, .ref ma, .int (nI mn)])), (ma, .inl (cZ, 1024, .inl (upd (clo io tt tf x) (x) (vp_nar .boolean (1)))))] H := hP
          have hD : va_D A [(m0, .inr (4, [.int 0, .int (nI vn), .int (nI kn), .int (nI tn), .int (nI an), .int mo, .int tt, .int tf, .int mt, .int mf, .ref ma, .int (nI mn)])), (ma, .inl (cZ, 1024, .inl (upd (clo io tt tf x) (x) (vp_nar .boolean (1)))))] := hD
          refine lv_iinc (k := 0) (v := (nI (x + 1))) (lv' := [(1, .int (nI (x + 1))), (0, .ref m0)]) hx hb d_M_close_59 hl rfl (nI_1 x) (by decide) rfl (fun ls hl => ?_)
          refine lv_goto (tgt := 23) hx hb d_M_close_62 rfl ?_
          rw [show upd (clo io tt tf x) x (vp_nar .boolean 1) = clo io tt tf (x + 1) from clo_t ⟨hc38, hc49⟩] at hP hD
          exact ih (x + 1) ls H locs (by omega) hP hD hS (lv_sub hl [0, 1] rfl)
  refine lv_aload_n hx hb d_M_close_0 rfl (lv_at hl 0 rfl) ?_
  refine va_get (D := D) (ci := 4) (v := .int (nI kn)) (C := R_M) (T := T_M) (N := 12) hx hb hts u_M hown hK hP 0 rfl rfl 2 (by decide) (hts _ f_M_40) (fun _ h9 => h9) rfl d_M_close_1 ?_
  refine lv_sipush (v := 500) hx hb d_M_close_4 (by decide +kernel) ?_
  refine lv_icmp_ne (tgt := 16) hx hb d_M_close_7 rfl (fun hc7 => ?_) (fun hc7 => absurd ((nI_eq (b := 500) (by omega) (by decide)).1 hc7) (by omega))
  refine lv_aload_n hx hb d_M_close_16 rfl (lv_at hl 0 rfl) ?_
  refine lv_iconst (v := 0) hx hb d_M_close_17 (by decide) ?_
  refine va_put (D := D) (ci := 4) (v := .int 0) (ty := .int) (C := R_M) (T := T_M) (N := 12) hx hb hts u_M t_M t_M_ok n_M hown hK hP hD hS 0 rfl rfl 0 (by decide) (hts _ f_M_17) (fun _ h9 => h9) rfl (by decide +kernel) rfl rfl (Nat.le_of_ble_eq_true rfl) d_M_close_18 (fun H locs hP hD hS => ?_)
  have hP : va_P D cls_ [(m0, .inr (4, [.int 0, .int (nI vn), .int (nI kn), .int (nI tn), .int (nI an), .int mo, .int tt, .int tf, .int mt, .int mf, .ref ma, .int (nI mn)])), (ma, .inl (cZ, 1024, .inl (io)))] H := hP
  have hD : va_D A [(m0, .inr (4, [.int 0, .int (nI vn), .int (nI kn), .int (nI tn), .int (nI an), .int mo, .int tt, .int tf, .int mt, .int mf, .ref ma, .int (nI mn)])), (ma, .inl (cZ, 1024, .inl (io)))] := hD
  refine lv_iconst (v := 0) hx hb d_M_close_21 (by decide) ?_
  refine lv_istore_n (lv' := [(1, .int 0), (0, .ref m0)]) hx hb d_M_close_22 rfl hl (by decide) rfl (fun ls hl => ?_)
  rw [show io = clo io tt tf 0 from (clo_0 io tt tf).symm] at hP hD
  exact loop 1024 0 ls H locs (by omega) hP hD hS (lv_sub hl [0, 1] rfl)
set_option maxHeartbeats 4000000 in
set_option maxRecDepth 100000 in
theorem k_M_values (l : Launch) (D : va_G) (cZ : ClassId) (m0 ma : Nat) (th : Int32) (vn kn tn an : Nat) (mo tt tf mt mf : Int32) (io : Nat → Int32) (mn : Nat) (hvn : vn ≤ 10) (x : Nat) (hx9 : x < 1024) : KTi l y_M_values c_M_values 4 .int { frames := 0, cells := 0, slots := 0, locals := 0 } D [(cZ, .boolean)] [.ref m0, .int (nI x)] (wM cZ m0 ma th vn kn tn an mo tt tf mt mf io mn) (nI (rv x vn)) (wM cZ m0 ma th vn kn tn an mo tt tf mt mf io mn) := by
  refine KTi_of (own := R_M) (by decide +kernel) rfl (Nat.le_of_ble_eq_true rfl) (vp_nar_int _) ?_
  intro p e st m below meth c A ls Q hx hb hml hts hown hK hP hD hS hA hl fin
  have loop : ∀ (k j : Nat) (ls : Array Slot) (H : Heap) (locs : List Loc), j + k = vn → va_P D cls_ [(m0, .inr (4, [.int th, .int (nI vn), .int (nI kn), .int (nI tn), .int (nI an), .int mo, .int tt, .int tf, .int mt, .int mf, .ref ma, .int (nI mn)])), (ma, .inl (cZ, 1024, .inl (io)))] H → va_D A [(m0, .inr (4, [.int th, .int (nI vn), .int (nI kn), .int (nI tn), .int (nI an), .int mo, .int tt, .int tf, .int mt, .int mf, .ref ma, .int (nI mn)])), (ma, .inl (cZ, 1024, .inl (io)))] → va_S A st.heap H locs → lv_has ls 4 [(3, .int (nI j)), (2, .int (nI (rv x j))), (0, .ref m0), (1, .int (nI x))] → W p l e { frames := 0, cells := 0, slots := 0, locals := 0 } st m [Value.ref m0, Value.int (nI x)].toArray below meth c H locs 0 0 Q (F0 m 4 ls []) := by
    intro k
    induction k with
    | zero =>
      intro j ls H locs hj hP hD hS hl
      have hj : j = vn := by omega
      subst hj
      refine lv_iload_n hx hb d_M_values_4 rfl (lv_at hl 0 rfl) ?_
      refine lv_aload_n hx hb d_M_values_5 rfl (lv_at hl 2 rfl) ?_
      refine va_get (D := D) (ci := 4) (v := .int (nI j)) (C := R_M) (T := T_M) (N := 12) hx hb hts u_M hown hK hP 0 rfl rfl 1 (by decide) (hts _ f_M_20) (fun _ h9 => h9) rfl d_M_values_6 ?_
      refine lv_icmp_ge (tgt := 28) hx hb d_M_values_9 rfl (fun hc9 => ?_) (fun hc9 => absurd (nI_le (by omega) (by omega)) hc9)
      refine lv_iload_n hx hb d_M_values_28 rfl (lv_at hl 1 rfl) ?_
      exact fin _ _ _ _ _ hP hD hS (rfl) d_M_values_29
    | succ k ih =>
      intro j ls H locs hj hP hD hS hl
      refine lv_iload_n hx hb d_M_values_4 rfl (lv_at hl 0 rfl) ?_
      refine lv_aload_n hx hb d_M_values_5 rfl (lv_at hl 2 rfl) ?_
      refine va_get (D := D) (ci := 4) (v := .int (nI vn)) (C := R_M) (T := T_M) (N := 12) hx hb hts u_M hown hK hP 0 rfl rfl 1 (by decide) (hts _ f_M_20) (fun _ h9 => h9) rfl d_M_values_6 ?_
      refine lv_icmp_ge (tgt := 28) hx hb d_M_values_9 rfl (fun hc9 => absurd hc9 (nI_ge (by omega) (by omega))) (fun hc9 => ?_)
      refine lv_iload_n hx hb d_M_values_12 rfl (lv_at hl 1 rfl) ?_
      refine lv_iconst (v := 1) hx hb d_M_values_13 (by decide) ?_
      refine lv_ishl hx hb d_M_values_14 ?_
      refine lv_iload_n hx hb d_M_values_15 rfl (lv_at hl 3 rfl) ?_
      refine lv_iload_n hx hb d_M_values_16 rfl (lv_at hl 0 rfl) ?_
      refine lv_ishr hx hb d_M_values_17 ?_
      refine lv_iconst (v := 1) hx hb d_M_values_18 (by decide) ?_
      refine lv_iand hx hb d_M_values_19 ?_
      refine lv_ior hx hb d_M_values_20 ?_
      rw [val_step (show j < 10 by omega) hx9 (show rv x j < 512 from Nat.lt_of_lt_of_le (rv_lt x j) (show 2 ^ j ≤ 2 ^ 9 from Nat.pow_le_pow_right (by omega) (by omega)))]
      refine lv_istore_n (lv' := [(2, .int (nI (rv x (j + 1)))), (3, .int (nI j)), (0, .ref m0), (1, .int (nI x))]) hx hb d_M_values_21 rfl hl (by decide) rfl (fun ls hl => ?_)
      refine lv_iinc (k := 1) (v := (nI (j + 1))) (lv' := [(3, .int (nI (j + 1))), (2, .int (nI (rv x (j + 1)))), (0, .ref m0), (1, .int (nI x))]) hx hb d_M_values_22 hl rfl (nI_1 j) (by decide) rfl (fun ls hl => ?_)
      refine lv_goto (tgt := 4) hx hb d_M_values_25 rfl ?_
      exact ih (j + 1) ls H locs (by omega) hP hD hS (lv_sub hl [0, 1, 2, 3] rfl)
  refine lv_iconst (v := 0) hx hb d_M_values_0 (by decide) ?_
  refine lv_istore_n (lv' := [(2, .int 0), (0, .ref m0), (1, .int (nI x))]) hx hb d_M_values_1 rfl hl (by decide) rfl (fun ls hl => ?_)
  refine lv_iconst (v := 0) hx hb d_M_values_2 (by decide) ?_
  refine lv_istore_n (lv' := [(3, .int 0), (2, .int 0), (0, .ref m0), (1, .int (nI x))]) hx hb d_M_values_3 rfl hl (by decide) rfl (fun ls hl => ?_)
  exact loop vn 0 ls st.heap [] (by omega) hP hD hS (lv_sub hl [0, 1, 2, 3] rfl)
set_option maxHeartbeats 4000000 in
set_option maxRecDepth 100000 in
theorem k_M_isTrue (l : Launch) (D : va_G) (cZ : ClassId) (m0 ma : Nat) (th : Int32) (vn kn tn an : Nat) (mo tt tf mt mf : Int32) (io : Nat → Int32) (mn : Nat) (hvn : vn ≤ 10) (y : Int32) (x : Nat) (hx9 : x < 1024) : KTi l y_M_isTrue c_M_isTrue 3 .boolean { frames := 1, cells := 0, slots := 0, locals := 23 } D [(cZ, .boolean)] [.ref m0, .int y, .int (nI x)] (wM cZ m0 ma th vn kn tn an mo tt tf mt mf io mn) (itv y (nI (rv x vn))) (wM cZ m0 ma th vn kn tn an mo tt tf mt mf io mn) := by
  refine KTi_of (own := R_M) (by decide +kernel) rfl (Nat.le_of_ble_eq_true rfl) (nar_if _) ?_
  intro p e st m below meth c A ls Q hx hb hml hts hown hK hP hD hS hA hl fin
  refine lv_aload_n hx hb d_M_isTrue_0 rfl (lv_at hl 0 rfl) ?_
  refine lv_iload_n hx hb d_M_isTrue_1 rfl (lv_at hl 2 rfl) ?_
  refine CTi_V (isC := [0, 1]) (isR := []) (wr := []) (wi := [(m0, .inr (4, [.int th, .int (nI vn), .int (nI kn), .int (nI tn), .int (nI an), .int mo, .int tt, .int tf, .int mt, .int mf, .ref ma, .int (nI mn)])), (ma, .inl (cZ, 1024, .inl (io)))]) (wo := [(m0, .inr (4, [.int th, .int (nI vn), .int (nI kn), .int (nI tn), .int (nI an), .int mo, .int tt, .int tf, .int mt, .int mf, .ref ma, .int (nI mn)])), (ma, .inl (cZ, 1024, .inl (io)))]) (b := m0) (As := [.int (nI x)]) (rest := []) ⟨hx, hb, hml, hown, hts⟩ [0] (k_M_values l D cZ m0 ma th vn kn tn an mo tt tf mt mf io mn hvn x hx9) (cwV 1 hts v_M_52 rfl rfl rfl (by decide +kernel) ⟨Nat.le_of_ble_eq_true rfl, Nat.le_of_ble_eq_true rfl⟩) ⟨rfl, rfl, rfl, rfl, by decide⟩ rfl hK hP hD hS hA (va_recv (ci := 4) hK hP rfl (q0 := 0) rfl) rfl hl.1 (Nat.le_of_ble_eq_true rfl) d_M_isTrue_2 ⟨Nat.le_of_ble_eq_true rfl, Nat.le_of_ble_eq_true rfl⟩ (fun H locs hP hD hS => ?_)
  have hP : va_P D cls_ [(m0, .inr (4, [.int th, .int (nI vn), .int (nI kn), .int (nI tn), .int (nI an), .int mo, .int tt, .int tf, .int mt, .int mf, .ref ma, .int (nI mn)])), (ma, .inl (cZ, 1024, .inl (io)))] H := hP
  have hD : va_D A [(m0, .inr (4, [.int th, .int (nI vn), .int (nI kn), .int (nI tn), .int (nI an), .int mo, .int tt, .int tf, .int mt, .int mf, .ref ma, .int (nI mn)])), (ma, .inl (cZ, 1024, .inl (io)))] := hD
  refine lv_iload_n hx hb d_M_isTrue_5 rfl (lv_at hl 1 rfl) ?_
  refine lv_if_ge (tgt := 14) hx hb d_M_isTrue_6 rfl (fun hc6 => ?_) (fun hc6 => ?_)
  · refine lv_iload_n hx hb d_M_isTrue_14 rfl (lv_at hl 1 rfl) ?_
    refine lv_iconst (v := 1) hx hb d_M_isTrue_15 (by decide) ?_
    refine lv_isub hx hb d_M_isTrue_16 ?_
    refine lv_ishr hx hb d_M_isTrue_17 ?_
    refine lv_iconst (v := 1) hx hb d_M_isTrue_18 (by decide) ?_
    refine lv_iand hx hb d_M_isTrue_19 ?_
    refine lv_if_eq (tgt := 27) hx hb d_M_isTrue_20 rfl (fun hc20 => ?_) (fun hc20 => ?_)
    · refine lv_iconst (v := 0) hx hb d_M_isTrue_27 (by decide) ?_
      refine lv_iload_n hx hb d_M_isTrue_28 rfl (lv_at hl 1 rfl) ?_
      refine lv_if_le (tgt := 36) hx hb d_M_isTrue_29 rfl (fun hc29 => ?_) (fun hc29 => ?_)
      · refine lv_iconst (v := 0) hx hb d_M_isTrue_36 (by decide) ?_
        refine lv_icmp_ne (tgt := 44) hx hb d_M_isTrue_37 rfl (fun hc37 => ?_) (fun hc37 => ?_)
        · refine lv_iconst (v := 0) hx hb d_M_isTrue_44 (by decide) ?_
          exact fin _ _ _ _ _ hP hD hS (by unfold itv; rw [if_pos (hc6), if_pos (hc20), if_neg (Int32.not_lt.mpr hc29), if_neg (hc37)]) d_M_isTrue_45
        · refine lv_iconst (v := 1) hx hb d_M_isTrue_40 (by decide) ?_
          refine lv_goto (tgt := 45) hx hb d_M_isTrue_41 rfl ?_
          exact fin _ _ _ _ _ hP hD hS (by unfold itv; rw [if_pos (hc6), if_pos (hc20), if_neg (Int32.not_lt.mpr hc29), if_pos (hc37)]) d_M_isTrue_45
      · refine lv_iconst (v := 1) hx hb d_M_isTrue_32 (by decide) ?_
        refine lv_goto (tgt := 37) hx hb d_M_isTrue_33 rfl ?_
        refine lv_icmp_ne (tgt := 44) hx hb d_M_isTrue_37 rfl (fun hc37 => ?_) (fun hc37 => ?_)
        · refine lv_iconst (v := 0) hx hb d_M_isTrue_44 (by decide) ?_
          exact fin _ _ _ _ _ hP hD hS (by unfold itv; rw [if_pos (hc6), if_pos (hc20), if_pos (Int32.not_le.mp hc29), if_neg (hc37)]) d_M_isTrue_45
        · refine lv_iconst (v := 1) hx hb d_M_isTrue_40 (by decide) ?_
          refine lv_goto (tgt := 45) hx hb d_M_isTrue_41 rfl ?_
          exact fin _ _ _ _ _ hP hD hS (by unfold itv; rw [if_pos (hc6), if_pos (hc20), if_pos (Int32.not_le.mp hc29), if_pos (hc37)]) d_M_isTrue_45
    · refine lv_iconst (v := 1) hx hb d_M_isTrue_23 (by decide) ?_
      refine lv_goto (tgt := 28) hx hb d_M_isTrue_24 rfl ?_
      refine lv_iload_n hx hb d_M_isTrue_28 rfl (lv_at hl 1 rfl) ?_
      refine lv_if_le (tgt := 36) hx hb d_M_isTrue_29 rfl (fun hc29 => ?_) (fun hc29 => ?_)
      · refine lv_iconst (v := 0) hx hb d_M_isTrue_36 (by decide) ?_
        refine lv_icmp_ne (tgt := 44) hx hb d_M_isTrue_37 rfl (fun hc37 => ?_) (fun hc37 => ?_)
        · refine lv_iconst (v := 0) hx hb d_M_isTrue_44 (by decide) ?_
          exact fin _ _ _ _ _ hP hD hS (by unfold itv; rw [if_pos (hc6), if_neg (hc20), if_neg (Int32.not_lt.mpr hc29), if_neg (hc37)]) d_M_isTrue_45
        · refine lv_iconst (v := 1) hx hb d_M_isTrue_40 (by decide) ?_
          refine lv_goto (tgt := 45) hx hb d_M_isTrue_41 rfl ?_
          exact fin _ _ _ _ _ hP hD hS (by unfold itv; rw [if_pos (hc6), if_neg (hc20), if_neg (Int32.not_lt.mpr hc29), if_pos (hc37)]) d_M_isTrue_45
      · refine lv_iconst (v := 1) hx hb d_M_isTrue_32 (by decide) ?_
        refine lv_goto (tgt := 37) hx hb d_M_isTrue_33 rfl ?_
        refine lv_icmp_ne (tgt := 44) hx hb d_M_isTrue_37 rfl (fun hc37 => ?_) (fun hc37 => ?_)
        · refine lv_iconst (v := 0) hx hb d_M_isTrue_44 (by decide) ?_
          exact fin _ _ _ _ _ hP hD hS (by unfold itv; rw [if_pos (hc6), if_neg (hc20), if_pos (Int32.not_le.mp hc29), if_neg (hc37)]) d_M_isTrue_45
        · refine lv_iconst (v := 1) hx hb d_M_isTrue_40 (by decide) ?_
          refine lv_goto (tgt := 45) hx hb d_M_isTrue_41 rfl ?_
          exact fin _ _ _ _ _ hP hD hS (by unfold itv; rw [if_pos (hc6), if_neg (hc20), if_pos (Int32.not_le.mp hc29), if_pos (hc37)]) d_M_isTrue_45
  · refine lv_iload_n hx hb d_M_isTrue_9 rfl (lv_at hl 1 rfl) ?_
    refine lv_ineg hx hb d_M_isTrue_10 ?_
    refine lv_goto (tgt := 15) hx hb d_M_isTrue_11 rfl ?_
    refine lv_iconst (v := 1) hx hb d_M_isTrue_15 (by decide) ?_
    refine lv_isub hx hb d_M_isTrue_16 ?_
    refine lv_ishr hx hb d_M_isTrue_17 ?_
    refine lv_iconst (v := 1) hx hb d_M_isTrue_18 (by decide) ?_
    refine lv_iand hx hb d_M_isTrue_19 ?_
    refine lv_if_eq (tgt := 27) hx hb d_M_isTrue_20 rfl (fun hc20 => ?_) (fun hc20 => ?_)
    · refine lv_iconst (v := 0) hx hb d_M_isTrue_27 (by decide) ?_
      refine lv_iload_n hx hb d_M_isTrue_28 rfl (lv_at hl 1 rfl) ?_
      refine lv_if_le (tgt := 36) hx hb d_M_isTrue_29 rfl (fun hc29 => ?_) (fun hc29 => ?_)
      · refine lv_iconst (v := 0) hx hb d_M_isTrue_36 (by decide) ?_
        refine lv_icmp_ne (tgt := 44) hx hb d_M_isTrue_37 rfl (fun hc37 => ?_) (fun hc37 => ?_)
        · refine lv_iconst (v := 0) hx hb d_M_isTrue_44 (by decide) ?_
          exact fin _ _ _ _ _ hP hD hS (by unfold itv; rw [if_neg (hc6), if_pos (hc20), if_neg (Int32.not_lt.mpr hc29), if_neg (hc37)]) d_M_isTrue_45
        · refine lv_iconst (v := 1) hx hb d_M_isTrue_40 (by decide) ?_
          refine lv_goto (tgt := 45) hx hb d_M_isTrue_41 rfl ?_
          exact fin _ _ _ _ _ hP hD hS (by unfold itv; rw [if_neg (hc6), if_pos (hc20), if_neg (Int32.not_lt.mpr hc29), if_pos (hc37)]) d_M_isTrue_45
      · refine lv_iconst (v := 1) hx hb d_M_isTrue_32 (by decide) ?_
        refine lv_goto (tgt := 37) hx hb d_M_isTrue_33 rfl ?_
        refine lv_icmp_ne (tgt := 44) hx hb d_M_isTrue_37 rfl (fun hc37 => ?_) (fun hc37 => ?_)
        · refine lv_iconst (v := 0) hx hb d_M_isTrue_44 (by decide) ?_
          exact fin _ _ _ _ _ hP hD hS (by unfold itv; rw [if_neg (hc6), if_pos (hc20), if_pos (Int32.not_le.mp hc29), if_neg (hc37)]) d_M_isTrue_45
        · refine lv_iconst (v := 1) hx hb d_M_isTrue_40 (by decide) ?_
          refine lv_goto (tgt := 45) hx hb d_M_isTrue_41 rfl ?_
          exact fin _ _ _ _ _ hP hD hS (by unfold itv; rw [if_neg (hc6), if_pos (hc20), if_pos (Int32.not_le.mp hc29), if_pos (hc37)]) d_M_isTrue_45
    · refine lv_iconst (v := 1) hx hb d_M_isTrue_23 (by decide) ?_
      refine lv_goto (tgt := 28) hx hb d_M_isTrue_24 rfl ?_
      refine lv_iload_n hx hb d_M_isTrue_28 rfl (lv_at hl 1 rfl) ?_
      refine lv_if_le (tgt := 36) hx hb d_M_isTrue_29 rfl (fun hc29 => ?_) (fun hc29 => ?_)
      · refine lv_iconst (v := 0) hx hb d_M_isTrue_36 (by decide) ?_
        refine lv_icmp_ne (tgt := 44) hx hb d_M_isTrue_37 rfl (fun hc37 => ?_) (fun hc37 => ?_)
        · refine lv_iconst (v := 0) hx hb d_M_isTrue_44 (by decide) ?_
          exact fin _ _ _ _ _ hP hD hS (by unfold itv; rw [if_neg (hc6), if_neg (hc20), if_neg (Int32.not_lt.mpr hc29), if_neg (hc37)]) d_M_isTrue_45
        · refine lv_iconst (v := 1) hx hb d_M_isTrue_40 (by decide) ?_
          refine lv_goto (tgt := 45) hx hb d_M_isTrue_41 rfl ?_
          exact fin _ _ _ _ _ hP hD hS (by unfold itv; rw [if_neg (hc6), if_neg (hc20), if_neg (Int32.not_lt.mpr hc29), if_pos (hc37)]) d_M_isTrue_45
      · refine lv_iconst (v := 1) hx hb d_M_isTrue_32 (by decide) ?_
        refine lv_goto (tgt := 37) hx hb d_M_isTrue_33 rfl ?_
        refine lv_icmp_ne (tgt := 44) hx hb d_M_isTrue_37 rfl (fun hc37 => ?_) (fun hc37 => ?_)
        · refine lv_iconst (v := 0) hx hb d_M_isTrue_44 (by decide) ?_
          exact fin _ _ _ _ _ hP hD hS (by unfold itv; rw [if_neg (hc6), if_neg (hc20), if_pos (Int32.not_le.mp hc29), if_neg (hc37)]) d_M_isTrue_45
        · refine lv_iconst (v := 1) hx hb d_M_isTrue_40 (by decide) ?_
          refine lv_goto (tgt := 45) hx hb d_M_isTrue_41 rfl ?_
          exact fin _ _ _ _ _ hP hD hS (by unfold itv; rw [if_neg (hc6), if_neg (hc20), if_pos (Int32.not_le.mp hc29), if_pos (hc37)]) d_M_isTrue_45
set_option maxHeartbeats 4000000 in
set_option maxRecDepth 100000 in
theorem k_M_isModel (l : Launch) (D : va_G) (cZ : ClassId) (m0 ma : Nat) (th : Int32) (vn kn tn an : Nat) (mo tt tf mt mf : Int32) (io : Nat → Int32) (mn : Nat) (hvn : vn ≤ 10) (x : Nat) (hx9 : x < 1024) : KTi l y_M_isModel c_M_isModel 3 .boolean { frames := 1, cells := 0, slots := 0, locals := 23 } D [(cZ, .boolean)] [.ref m0, .int (nI x)] (wM cZ m0 ma th vn kn tn an mo tt tf mt mf io mn) (if rmB io mt mf (rv x vn) = true then 1 else 0) (wM cZ m0 ma th vn kn tn an mo tt tf mt mf io mn) := by
  refine KTi_of (own := R_M) (by decide +kernel) rfl (Nat.le_of_ble_eq_true rfl) (nar_if _) ?_
  intro p e st m below meth c A ls Q hx hb hml hts hown hK hP hD hS hA hl fin
  refine lv_aload_n hx hb d_M_isModel_0 rfl (lv_at hl 0 rfl) ?_
  refine lv_iload_n hx hb d_M_isModel_1 rfl (lv_at hl 1 rfl) ?_
  refine CTi_V (isC := [0, 1]) (isR := []) (wr := []) (wi := [(m0, .inr (4, [.int th, .int (nI vn), .int (nI kn), .int (nI tn), .int (nI an), .int mo, .int tt, .int tf, .int mt, .int mf, .ref ma, .int (nI mn)])), (ma, .inl (cZ, 1024, .inl (io)))]) (wo := [(m0, .inr (4, [.int th, .int (nI vn), .int (nI kn), .int (nI tn), .int (nI an), .int mo, .int tt, .int tf, .int mt, .int mf, .ref ma, .int (nI mn)])), (ma, .inl (cZ, 1024, .inl (io)))]) (b := m0) (As := [.int (nI x)]) (rest := []) ⟨hx, hb, hml, hown, hts⟩ [0] (k_M_values l D cZ m0 ma th vn kn tn an mo tt tf mt mf io mn hvn x hx9) (cwV 1 hts v_M_52 rfl rfl rfl (by decide +kernel) ⟨Nat.le_of_ble_eq_true rfl, Nat.le_of_ble_eq_true rfl⟩) ⟨rfl, rfl, rfl, rfl, by decide⟩ rfl hK hP hD hS hA (va_recv (ci := 4) hK hP rfl (q0 := 0) rfl) rfl hl.1 (Nat.le_of_ble_eq_true rfl) d_M_isModel_2 ⟨Nat.le_of_ble_eq_true rfl, Nat.le_of_ble_eq_true rfl⟩ (fun H locs hP hD hS => ?_)
  have hP : va_P D cls_ [(m0, .inr (4, [.int th, .int (nI vn), .int (nI kn), .int (nI tn), .int (nI an), .int mo, .int tt, .int tf, .int mt, .int mf, .ref ma, .int (nI mn)])), (ma, .inl (cZ, 1024, .inl (io)))] H := hP
  have hD : va_D A [(m0, .inr (4, [.int th, .int (nI vn), .int (nI kn), .int (nI tn), .int (nI an), .int mo, .int tt, .int tf, .int mt, .int mf, .ref ma, .int (nI mn)])), (ma, .inl (cZ, 1024, .inl (io)))] := hD
  refine lv_istore_n (lv' := [(2, .int (nI (rv x vn))), (0, .ref m0), (1, .int (nI x))]) hx hb d_M_isModel_5 rfl hl (by decide) rfl (fun ls hl => ?_)
  refine lv_aload_n hx hb d_M_isModel_6 rfl (lv_at hl 1 rfl) ?_
  refine va_get (D := D) (ci := 4) (v := .ref ma) (C := R_M) (T := T_M) (N := 12) hx hb hts u_M hown hK hP 0 rfl rfl 10 (by decide) (hts _ f_M_13) (fun _ h9 => h9) rfl d_M_isModel_7 ?_
  refine lv_iload_n hx hb d_M_isModel_10 rfl (lv_at hl 0 rfl) ?_
  refine va_zald (D := D) (i := (nI (rv x vn))) hx hb hK hP 1 0 rfl rfl (vp_in_nI (rv_1024 hvn) (by decide)) d_M_isModel_11 ?_
  rw [show ((nI (rv x vn)) : Int32).toNatClampNeg = (rv x vn) from nI_clamp (Nat.lt_trans (rv_1024 hvn) (by decide))]
  refine lv_if_ne (tgt := 41) hx hb d_M_isModel_12 rfl (fun hc12 => ?_) (fun hc12 => ?_)
  · refine lv_iconst (v := 0) hx hb d_M_isModel_41 (by decide) ?_
    exact fin _ _ _ _ _ hP hD hS ((if_neg (fun h => hc12 (rmB_iff.1 h).1)).symm) d_M_isModel_42
  · refine lv_iload_n hx hb d_M_isModel_15 rfl (lv_at hl 0 rfl) ?_
    refine lv_aload_n hx hb d_M_isModel_16 rfl (lv_at hl 1 rfl) ?_
    refine va_get (D := D) (ci := 4) (v := .int mt) (C := R_M) (T := T_M) (N := 12) hx hb hts u_M hown hK hP 0 rfl rfl 8 (by decide) (hts _ f_M_46) (fun _ h9 => h9) rfl d_M_isModel_17 ?_
    refine lv_iand hx hb d_M_isModel_20 ?_
    refine lv_aload_n hx hb d_M_isModel_21 rfl (lv_at hl 1 rfl) ?_
    refine va_get (D := D) (ci := 4) (v := .int mt) (C := R_M) (T := T_M) (N := 12) hx hb hts u_M hown hK hP 0 rfl rfl 8 (by decide) (hts _ f_M_46) (fun _ h9 => h9) rfl d_M_isModel_22 ?_
    refine lv_icmp_ne (tgt := 41) hx hb d_M_isModel_25 rfl (fun hc25 => ?_) (fun hc25 => ?_)
    · refine lv_iconst (v := 0) hx hb d_M_isModel_41 (by decide) ?_
      exact fin _ _ _ _ _ hP hD hS ((if_neg (fun h => hc25 (rmB_iff.1 h).2.1)).symm) d_M_isModel_42
    · refine lv_iload_n hx hb d_M_isModel_28 rfl (lv_at hl 0 rfl) ?_
      refine lv_aload_n hx hb d_M_isModel_29 rfl (lv_at hl 1 rfl) ?_
      refine va_get (D := D) (ci := 4) (v := .int mf) (C := R_M) (T := T_M) (N := 12) hx hb hts u_M hown hK hP 0 rfl rfl 9 (by decide) (hts _ f_M_49) (fun _ h9 => h9) rfl d_M_isModel_30 ?_
      refine lv_iand hx hb d_M_isModel_33 ?_
      refine lv_if_ne (tgt := 41) hx hb d_M_isModel_34 rfl (fun hc34 => ?_) (fun hc34 => ?_)
      · refine lv_iconst (v := 0) hx hb d_M_isModel_41 (by decide) ?_
        exact fin _ _ _ _ _ hP hD hS ((if_neg (fun h => hc34 (rmB_iff.1 h).2.2)).symm) d_M_isModel_42
      · refine lv_iconst (v := 1) hx hb d_M_isModel_37 (by decide) ?_
        refine lv_goto (tgt := 42) hx hb d_M_isModel_38 rfl ?_
        exact fin _ _ _ _ _ hP hD hS ((if_pos (rmB_iff.2 ⟨hc12, hc25, hc34⟩)).symm) d_M_isModel_42
set_option maxHeartbeats 4000000 in
set_option maxRecDepth 100000 in
theorem k_M_solve (l : Launch) (D : va_G) (cZ : ClassId) (m0 ma : Nat) (th : Int32) (vn kn tn an : Nat) (mo tt tf mt mf : Int32) (io : Nat → Int32) (mn : Nat) (hvn : vn ≤ 10) : KTi l y_M_solve c_M_solve 2 .boolean { frames := 2, cells := 0, slots := 0, locals := 45 } D [(cZ, .boolean)] [.ref m0] (wM cZ m0 ma th vn kn tn an mo tt tf mt mf io mn) (if slv (fun x => rmB io mt mf (rv x vn)) (2 ^ vn) 0 < 0 then 0 else 1) (wM cZ m0 ma 0 vn kn tn 0 ((slv (fun x => rmB io mt mf (rv x vn)) (2 ^ vn) 0)) tt tf 0 0 io vn) := by
  refine KTi_of (own := R_M) (by decide +kernel) rfl (Nat.le_of_ble_eq_true rfl) (nar_if2 _) ?_
  intro p e st m below meth c A ls Q hx hb hml hts hown hK hP hD hS hA hl fin
  have hpw : 2 ^ vn ≤ 1024 := pw_le hvn
  generalize hT : slv (fun x => rmB io mt mf (rv x vn)) (2 ^ vn) 0 = res at fin
  have ex : ∀ (ls : Array Slot) (H : Heap) (locs : List Loc), va_P D cls_ [(m0, .inr (4, [.int 0, .int (nI vn), .int (nI kn), .int (nI tn), .int (nI an), .int res, .int tt, .int tf, .int mt, .int mf, .ref ma, .int (nI vn)])), (ma, .inl (cZ, 1024, .inl (io)))] H → va_D A [(m0, .inr (4, [.int 0, .int (nI vn), .int (nI kn), .int (nI tn), .int (nI an), .int res, .int tt, .int tf, .int mt, .int mf, .ref ma, .int (nI vn)])), (ma, .inl (cZ, 1024, .inl (io)))] → va_S A st.heap H locs → lv_has ls 2 [(0, .ref m0)] → W p l e { frames := 2, cells := 0, slots := 0, locals := 45 } st m [Value.ref m0].toArray below meth c H locs 0 0 Q (F0 m 56 ls []) := by
    intro ls H locs hP hD hS hl
    refine lv_aload_n hx hb d_M_solve_56 rfl (lv_at hl 0 rfl) ?_
    refine CTv_V (isC := [0, 1]) (isR := []) (wr := []) (wi := [(m0, .inr (4, [.int 0, .int (nI vn), .int (nI kn), .int (nI tn), .int (nI an), .int res, .int tt, .int tf, .int mt, .int mf, .ref ma, .int (nI vn)])), (ma, .inl (cZ, 1024, .inl (io)))]) (wo := [(m0, .inr (4, [.int 0, .int (nI vn), .int (nI kn), .int (nI tn), .int (nI 0), .int res, .int tt, .int tf, .int 0, .int 0, .ref ma, .int (nI vn)])), (ma, .inl (cZ, 1024, .inl (io)))]) (b := m0) (As := []) (rest := []) ⟨hx, hb, hml, hown, hts⟩ [0] (k_M_forget l D cZ m0 ma 0 vn kn tn an res tt tf mt mf io vn) (cwV 0 hts v_M_61 rfl rfl rfl (by decide +kernel) ⟨Nat.le_of_ble_eq_true rfl, Nat.le_of_ble_eq_true rfl⟩) ⟨rfl, rfl, rfl, rfl, by decide⟩ rfl hK hP hD hS hA (va_recv (ci := 4) hK hP rfl (q0 := 0) rfl) rfl hl.1 (Nat.le_of_ble_eq_true rfl) d_M_solve_57 ⟨Nat.le_of_ble_eq_true rfl, Nat.le_of_ble_eq_true rfl⟩ (fun H locs hP hD hS => ?_)
    have hP : va_P D cls_ [(m0, .inr (4, [.int 0, .int (nI vn), .int (nI kn), .int (nI tn), .int (nI 0), .int res, .int tt, .int tf, .int 0, .int 0, .ref ma, .int (nI vn)])), (ma, .inl (cZ, 1024, .inl (io)))] H := hP
    have hD : va_D A [(m0, .inr (4, [.int 0, .int (nI vn), .int (nI kn), .int (nI tn), .int (nI 0), .int res, .int tt, .int tf, .int 0, .int 0, .ref ma, .int (nI vn)])), (ma, .inl (cZ, 1024, .inl (io)))] := hD
    refine lv_aload_n hx hb d_M_solve_60 rfl (lv_at hl 0 rfl) ?_
    refine va_get (D := D) (ci := 4) (v := .int res) (C := R_M) (T := T_M) (N := 12) hx hb hts u_M hown hK hP 0 rfl rfl 5 (by decide) (hts _ f_M_7) (fun _ h9 => h9) rfl d_M_solve_61 ?_
    refine lv_if_lt (tgt := 71) hx hb d_M_solve_64 rfl (fun hc64 => ?_) (fun hc64 => ?_)
    · refine lv_iconst (v := 0) hx hb d_M_solve_71 (by decide) ?_
      exact fin _ _ _ _ _ hP hD hS ((if_pos hc64).symm) d_M_solve_72
    · refine lv_iconst (v := 1) hx hb d_M_solve_67 (by decide) ?_
      refine lv_goto (tgt := 72) hx hb d_M_solve_68 rfl ?_
      exact fin _ _ _ _ _ hP hD hS ((if_neg hc64).symm) d_M_solve_72
  have loop : ∀ (k x : Nat) (ls : Array Slot) (H : Heap) (locs : List Loc), x + k = 2 ^ vn → slv (fun x => rmB io mt mf (rv x vn)) k x = res → va_P D cls_ [(m0, .inr (4, [.int 0, .int (nI vn), .int (nI kn), .int (nI tn), .int (nI an), .int ((-1)), .int tt, .int tf, .int mt, .int mf, .ref ma, .int (nI vn)])), (ma, .inl (cZ, 1024, .inl (io)))] H → va_D A [(m0, .inr (4, [.int 0, .int (nI vn), .int (nI kn), .int (nI tn), .int (nI an), .int ((-1)), .int tt, .int tf, .int mt, .int mf, .ref ma, .int (nI vn)])), (ma, .inl (cZ, 1024, .inl (io)))] → va_S A st.heap H locs → lv_has ls 2 [(1, .int (nI x)), (0, .ref m0)] → W p l e { frames := 2, cells := 0, slots := 0, locals := 45 } st m [Value.ref m0].toArray below meth c H locs 0 0 Q (F0 m 20 ls []) := by
    intro k
    induction k with
    | zero =>
      intro x ls H locs hx9 he hP hD hS hl
      have he : (-1 : Int32) = res := he
      subst he
      refine lv_iload_n hx hb d_M_solve_20 rfl (lv_at hl 0 rfl) ?_
      refine lv_iconst (v := 1) hx hb d_M_solve_21 (by decide) ?_
      refine lv_aload_n hx hb d_M_solve_22 rfl (lv_at hl 1 rfl) ?_
      refine va_get (D := D) (ci := 4) (v := .int (nI vn)) (C := R_M) (T := T_M) (N := 12) hx hb hts u_M hown hK hP 0 rfl rfl 1 (by decide) (hts _ f_M_20) (fun _ h9 => h9) rfl d_M_solve_23 ?_
      refine lv_ishl hx hb d_M_solve_26 ?_
      rw [sh1 hvn]
      refine lv_icmp_ge (tgt := 56) hx hb d_M_solve_27 rfl (fun hc27 => ?_) (fun hc27 => absurd (nI_le (by omega) (by omega)) hc27)
      exact ex ls H locs hP hD hS (lv_sub hl [1] rfl)
    | succ k ih =>
      intro x ls H locs hx9 he hP hD hS hl
      refine lv_iload_n hx hb d_M_solve_20 rfl (lv_at hl 0 rfl) ?_
      refine lv_iconst (v := 1) hx hb d_M_solve_21 (by decide) ?_
      refine lv_aload_n hx hb d_M_solve_22 rfl (lv_at hl 1 rfl) ?_
      refine va_get (D := D) (ci := 4) (v := .int (nI vn)) (C := R_M) (T := T_M) (N := 12) hx hb hts u_M hown hK hP 0 rfl rfl 1 (by decide) (hts _ f_M_20) (fun _ h9 => h9) rfl d_M_solve_23 ?_
      refine lv_ishl hx hb d_M_solve_26 ?_
      rw [sh1 hvn]
      refine lv_icmp_ge (tgt := 56) hx hb d_M_solve_27 rfl (fun hc27 => absurd hc27 (nI_ge (by omega) (by omega))) (fun hc27 => ?_)
      refine lv_aload_n hx hb d_M_solve_30 rfl (lv_at hl 1 rfl) ?_
      refine va_get (D := D) (ci := 4) (v := .int ((-1))) (C := R_M) (T := T_M) (N := 12) hx hb hts u_M hown hK hP 0 rfl rfl 5 (by decide) (hts _ f_M_7) (fun _ h9 => h9) rfl d_M_solve_31 ?_
      refine lv_if_ge (tgt := 56) hx hb d_M_solve_34 rfl (fun hc34 => absurd hc34 (by decide)) (fun hc34 => ?_)
      refine lv_aload_n hx hb d_M_solve_37 rfl (lv_at hl 1 rfl) ?_
      refine lv_iload_n hx hb d_M_solve_38 rfl (lv_at hl 0 rfl) ?_
      refine CTi_V (isC := [0, 1]) (isR := []) (wr := []) (wi := [(m0, .inr (4, [.int 0, .int (nI vn), .int (nI kn), .int (nI tn), .int (nI an), .int ((-1)), .int tt, .int tf, .int mt, .int mf, .ref ma, .int (nI vn)])), (ma, .inl (cZ, 1024, .inl (io)))]) (wo := [(m0, .inr (4, [.int 0, .int (nI vn), .int (nI kn), .int (nI tn), .int (nI an), .int ((-1)), .int tt, .int tf, .int mt, .int mf, .ref ma, .int (nI vn)])), (ma, .inl (cZ, 1024, .inl (io)))]) (b := m0) (As := [.int (nI x)]) (rest := []) ⟨hx, hb, hml, hown, hts⟩ [0] (k_M_isModel l D cZ m0 ma 0 vn kn tn an ((-1)) tt tf mt mf io vn hvn x (show x < 1024 by omega)) (cwV 1 hts v_M_58 rfl rfl rfl (by decide +kernel) ⟨Nat.le_of_ble_eq_true rfl, Nat.le_of_ble_eq_true rfl⟩) ⟨rfl, rfl, rfl, rfl, by decide⟩ rfl hK hP hD hS hA (va_recv (ci := 4) hK hP rfl (q0 := 0) rfl) rfl hl.1 (Nat.le_of_ble_eq_true rfl) d_M_solve_39 ⟨Nat.le_of_ble_eq_true rfl, Nat.le_of_ble_eq_true rfl⟩ (fun H locs hP hD hS => ?_)
      have hP : va_P D cls_ [(m0, .inr (4, [.int 0, .int (nI vn), .int (nI kn), .int (nI tn), .int (nI an), .int ((-1)), .int tt, .int tf, .int mt, .int mf, .ref ma, .int (nI vn)])), (ma, .inl (cZ, 1024, .inl (io)))] H := hP
      have hD : va_D A [(m0, .inr (4, [.int 0, .int (nI vn), .int (nI kn), .int (nI tn), .int (nI an), .int ((-1)), .int tt, .int tf, .int mt, .int mf, .ref ma, .int (nI vn)])), (ma, .inl (cZ, 1024, .inl (io)))] := hD
      refine lv_if_eq (tgt := 50) hx hb d_M_solve_42 rfl (fun hc42 => ?_) (fun hc42 => ?_)
      · refine lv_iinc (k := 0) (v := (nI (x + 1))) (lv' := [(1, .int (nI (x + 1))), (0, .ref m0)]) hx hb d_M_solve_50 hl rfl (nI_1 x) (by decide) rfl (fun ls hl => ?_)
        refine lv_goto (tgt := 20) hx hb d_M_solve_53 rfl ?_
        exact ih (x + 1) ls H locs (by omega) (by rw [← he, slv_s, if_neg (it0 hc42)]) hP hD hS (lv_sub hl [0, 1] rfl)
      · refine lv_aload_n hx hb d_M_solve_45 rfl (lv_at hl 1 rfl) ?_
        refine lv_iload_n hx hb d_M_solve_46 rfl (lv_at hl 0 rfl) ?_
        refine va_put (D := D) (ci := 4) (v := .int (nI x)) (ty := .int) (C := R_M) (T := T_M) (N := 12) hx hb hts u_M t_M t_M_ok n_M hown hK hP hD hS 0 rfl rfl 5 (by decide) (hts _ f_M_7) (fun _ h9 => h9) rfl (by decide +kernel) rfl rfl (Nat.le_of_ble_eq_true rfl) d_M_solve_47 (fun H locs hP hD hS => ?_)
        have hP : va_P D cls_ [(m0, .inr (4, [.int 0, .int (nI vn), .int (nI kn), .int (nI tn), .int (nI an), .int (nI x), .int tt, .int tf, .int mt, .int mf, .ref ma, .int (nI vn)])), (ma, .inl (cZ, 1024, .inl (io)))] H := hP
        have hD : va_D A [(m0, .inr (4, [.int 0, .int (nI vn), .int (nI kn), .int (nI tn), .int (nI an), .int (nI x), .int tt, .int tf, .int mt, .int mf, .ref ma, .int (nI vn)])), (ma, .inl (cZ, 1024, .inl (io)))] := hD
        refine lv_iinc (k := 0) (v := (nI (x + 1))) (lv' := [(1, .int (nI (x + 1))), (0, .ref m0)]) hx hb d_M_solve_50 hl rfl (nI_1 x) (by decide) rfl (fun ls hl => ?_)
        refine lv_goto (tgt := 20) hx hb d_M_solve_53 rfl ?_
        have he9 : nI x = res := by rw [← he, slv_s, if_pos (it1 hc42)]
        subst he9
        refine lv_iload_n hx hb d_M_solve_20 rfl (lv_at hl 0 rfl) ?_
        refine lv_iconst (v := 1) hx hb d_M_solve_21 (by decide) ?_
        refine lv_aload_n hx hb d_M_solve_22 rfl (lv_at hl 1 rfl) ?_
        refine va_get (D := D) (ci := 4) (v := .int (nI vn)) (C := R_M) (T := T_M) (N := 12) hx hb hts u_M hown hK hP 0 rfl rfl 1 (by decide) (hts _ f_M_20) (fun _ h9 => h9) rfl d_M_solve_23 ?_
        refine lv_ishl hx hb d_M_solve_26 ?_
        rw [sh1 hvn]
        refine lv_icmp_ge (tgt := 56) hx hb d_M_solve_27 rfl (fun hc27 => ?_) (fun hc27 => ?_)
        · exact ex ls H locs hP hD hS (lv_sub hl [1] rfl)
        · refine lv_aload_n hx hb d_M_solve_30 rfl (lv_at hl 1 rfl) ?_
          refine va_get (D := D) (ci := 4) (v := .int (nI x)) (C := R_M) (T := T_M) (N := 12) hx hb hts u_M hown hK hP 0 rfl rfl 5 (by decide) (hts _ f_M_7) (fun _ h9 => h9) rfl d_M_solve_31 ?_
          refine lv_if_ge (tgt := 56) hx hb d_M_solve_34 rfl (fun hc34 => ?_) (fun hc34 => absurd (nI_pos' (by omega)) hc34)
          exact ex ls H locs hP hD hS (lv_sub hl [1] rfl)
  refine lv_aload_n hx hb d_M_solve_0 rfl (lv_at hl 0 rfl) ?_
  refine lv_iconst (v := 0) hx hb d_M_solve_1 (by decide) ?_
  refine va_put (D := D) (ci := 4) (v := .int 0) (ty := .int) (C := R_M) (T := T_M) (N := 12) hx hb hts u_M t_M t_M_ok n_M hown hK hP hD hS 0 rfl rfl 0 (by decide) (hts _ f_M_17) (fun _ h9 => h9) rfl (by decide +kernel) rfl rfl (Nat.le_of_ble_eq_true rfl) d_M_solve_2 (fun H locs hP hD hS => ?_)
  have hP : va_P D cls_ [(m0, .inr (4, [.int 0, .int (nI vn), .int (nI kn), .int (nI tn), .int (nI an), .int mo, .int tt, .int tf, .int mt, .int mf, .ref ma, .int (nI mn)])), (ma, .inl (cZ, 1024, .inl (io)))] H := hP
  have hD : va_D A [(m0, .inr (4, [.int 0, .int (nI vn), .int (nI kn), .int (nI tn), .int (nI an), .int mo, .int tt, .int tf, .int mt, .int mf, .ref ma, .int (nI mn)])), (ma, .inl (cZ, 1024, .inl (io)))] := hD
  refine lv_aload_n hx hb d_M_solve_5 rfl (lv_at hl 0 rfl) ?_
  refine lv_iconst (v := (-1)) hx hb d_M_solve_6 (by decide) ?_
  refine va_put (D := D) (ci := 4) (v := .int (-1)) (ty := .int) (C := R_M) (T := T_M) (N := 12) hx hb hts u_M t_M t_M_ok n_M hown hK hP hD hS 0 rfl rfl 5 (by decide) (hts _ f_M_7) (fun _ h9 => h9) rfl (by decide +kernel) rfl rfl (Nat.le_of_ble_eq_true rfl) d_M_solve_7 (fun H locs hP hD hS => ?_)
  have hP : va_P D cls_ [(m0, .inr (4, [.int 0, .int (nI vn), .int (nI kn), .int (nI tn), .int (nI an), .int (-1), .int tt, .int tf, .int mt, .int mf, .ref ma, .int (nI mn)])), (ma, .inl (cZ, 1024, .inl (io)))] H := hP
  have hD : va_D A [(m0, .inr (4, [.int 0, .int (nI vn), .int (nI kn), .int (nI tn), .int (nI an), .int (-1), .int tt, .int tf, .int mt, .int mf, .ref ma, .int (nI mn)])), (ma, .inl (cZ, 1024, .inl (io)))] := hD
  refine lv_aload_n hx hb d_M_solve_10 rfl (lv_at hl 0 rfl) ?_
  refine lv_aload_n hx hb d_M_solve_11 rfl (lv_at hl 0 rfl) ?_
  refine va_get (D := D) (ci := 4) (v := .int (nI vn)) (C := R_M) (T := T_M) (N := 12) hx hb hts u_M hown hK hP 0 rfl rfl 1 (by decide) (hts _ f_M_20) (fun _ h9 => h9) rfl d_M_solve_12 ?_
  refine va_put (D := D) (ci := 4) (v := .int (nI vn)) (ty := .int) (C := R_M) (T := T_M) (N := 12) hx hb hts u_M t_M t_M_ok n_M hown hK hP hD hS 0 rfl rfl 11 (by decide) (hts _ f_M_55) (fun _ h9 => h9) rfl (by decide +kernel) rfl rfl (Nat.le_of_ble_eq_true rfl) d_M_solve_15 (fun H locs hP hD hS => ?_)
  have hP : va_P D cls_ [(m0, .inr (4, [.int 0, .int (nI vn), .int (nI kn), .int (nI tn), .int (nI an), .int (-1), .int tt, .int tf, .int mt, .int mf, .ref ma, .int (nI vn)])), (ma, .inl (cZ, 1024, .inl (io)))] H := hP
  have hD : va_D A [(m0, .inr (4, [.int 0, .int (nI vn), .int (nI kn), .int (nI tn), .int (nI an), .int (-1), .int tt, .int tf, .int mt, .int mf, .ref ma, .int (nI vn)])), (ma, .inl (cZ, 1024, .inl (io)))] := hD
  refine lv_iconst (v := 0) hx hb d_M_solve_18 (by decide) ?_
  refine lv_istore_n (lv' := [(1, .int 0), (0, .ref m0)]) hx hb d_M_solve_19 rfl hl (by decide) rfl (fun ls hl => ?_)
  exact loop (2 ^ vn) 0 ls H locs (by omega) hT hP hD hS (lv_sub hl [0, 1] rfl)
set_option maxHeartbeats 4000000 in
set_option maxRecDepth 100000 in
theorem k_M_follows_b (l : Launch) (D : va_G) (cZ : ClassId) (m0 ma : Nat) (th : Int32) (vn kn tn an : Nat) (mo tt tf mt mf : Int32) (io : Nat → Int32) (mn : Nat) (x : Int32) (hx9 : ¬ LOK vn x) : KTi l y_M_follows c_M_follows 4 .boolean { frames := 2, cells := 0, slots := 0, locals := 45 } D [(cZ, .boolean)] [.ref m0, .int x] (wM cZ m0 ma th vn kn tn an mo tt tf mt mf io mn) (0) (wM cZ m0 ma 1 vn kn tn an mo tt tf mt mf io mn) := by
  refine KTi_of (own := R_M) (by decide +kernel) rfl (Nat.le_of_ble_eq_true rfl) (by decide +kernel) ?_
  intro p e st m below meth c A ls Q hx hb hml hts hown hK hP hD hS hA hl fin
  refine lv_aload_n hx hb d_M_follows_0 rfl (lv_at hl 0 rfl) ?_
  refine lv_iload_n hx hb d_M_follows_1 rfl (lv_at hl 1 rfl) ?_
  refine CTi_V (isC := [0, 1]) (isR := []) (wr := []) (wi := [(m0, .inr (4, [.int th, .int (nI vn), .int (nI kn), .int (nI tn), .int (nI an), .int mo, .int tt, .int tf, .int mt, .int mf, .ref ma, .int (nI mn)])), (ma, .inl (cZ, 1024, .inl (io)))]) (wo := [(m0, .inr (4, [.int th, .int (nI vn), .int (nI kn), .int (nI tn), .int (nI an), .int mo, .int tt, .int tf, .int mt, .int mf, .ref ma, .int (nI mn)])), (ma, .inl (cZ, 1024, .inl (io)))]) (b := m0) (As := [.int x]) (rest := []) ⟨hx, hb, hml, hown, hts⟩ [0] (k_M_isLiteral l D cZ m0 ma th vn kn tn an mo tt tf mt mf io mn x) (cwV 1 hts v_M_27 rfl rfl rfl (by decide +kernel) ⟨Nat.le_of_ble_eq_true rfl, Nat.le_of_ble_eq_true rfl⟩) ⟨rfl, rfl, rfl, rfl, by decide⟩ rfl hK hP hD hS hA (va_recv (ci := 4) hK hP rfl (q0 := 0) rfl) rfl hl.1 (Nat.le_of_ble_eq_true rfl) d_M_follows_2 ⟨Nat.le_of_ble_eq_true rfl, Nat.le_of_ble_eq_true rfl⟩ (fun H locs hP hD hS => ?_)
  have hP : va_P D cls_ [(m0, .inr (4, [.int th, .int (nI vn), .int (nI kn), .int (nI tn), .int (nI an), .int mo, .int tt, .int tf, .int mt, .int mf, .ref ma, .int (nI mn)])), (ma, .inl (cZ, 1024, .inl (io)))] H := hP
  have hD : va_D A [(m0, .inr (4, [.int th, .int (nI vn), .int (nI kn), .int (nI tn), .int (nI an), .int mo, .int tt, .int tf, .int mt, .int mf, .ref ma, .int (nI mn)])), (ma, .inl (cZ, 1024, .inl (io)))] := hD
  refine lv_if_ne (tgt := 15) hx hb d_M_follows_5 rfl (fun hc5 => absurd (it1 hc5) hx9) (fun hc5 => ?_)
  refine lv_aload_n hx hb d_M_follows_8 rfl (lv_at hl 0 rfl) ?_
  refine lv_iconst (v := 1) hx hb d_M_follows_9 (by decide) ?_
  refine va_put (D := D) (ci := 4) (v := .int 1) (ty := .int) (C := R_M) (T := T_M) (N := 12) hx hb hts u_M t_M t_M_ok n_M hown hK hP hD hS 0 rfl rfl 0 (by decide) (hts _ f_M_17) (fun _ h9 => h9) rfl (by decide +kernel) rfl rfl (Nat.le_of_ble_eq_true rfl) d_M_follows_10 (fun H locs hP hD hS => ?_)
  have hP : va_P D cls_ [(m0, .inr (4, [.int 1, .int (nI vn), .int (nI kn), .int (nI tn), .int (nI an), .int mo, .int tt, .int tf, .int mt, .int mf, .ref ma, .int (nI mn)])), (ma, .inl (cZ, 1024, .inl (io)))] H := hP
  have hD : va_D A [(m0, .inr (4, [.int 1, .int (nI vn), .int (nI kn), .int (nI tn), .int (nI an), .int mo, .int tt, .int tf, .int mt, .int mf, .ref ma, .int (nI mn)])), (ma, .inl (cZ, 1024, .inl (io)))] := hD
  refine lv_iconst (v := 0) hx hb d_M_follows_13 (by decide) ?_
  exact fin _ _ _ _ _ hP hD hS (rfl) d_M_follows_14
set_option maxHeartbeats 4000000 in
set_option maxRecDepth 100000 in
theorem k_M_follows (l : Launch) (D : va_G) (cZ : ClassId) (m0 ma : Nat) (th : Int32) (vn kn tn an : Nat) (mo tt tf mt mf : Int32) (io : Nat → Int32) (mn : Nat) (hvn : vn ≤ 10) (x : Int32) (hx9 : LOK vn x) : KTi l y_M_follows c_M_follows 4 .boolean { frames := 2, cells := 0, slots := 0, locals := 45 } D [(cZ, .boolean)] [.ref m0, .int x] (wM cZ m0 ma th vn kn tn an mo tt tf mt mf io mn) (fol (fun z => rmB io mt mf (rv z vn)) (fun z => itv x (nI (rv z vn))) (2 ^ vn) 0 1) (wM cZ m0 ma 0 vn kn tn 0 ((-1)) tt tf 0 0 io mn) := by
  refine KTi_of (own := R_M) (by decide +kernel) rfl (Nat.le_of_ble_eq_true rfl) (fol_nar (Or.inr rfl)) ?_
  intro p e st m below meth c A ls Q hx hb hml hts hown hK hP hD hS hA hl fin
  have hpw : 2 ^ vn ≤ 1024 := pw_le hvn
  generalize hT : fol (fun z => rmB io mt mf (rv z vn)) (fun z => itv x (nI (rv z vn))) (2 ^ vn) 0 1 = res at fin
  have loop : ∀ (k z : Nat) (y : Int32) (ls : Array Slot) (H : Heap) (locs : List Loc), z + k = 2 ^ vn → fol (fun z => rmB io mt mf (rv z vn)) (fun z => itv x (nI (rv z vn))) k z y = res → va_P D cls_ [(m0, .inr (4, [.int 0, .int (nI vn), .int (nI kn), .int (nI tn), .int (nI an), .int mo, .int tt, .int tf, .int mt, .int mf, .ref ma, .int (nI mn)])), (ma, .inl (cZ, 1024, .inl (io)))] H → va_D A [(m0, .inr (4, [.int 0, .int (nI vn), .int (nI kn), .int (nI tn), .int (nI an), .int mo, .int tt, .int tf, .int mt, .int mf, .ref ma, .int (nI mn)])), (ma, .inl (cZ, 1024, .inl (io)))] → va_S A st.heap H locs → lv_has ls 4 [(3, .int (nI z)), (2, .int y), (0, .ref m0), (1, .int x)] → W p l e { frames := 2, cells := 0, slots := 0, locals := 45 } st m [Value.ref m0, Value.int x].toArray below meth c H locs 0 0 Q (F0 m 24 ls []) := by
    intro k
    induction k with
    | zero =>
      intro z y ls H locs hz he hP hD hS hl
      have he : y = res := he
      subst he
      refine lv_iload_n hx hb d_M_follows_24 rfl (lv_at hl 0 rfl) ?_
      refine lv_iconst (v := 1) hx hb d_M_follows_25 (by decide) ?_
      refine lv_aload_n hx hb d_M_follows_26 rfl (lv_at hl 2 rfl) ?_
      refine va_get (D := D) (ci := 4) (v := .int (nI vn)) (C := R_M) (T := T_M) (N := 12) hx hb hts u_M hown hK hP 0 rfl rfl 1 (by decide) (hts _ f_M_20) (fun _ h9 => h9) rfl d_M_follows_27 ?_
      refine lv_ishl hx hb d_M_follows_30 ?_
      rw [sh1 hvn]
      refine lv_icmp_ge (tgt := 59) hx hb d_M_follows_31 rfl (fun hc31 => ?_) (fun hc31 => absurd (nI_le (by omega) (by omega)) hc31)
      refine lv_aload_n hx hb d_M_follows_59 rfl (lv_at hl 2 rfl) ?_
      refine CTv_V (isC := [0, 1]) (isR := []) (wr := []) (wi := [(m0, .inr (4, [.int 0, .int (nI vn), .int (nI kn), .int (nI tn), .int (nI an), .int mo, .int tt, .int tf, .int mt, .int mf, .ref ma, .int (nI mn)])), (ma, .inl (cZ, 1024, .inl (io)))]) (wo := [(m0, .inr (4, [.int 0, .int (nI vn), .int (nI kn), .int (nI tn), .int (nI 0), .int mo, .int tt, .int tf, .int 0, .int 0, .ref ma, .int (nI mn)])), (ma, .inl (cZ, 1024, .inl (io)))]) (b := m0) (As := []) (rest := []) ⟨hx, hb, hml, hown, hts⟩ [0] (k_M_forget l D cZ m0 ma 0 vn kn tn an mo tt tf mt mf io mn) (cwV 0 hts v_M_61 rfl rfl rfl (by decide +kernel) ⟨Nat.le_of_ble_eq_true rfl, Nat.le_of_ble_eq_true rfl⟩) ⟨rfl, rfl, rfl, rfl, by decide⟩ rfl hK hP hD hS hA (va_recv (ci := 4) hK hP rfl (q0 := 0) rfl) rfl hl.1 (Nat.le_of_ble_eq_true rfl) d_M_follows_60 ⟨Nat.le_of_ble_eq_true rfl, Nat.le_of_ble_eq_true rfl⟩ (fun H locs hP hD hS => ?_)
      have hP : va_P D cls_ [(m0, .inr (4, [.int 0, .int (nI vn), .int (nI kn), .int (nI tn), .int (nI 0), .int mo, .int tt, .int tf, .int 0, .int 0, .ref ma, .int (nI mn)])), (ma, .inl (cZ, 1024, .inl (io)))] H := hP
      have hD : va_D A [(m0, .inr (4, [.int 0, .int (nI vn), .int (nI kn), .int (nI tn), .int (nI 0), .int mo, .int tt, .int tf, .int 0, .int 0, .ref ma, .int (nI mn)])), (ma, .inl (cZ, 1024, .inl (io)))] := hD
      refine lv_aload_n hx hb d_M_follows_63 rfl (lv_at hl 2 rfl) ?_
      refine lv_iconst (v := (-1)) hx hb d_M_follows_64 (by decide) ?_
      refine va_put (D := D) (ci := 4) (v := .int (-1)) (ty := .int) (C := R_M) (T := T_M) (N := 12) hx hb hts u_M t_M t_M_ok n_M hown hK hP hD hS 0 rfl rfl 5 (by decide) (hts _ f_M_7) (fun _ h9 => h9) rfl (by decide +kernel) rfl rfl (Nat.le_of_ble_eq_true rfl) d_M_follows_65 (fun H locs hP hD hS => ?_)
      have hP : va_P D cls_ [(m0, .inr (4, [.int 0, .int (nI vn), .int (nI kn), .int (nI tn), .int (nI 0), .int (-1), .int tt, .int tf, .int 0, .int 0, .ref ma, .int (nI mn)])), (ma, .inl (cZ, 1024, .inl (io)))] H := hP
      have hD : va_D A [(m0, .inr (4, [.int 0, .int (nI vn), .int (nI kn), .int (nI tn), .int (nI 0), .int (-1), .int tt, .int tf, .int 0, .int 0, .ref ma, .int (nI mn)])), (ma, .inl (cZ, 1024, .inl (io)))] := hD
      refine lv_iload_n hx hb d_M_follows_68 rfl (lv_at hl 1 rfl) ?_
      exact fin _ _ _ _ _ hP hD hS (rfl) d_M_follows_69
    | succ k ih =>
      intro z y ls H locs hz he hP hD hS hl
      refine lv_iload_n hx hb d_M_follows_24 rfl (lv_at hl 0 rfl) ?_
      refine lv_iconst (v := 1) hx hb d_M_follows_25 (by decide) ?_
      refine lv_aload_n hx hb d_M_follows_26 rfl (lv_at hl 2 rfl) ?_
      refine va_get (D := D) (ci := 4) (v := .int (nI vn)) (C := R_M) (T := T_M) (N := 12) hx hb hts u_M hown hK hP 0 rfl rfl 1 (by decide) (hts _ f_M_20) (fun _ h9 => h9) rfl d_M_follows_27 ?_
      refine lv_ishl hx hb d_M_follows_30 ?_
      rw [sh1 hvn]
      refine lv_icmp_ge (tgt := 59) hx hb d_M_follows_31 rfl (fun hc31 => absurd hc31 (nI_ge (by omega) (by omega))) (fun hc31 => ?_)
      refine lv_aload_n hx hb d_M_follows_34 rfl (lv_at hl 2 rfl) ?_
      refine lv_iload_n hx hb d_M_follows_35 rfl (lv_at hl 0 rfl) ?_
      refine CTi_V (isC := [0, 1]) (isR := []) (wr := []) (wi := [(m0, .inr (4, [.int 0, .int (nI vn), .int (nI kn), .int (nI tn), .int (nI an), .int mo, .int tt, .int tf, .int mt, .int mf, .ref ma, .int (nI mn)])), (ma, .inl (cZ, 1024, .inl (io)))]) (wo := [(m0, .inr (4, [.int 0, .int (nI vn), .int (nI kn), .int (nI tn), .int (nI an), .int mo, .int tt, .int tf, .int mt, .int mf, .ref ma, .int (nI mn)])), (ma, .inl (cZ, 1024, .inl (io)))]) (b := m0) (As := [.int (nI z)]) (rest := []) ⟨hx, hb, hml, hown, hts⟩ [0] (k_M_isModel l D cZ m0 ma 0 vn kn tn an mo tt tf mt mf io mn hvn z (show z < 1024 by omega)) (cwV 1 hts v_M_58 rfl rfl rfl (by decide +kernel) ⟨Nat.le_of_ble_eq_true rfl, Nat.le_of_ble_eq_true rfl⟩) ⟨rfl, rfl, rfl, rfl, by decide⟩ rfl hK hP hD hS hA (va_recv (ci := 4) hK hP rfl (q0 := 0) rfl) rfl hl.1 (Nat.le_of_ble_eq_true rfl) d_M_follows_36 ⟨Nat.le_of_ble_eq_true rfl, Nat.le_of_ble_eq_true rfl⟩ (fun H locs hP hD hS => ?_)
      have hP : va_P D cls_ [(m0, .inr (4, [.int 0, .int (nI vn), .int (nI kn), .int (nI tn), .int (nI an), .int mo, .int tt, .int tf, .int mt, .int mf, .ref ma, .int (nI mn)])), (ma, .inl (cZ, 1024, .inl (io)))] H := hP
      have hD : va_D A [(m0, .inr (4, [.int 0, .int (nI vn), .int (nI kn), .int (nI tn), .int (nI an), .int mo, .int tt, .int tf, .int mt, .int mf, .ref ma, .int (nI mn)])), (ma, .inl (cZ, 1024, .inl (io)))] := hD
      refine lv_if_eq (tgt := 53) hx hb d_M_follows_39 rfl (fun hc39 => ?_) (fun hc39 => ?_)
      · refine lv_iinc (k := 0) (v := (nI (z + 1))) (lv' := [(3, .int (nI (z + 1))), (2, .int y), (0, .ref m0), (1, .int x)]) hx hb d_M_follows_53 hl rfl (nI_1 z) (by decide) rfl (fun ls hl => ?_)
        refine lv_goto (tgt := 24) hx hb d_M_follows_56 rfl ?_
        exact ih (z + 1) y ls H locs (by omega) (by rw [← he, fol_s, if_neg (fun h => it0 hc39 h.1)]) hP hD hS (lv_sub hl [0, 1, 2, 3] rfl)
      · refine lv_aload_n hx hb d_M_follows_42 rfl (lv_at hl 2 rfl) ?_
        refine lv_iload_n hx hb d_M_follows_43 rfl (lv_at hl 3 rfl) ?_
        refine lv_iload_n hx hb d_M_follows_44 rfl (lv_at hl 0 rfl) ?_
        refine CTi_V (isC := [0, 1]) (isR := []) (wr := []) (wi := [(m0, .inr (4, [.int 0, .int (nI vn), .int (nI kn), .int (nI tn), .int (nI an), .int mo, .int tt, .int tf, .int mt, .int mf, .ref ma, .int (nI mn)])), (ma, .inl (cZ, 1024, .inl (io)))]) (wo := [(m0, .inr (4, [.int 0, .int (nI vn), .int (nI kn), .int (nI tn), .int (nI an), .int mo, .int tt, .int tf, .int mt, .int mf, .ref ma, .int (nI mn)])), (ma, .inl (cZ, 1024, .inl (io)))]) (b := m0) (As := [.int x, .int (nI z)]) (rest := []) ⟨hx, hb, hml, hown, hts⟩ [0] (k_M_isTrue l D cZ m0 ma 0 vn kn tn an mo tt tf mt mf io mn hvn x z (show z < 1024 by omega)) (cwV 2 hts v_M_64 rfl rfl rfl (by decide +kernel) ⟨Nat.le_of_ble_eq_true rfl, Nat.le_of_ble_eq_true rfl⟩) ⟨rfl, rfl, rfl, rfl, by decide⟩ rfl hK hP hD hS hA (va_recv (ci := 4) hK hP rfl (q0 := 0) rfl) rfl hl.1 (Nat.le_of_ble_eq_true rfl) d_M_follows_45 ⟨Nat.le_of_ble_eq_true rfl, Nat.le_of_ble_eq_true rfl⟩ (fun H locs hP hD hS => ?_)
        have hP : va_P D cls_ [(m0, .inr (4, [.int 0, .int (nI vn), .int (nI kn), .int (nI tn), .int (nI an), .int mo, .int tt, .int tf, .int mt, .int mf, .ref ma, .int (nI mn)])), (ma, .inl (cZ, 1024, .inl (io)))] H := hP
        have hD : va_D A [(m0, .inr (4, [.int 0, .int (nI vn), .int (nI kn), .int (nI tn), .int (nI an), .int mo, .int tt, .int tf, .int mt, .int mf, .ref ma, .int (nI mn)])), (ma, .inl (cZ, 1024, .inl (io)))] := hD
        refine lv_if_ne (tgt := 53) hx hb d_M_follows_48 rfl (fun hc48 => ?_) (fun hc48 => ?_)
        · refine lv_iinc (k := 0) (v := (nI (z + 1))) (lv' := [(3, .int (nI (z + 1))), (2, .int y), (0, .ref m0), (1, .int x)]) hx hb d_M_follows_53 hl rfl (nI_1 z) (by decide) rfl (fun ls hl => ?_)
          refine lv_goto (tgt := 24) hx hb d_M_follows_56 rfl ?_
          exact ih (z + 1) y ls H locs (by omega) (by rw [← he, fol_s, if_neg (fun h => hc48 h.2)]) hP hD hS (lv_sub hl [0, 1, 2, 3] rfl)
        · refine lv_iconst (v := 0) hx hb d_M_follows_51 (by decide) ?_
          refine lv_istore_n (lv' := [(2, .int 0), (3, .int (nI z)), (0, .ref m0), (1, .int x)]) hx hb d_M_follows_52 rfl hl (by decide) rfl (fun ls hl => ?_)
          refine lv_iinc (k := 1) (v := (nI (z + 1))) (lv' := [(3, .int (nI (z + 1))), (2, .int 0), (0, .ref m0), (1, .int x)]) hx hb d_M_follows_53 hl rfl (nI_1 z) (by decide) rfl (fun ls hl => ?_)
          refine lv_goto (tgt := 24) hx hb d_M_follows_56 rfl ?_
          exact ih (z + 1) 0 ls H locs (by omega) (by rw [← he, fol_s, if_pos ⟨it1 hc39, hc48⟩]) hP hD hS (lv_sub hl [0, 1, 2, 3] rfl)
  refine lv_aload_n hx hb d_M_follows_0 rfl (lv_at hl 0 rfl) ?_
  refine lv_iload_n hx hb d_M_follows_1 rfl (lv_at hl 1 rfl) ?_
  refine CTi_V (isC := [0, 1]) (isR := []) (wr := []) (wi := [(m0, .inr (4, [.int th, .int (nI vn), .int (nI kn), .int (nI tn), .int (nI an), .int mo, .int tt, .int tf, .int mt, .int mf, .ref ma, .int (nI mn)])), (ma, .inl (cZ, 1024, .inl (io)))]) (wo := [(m0, .inr (4, [.int th, .int (nI vn), .int (nI kn), .int (nI tn), .int (nI an), .int mo, .int tt, .int tf, .int mt, .int mf, .ref ma, .int (nI mn)])), (ma, .inl (cZ, 1024, .inl (io)))]) (b := m0) (As := [.int x]) (rest := []) ⟨hx, hb, hml, hown, hts⟩ [0] (k_M_isLiteral l D cZ m0 ma th vn kn tn an mo tt tf mt mf io mn x) (cwV 1 hts v_M_27 rfl rfl rfl (by decide +kernel) ⟨Nat.le_of_ble_eq_true rfl, Nat.le_of_ble_eq_true rfl⟩) ⟨rfl, rfl, rfl, rfl, by decide⟩ rfl hK hP hD hS hA (va_recv (ci := 4) hK hP rfl (q0 := 0) rfl) rfl hl.1 (Nat.le_of_ble_eq_true rfl) d_M_follows_2 ⟨Nat.le_of_ble_eq_true rfl, Nat.le_of_ble_eq_true rfl⟩ (fun H locs hP hD hS => ?_)
  have hP : va_P D cls_ [(m0, .inr (4, [.int th, .int (nI vn), .int (nI kn), .int (nI tn), .int (nI an), .int mo, .int tt, .int tf, .int mt, .int mf, .ref ma, .int (nI mn)])), (ma, .inl (cZ, 1024, .inl (io)))] H := hP
  have hD : va_D A [(m0, .inr (4, [.int th, .int (nI vn), .int (nI kn), .int (nI tn), .int (nI an), .int mo, .int tt, .int tf, .int mt, .int mf, .ref ma, .int (nI mn)])), (ma, .inl (cZ, 1024, .inl (io)))] := hD
  refine lv_if_ne (tgt := 15) hx hb d_M_follows_5 rfl (fun hc5 => ?_) (fun hc5 => absurd hx9 (it0 hc5))
  refine lv_aload_n hx hb d_M_follows_15 rfl (lv_at hl 0 rfl) ?_
  refine lv_iconst (v := 0) hx hb d_M_follows_16 (by decide) ?_
  refine va_put (D := D) (ci := 4) (v := .int 0) (ty := .int) (C := R_M) (T := T_M) (N := 12) hx hb hts u_M t_M t_M_ok n_M hown hK hP hD hS 0 rfl rfl 0 (by decide) (hts _ f_M_17) (fun _ h9 => h9) rfl (by decide +kernel) rfl rfl (Nat.le_of_ble_eq_true rfl) d_M_follows_17 (fun H locs hP hD hS => ?_)
  have hP : va_P D cls_ [(m0, .inr (4, [.int 0, .int (nI vn), .int (nI kn), .int (nI tn), .int (nI an), .int mo, .int tt, .int tf, .int mt, .int mf, .ref ma, .int (nI mn)])), (ma, .inl (cZ, 1024, .inl (io)))] H := hP
  have hD : va_D A [(m0, .inr (4, [.int 0, .int (nI vn), .int (nI kn), .int (nI tn), .int (nI an), .int mo, .int tt, .int tf, .int mt, .int mf, .ref ma, .int (nI mn)])), (ma, .inl (cZ, 1024, .inl (io)))] := hD
  refine lv_iconst (v := 1) hx hb d_M_follows_20 (by decide) ?_
  refine lv_istore_n (lv' := [(2, .int 1), (0, .ref m0), (1, .int x)]) hx hb d_M_follows_21 rfl hl (by decide) rfl (fun ls hl => ?_)
  refine lv_iconst (v := 0) hx hb d_M_follows_22 (by decide) ?_
  refine lv_istore_n (lv' := [(3, .int 0), (2, .int 1), (0, .ref m0), (1, .int x)]) hx hb d_M_follows_23 rfl hl (by decide) rfl (fun ls hl => ?_)
  exact loop (2 ^ vn) 0 1 ls H locs (by omega) hT hP hD hS (lv_sub hl [0, 1, 2, 3] rfl)
set_option maxHeartbeats 4000000 in
set_option maxRecDepth 100000 in
theorem k_M_models (l : Launch) (D : va_G) (cZ : ClassId) (m0 ma : Nat) (th : Int32) (vn kn tn an : Nat) (mo tt tf mt mf : Int32) (io : Nat → Int32) (mn : Nat) (hvn : vn ≤ 10) : KTi l y_M_models c_M_models 3 .int { frames := 2, cells := 0, slots := 0, locals := 45 } D [(cZ, .boolean)] [.ref m0] (wM cZ m0 ma th vn kn tn an mo tt tf mt mf io mn) (nI (mol (fun z => rmB io mt mf (rv z vn)) (2 ^ vn) 0 0)) (wM cZ m0 ma 0 vn kn tn 0 ((-1)) tt tf 0 0 io mn) := by
  refine KTi_of (own := R_M) (by decide +kernel) rfl (Nat.le_of_ble_eq_true rfl) (vp_nar_int _) ?_
  intro p e st m below meth c A ls Q hx hb hml hts hown hK hP hD hS hA hl fin
  have hpw : 2 ^ vn ≤ 1024 := pw_le hvn
  generalize hT : mol (fun z => rmB io mt mf (rv z vn)) (2 ^ vn) 0 0 = res at fin
  have ex : ∀ (ls : Array Slot) (H : Heap) (locs : List Loc), va_P D cls_ [(m0, .inr (4, [.int 0, .int (nI vn), .int (nI kn), .int (nI tn), .int (nI an), .int mo, .int tt, .int tf, .int mt, .int mf, .ref ma, .int (nI mn)])), (ma, .inl (cZ, 1024, .inl (io)))] H → va_D A [(m0, .inr (4, [.int 0, .int (nI vn), .int (nI kn), .int (nI tn), .int (nI an), .int mo, .int tt, .int tf, .int mt, .int mf, .ref ma, .int (nI mn)])), (ma, .inl (cZ, 1024, .inl (io)))] → va_S A st.heap H locs → lv_has ls 3 [(1, .int (nI res)), (0, .ref m0)] → W p l e { frames := 2, cells := 0, slots := 0, locals := 45 } st m [Value.ref m0].toArray below meth c H locs 0 0 Q (F0 m 42 ls []) := by
    intro ls H locs hP hD hS hl
    refine lv_aload_n hx hb d_M_models_42 rfl (lv_at hl 1 rfl) ?_
    refine CTv_V (isC := [0, 1]) (isR := []) (wr := []) (wi := [(m0, .inr (4, [.int 0, .int (nI vn), .int (nI kn), .int (nI tn), .int (nI an), .int mo, .int tt, .int tf, .int mt, .int mf, .ref ma, .int (nI mn)])), (ma, .inl (cZ, 1024, .inl (io)))]) (wo := [(m0, .inr (4, [.int 0, .int (nI vn), .int (nI kn), .int (nI tn), .int (nI 0), .int mo, .int tt, .int tf, .int 0, .int 0, .ref ma, .int (nI mn)])), (ma, .inl (cZ, 1024, .inl (io)))]) (b := m0) (As := []) (rest := []) ⟨hx, hb, hml, hown, hts⟩ [0] (k_M_forget l D cZ m0 ma 0 vn kn tn an mo tt tf mt mf io mn) (cwV 0 hts v_M_61 rfl rfl rfl (by decide +kernel) ⟨Nat.le_of_ble_eq_true rfl, Nat.le_of_ble_eq_true rfl⟩) ⟨rfl, rfl, rfl, rfl, by decide⟩ rfl hK hP hD hS hA (va_recv (ci := 4) hK hP rfl (q0 := 0) rfl) rfl hl.1 (Nat.le_of_ble_eq_true rfl) d_M_models_43 ⟨Nat.le_of_ble_eq_true rfl, Nat.le_of_ble_eq_true rfl⟩ (fun H locs hP hD hS => ?_)
    have hP : va_P D cls_ [(m0, .inr (4, [.int 0, .int (nI vn), .int (nI kn), .int (nI tn), .int (nI 0), .int mo, .int tt, .int tf, .int 0, .int 0, .ref ma, .int (nI mn)])), (ma, .inl (cZ, 1024, .inl (io)))] H := hP
    have hD : va_D A [(m0, .inr (4, [.int 0, .int (nI vn), .int (nI kn), .int (nI tn), .int (nI 0), .int mo, .int tt, .int tf, .int 0, .int 0, .ref ma, .int (nI mn)])), (ma, .inl (cZ, 1024, .inl (io)))] := hD
    refine lv_aload_n hx hb d_M_models_46 rfl (lv_at hl 1 rfl) ?_
    refine lv_iconst (v := (-1)) hx hb d_M_models_47 (by decide) ?_
    refine va_put (D := D) (ci := 4) (v := .int (-1)) (ty := .int) (C := R_M) (T := T_M) (N := 12) hx hb hts u_M t_M t_M_ok n_M hown hK hP hD hS 0 rfl rfl 5 (by decide) (hts _ f_M_7) (fun _ h9 => h9) rfl (by decide +kernel) rfl rfl (Nat.le_of_ble_eq_true rfl) d_M_models_48 (fun H locs hP hD hS => ?_)
    have hP : va_P D cls_ [(m0, .inr (4, [.int 0, .int (nI vn), .int (nI kn), .int (nI tn), .int (nI 0), .int (-1), .int tt, .int tf, .int 0, .int 0, .ref ma, .int (nI mn)])), (ma, .inl (cZ, 1024, .inl (io)))] H := hP
    have hD : va_D A [(m0, .inr (4, [.int 0, .int (nI vn), .int (nI kn), .int (nI tn), .int (nI 0), .int (-1), .int tt, .int tf, .int 0, .int 0, .ref ma, .int (nI mn)])), (ma, .inl (cZ, 1024, .inl (io)))] := hD
    refine lv_iload_n hx hb d_M_models_51 rfl (lv_at hl 0 rfl) ?_
    exact fin _ _ _ _ _ hP hD hS (rfl) d_M_models_52
  have loop : ∀ (k z c0 : Nat) (ls : Array Slot) (H : Heap) (locs : List Loc), z + k = 2 ^ vn → c0 ≤ 40 → mol (fun z => rmB io mt mf (rv z vn)) k z c0 = res → va_P D cls_ [(m0, .inr (4, [.int 0, .int (nI vn), .int (nI kn), .int (nI tn), .int (nI an), .int mo, .int tt, .int tf, .int mt, .int mf, .ref ma, .int (nI mn)])), (ma, .inl (cZ, 1024, .inl (io)))] H → va_D A [(m0, .inr (4, [.int 0, .int (nI vn), .int (nI kn), .int (nI tn), .int (nI an), .int mo, .int tt, .int tf, .int mt, .int mf, .ref ma, .int (nI mn)])), (ma, .inl (cZ, 1024, .inl (io)))] → va_S A st.heap H locs → lv_has ls 3 [(2, .int (nI z)), (1, .int (nI c0)), (0, .ref m0)] → W p l e { frames := 2, cells := 0, slots := 0, locals := 45 } st m [Value.ref m0].toArray below meth c H locs 0 0 Q (F0 m 9 ls []) := by
    intro k
    induction k with
    | zero =>
      intro z c0 ls H locs hz hc0 he hP hD hS hl
      have he : c0 = res := he
      subst he
      refine lv_iload_n hx hb d_M_models_9 rfl (lv_at hl 0 rfl) ?_
      refine lv_iconst (v := 1) hx hb d_M_models_10 (by decide) ?_
      refine lv_aload_n hx hb d_M_models_11 rfl (lv_at hl 2 rfl) ?_
      refine va_get (D := D) (ci := 4) (v := .int (nI vn)) (C := R_M) (T := T_M) (N := 12) hx hb hts u_M hown hK hP 0 rfl rfl 1 (by decide) (hts _ f_M_20) (fun _ h9 => h9) rfl d_M_models_12 ?_
      refine lv_ishl hx hb d_M_models_15 ?_
      rw [sh1 hvn]
      refine lv_icmp_ge (tgt := 42) hx hb d_M_models_16 rfl (fun hc16 => ?_) (fun hc16 => absurd (nI_le (by omega) (by omega)) hc16)
      exact ex ls H locs hP hD hS (lv_sub hl [1, 2] rfl)
    | succ k ih =>
      intro z c0 ls H locs hz hc0 he hP hD hS hl
      refine lv_iload_n hx hb d_M_models_9 rfl (lv_at hl 0 rfl) ?_
      refine lv_iconst (v := 1) hx hb d_M_models_10 (by decide) ?_
      refine lv_aload_n hx hb d_M_models_11 rfl (lv_at hl 2 rfl) ?_
      refine va_get (D := D) (ci := 4) (v := .int (nI vn)) (C := R_M) (T := T_M) (N := 12) hx hb hts u_M hown hK hP 0 rfl rfl 1 (by decide) (hts _ f_M_20) (fun _ h9 => h9) rfl d_M_models_12 ?_
      refine lv_ishl hx hb d_M_models_15 ?_
      rw [sh1 hvn]
      refine lv_icmp_ge (tgt := 42) hx hb d_M_models_16 rfl (fun hc16 => absurd hc16 (nI_ge (by omega) (by omega))) (fun hc16 => ?_)
      refine lv_iload_n hx hb d_M_models_19 rfl (lv_at hl 1 rfl) ?_
      refine lv_bipush (v := 40) hx hb d_M_models_20 (by decide +kernel) ?_
      refine lv_icmp_ge (tgt := 42) hx hb d_M_models_22 rfl (fun hc22 => ?_) (fun hc22 => ?_)
      · have h40 : 40 ≤ c0 := (nI_leI (a := 40) (by decide) (by omega)).1 hc22
        have he9 : c0 = res := by rw [← he, mol_s, if_pos h40]
        subst he9
        exact ex ls H locs hP hD hS (lv_sub hl [1, 2] rfl)
      · have h40 : ¬ 40 ≤ c0 := fun h => hc22 (nI_le (a := 40) h (by omega))
        refine lv_aload_n hx hb d_M_models_25 rfl (lv_at hl 2 rfl) ?_
        refine lv_iload_n hx hb d_M_models_26 rfl (lv_at hl 0 rfl) ?_
        refine CTi_V (isC := [0, 1]) (isR := []) (wr := []) (wi := [(m0, .inr (4, [.int 0, .int (nI vn), .int (nI kn), .int (nI tn), .int (nI an), .int mo, .int tt, .int tf, .int mt, .int mf, .ref ma, .int (nI mn)])), (ma, .inl (cZ, 1024, .inl (io)))]) (wo := [(m0, .inr (4, [.int 0, .int (nI vn), .int (nI kn), .int (nI tn), .int (nI an), .int mo, .int tt, .int tf, .int mt, .int mf, .ref ma, .int (nI mn)])), (ma, .inl (cZ, 1024, .inl (io)))]) (b := m0) (As := [.int (nI z)]) (rest := []) ⟨hx, hb, hml, hown, hts⟩ [0] (k_M_isModel l D cZ m0 ma 0 vn kn tn an mo tt tf mt mf io mn hvn z (show z < 1024 by omega)) (cwV 1 hts v_M_58 rfl rfl rfl (by decide +kernel) ⟨Nat.le_of_ble_eq_true rfl, Nat.le_of_ble_eq_true rfl⟩) ⟨rfl, rfl, rfl, rfl, by decide⟩ rfl hK hP hD hS hA (va_recv (ci := 4) hK hP rfl (q0 := 0) rfl) rfl hl.1 (Nat.le_of_ble_eq_true rfl) d_M_models_27 ⟨Nat.le_of_ble_eq_true rfl, Nat.le_of_ble_eq_true rfl⟩ (fun H locs hP hD hS => ?_)
        have hP : va_P D cls_ [(m0, .inr (4, [.int 0, .int (nI vn), .int (nI kn), .int (nI tn), .int (nI an), .int mo, .int tt, .int tf, .int mt, .int mf, .ref ma, .int (nI mn)])), (ma, .inl (cZ, 1024, .inl (io)))] H := hP
        have hD : va_D A [(m0, .inr (4, [.int 0, .int (nI vn), .int (nI kn), .int (nI tn), .int (nI an), .int mo, .int tt, .int tf, .int mt, .int mf, .ref ma, .int (nI mn)])), (ma, .inl (cZ, 1024, .inl (io)))] := hD
        refine lv_if_eq (tgt := 36) hx hb d_M_models_30 rfl (fun hc30 => ?_) (fun hc30 => ?_)
        · refine lv_iinc (k := 0) (v := (nI (z + 1))) (lv' := [(2, .int (nI (z + 1))), (1, .int (nI c0)), (0, .ref m0)]) hx hb d_M_models_36 hl rfl (nI_1 z) (by decide) rfl (fun ls hl => ?_)
          refine lv_goto (tgt := 9) hx hb d_M_models_39 rfl ?_
          exact ih (z + 1) c0 ls H locs (by omega) (by omega) (by rw [← he, mol_s, if_neg h40, if_neg (it0 hc30)]) hP hD hS (lv_sub hl [0, 1, 2] rfl)
        · refine lv_iinc (k := 1) (v := (nI (c0 + 1))) (lv' := [(1, .int (nI (c0 + 1))), (2, .int (nI z)), (0, .ref m0)]) hx hb d_M_models_33 hl rfl (nI_1 c0) (by decide) rfl (fun ls hl => ?_)
          refine lv_iinc (k := 1) (v := (nI (z + 1))) (lv' := [(2, .int (nI (z + 1))), (1, .int (nI (c0 + 1))), (0, .ref m0)]) hx hb d_M_models_36 hl rfl (nI_1 z) (by decide) rfl (fun ls hl => ?_)
          refine lv_goto (tgt := 9) hx hb d_M_models_39 rfl ?_
          exact ih (z + 1) (c0 + 1) ls H locs (by omega) (by omega) (by rw [← he, mol_s, if_neg h40, if_pos (it1 hc30)]) hP hD hS (lv_sub hl [0, 1, 2] rfl)
  refine lv_aload_n hx hb d_M_models_0 rfl (lv_at hl 0 rfl) ?_
  refine lv_iconst (v := 0) hx hb d_M_models_1 (by decide) ?_
  refine va_put (D := D) (ci := 4) (v := .int 0) (ty := .int) (C := R_M) (T := T_M) (N := 12) hx hb hts u_M t_M t_M_ok n_M hown hK hP hD hS 0 rfl rfl 0 (by decide) (hts _ f_M_17) (fun _ h9 => h9) rfl (by decide +kernel) rfl rfl (Nat.le_of_ble_eq_true rfl) d_M_models_2 (fun H locs hP hD hS => ?_)
  have hP : va_P D cls_ [(m0, .inr (4, [.int 0, .int (nI vn), .int (nI kn), .int (nI tn), .int (nI an), .int mo, .int tt, .int tf, .int mt, .int mf, .ref ma, .int (nI mn)])), (ma, .inl (cZ, 1024, .inl (io)))] H := hP
  have hD : va_D A [(m0, .inr (4, [.int 0, .int (nI vn), .int (nI kn), .int (nI tn), .int (nI an), .int mo, .int tt, .int tf, .int mt, .int mf, .ref ma, .int (nI mn)])), (ma, .inl (cZ, 1024, .inl (io)))] := hD
  refine lv_iconst (v := 0) hx hb d_M_models_5 (by decide) ?_
  refine lv_istore_n (lv' := [(1, .int 0), (0, .ref m0)]) hx hb d_M_models_6 rfl hl (by decide) rfl (fun ls hl => ?_)
  refine lv_iconst (v := 0) hx hb d_M_models_7 (by decide) ?_
  refine lv_istore_n (lv' := [(2, .int 0), (1, .int 0), (0, .ref m0)]) hx hb d_M_models_8 rfl hl (by decide) rfl (fun ls hl => ?_)
  exact loop (2 ^ vn) 0 0 ls H locs (by omega) (by omega) hT hP hD hS (lv_sub hl [0, 1, 2] rfl)
set_option maxHeartbeats 4000000 in
set_option maxRecDepth 100000 in
theorem k_M_value_b (l : Launch) (D : va_G) (cZ : ClassId) (m0 ma : Nat) (th : Int32) (vn kn tn an : Nat) (mo tt tf mt mf : Int32) (io : Nat → Int32) (mn : Nat) (x : Int32) (hx9 : x < 1 ∨ nI vn < x) : KTi l y_M_value c_M_value 2 .boolean { frames := 0, cells := 0, slots := 0, locals := 0 } D [(cZ, .boolean)] [.ref m0, .int x] (wM cZ m0 ma th vn kn tn an mo tt tf mt mf io mn) (0) (wM cZ m0 ma 1 vn kn tn an mo tt tf mt mf io mn) := by
  refine KTi_of (own := R_M) (by decide +kernel) rfl (Nat.le_of_ble_eq_true rfl) (by decide +kernel) ?_
  intro p e st m below meth c A ls Q hx hb hml hts hown hK hP hD hS hA hl fin
  refine lv_aload_n hx hb d_M_value_0 rfl (lv_at hl 0 rfl) ?_
  refine lv_iload_n hx hb d_M_value_1 rfl (lv_at hl 1 rfl) ?_
  refine lv_iconst (v := 1) hx hb d_M_value_2 (by decide) ?_
  refine lv_icmp_lt (tgt := 14) hx hb d_M_value_3 rfl (fun hc3 => ?_) (fun hc3 => ?_)
  · refine lv_iconst (v := 1) hx hb d_M_value_14 (by decide) ?_
    refine lv_goto (tgt := 30) hx hb d_M_value_15 rfl ?_
    refine va_put (D := D) (ci := 4) (v := .int 1) (ty := .int) (C := R_M) (T := T_M) (N := 12) hx hb hts u_M t_M t_M_ok n_M hown hK hP hD hS 0 rfl rfl 0 (by decide) (hts _ f_M_17) (fun _ h9 => h9) rfl (by decide +kernel) rfl rfl (Nat.le_of_ble_eq_true rfl) d_M_value_30 (fun H locs hP hD hS => ?_)
    have hP : va_P D cls_ [(m0, .inr (4, [.int 1, .int (nI vn), .int (nI kn), .int (nI tn), .int (nI an), .int mo, .int tt, .int tf, .int mt, .int mf, .ref ma, .int (nI mn)])), (ma, .inl (cZ, 1024, .inl (io)))] H := hP
    have hD : va_D A [(m0, .inr (4, [.int 1, .int (nI vn), .int (nI kn), .int (nI tn), .int (nI an), .int mo, .int tt, .int tf, .int mt, .int mf, .ref ma, .int (nI mn)])), (ma, .inl (cZ, 1024, .inl (io)))] := hD
    refine lv_aload_n hx hb d_M_value_33 rfl (lv_at hl 0 rfl) ?_
    refine va_get (D := D) (ci := 4) (v := .int 1) (C := R_M) (T := T_M) (N := 12) hx hb hts u_M hown hK hP 0 rfl rfl 0 (by decide) (hts _ f_M_17) (fun _ h9 => h9) rfl d_M_value_34 ?_
    refine lv_if_ne (tgt := 68) hx hb d_M_value_37 rfl (fun hc37 => ?_) (fun hc37 => absurd hc37 (by decide))
    refine lv_iconst (v := 0) hx hb d_M_value_68 (by decide) ?_
    exact fin _ _ _ _ _ hP hD hS (rfl) d_M_value_69
  · refine lv_iload_n hx hb d_M_value_6 rfl (lv_at hl 1 rfl) ?_
    refine lv_aload_n hx hb d_M_value_7 rfl (lv_at hl 0 rfl) ?_
    refine va_get (D := D) (ci := 4) (v := .int (nI vn)) (C := R_M) (T := T_M) (N := 12) hx hb hts u_M hown hK hP 0 rfl rfl 1 (by decide) (hts _ f_M_20) (fun _ h9 => h9) rfl d_M_value_8 ?_
    refine lv_icmp_le (tgt := 18) hx hb d_M_value_11 rfl (fun hc11 => absurd hx9 (fun h => h.elim hc3 (Int32.not_lt.mpr hc11))) (fun hc11 => ?_)
    refine lv_iconst (v := 1) hx hb d_M_value_14 (by decide) ?_
    refine lv_goto (tgt := 30) hx hb d_M_value_15 rfl ?_
    refine va_put (D := D) (ci := 4) (v := .int 1) (ty := .int) (C := R_M) (T := T_M) (N := 12) hx hb hts u_M t_M t_M_ok n_M hown hK hP hD hS 0 rfl rfl 0 (by decide) (hts _ f_M_17) (fun _ h9 => h9) rfl (by decide +kernel) rfl rfl (Nat.le_of_ble_eq_true rfl) d_M_value_30 (fun H locs hP hD hS => ?_)
    have hP : va_P D cls_ [(m0, .inr (4, [.int 1, .int (nI vn), .int (nI kn), .int (nI tn), .int (nI an), .int mo, .int tt, .int tf, .int mt, .int mf, .ref ma, .int (nI mn)])), (ma, .inl (cZ, 1024, .inl (io)))] H := hP
    have hD : va_D A [(m0, .inr (4, [.int 1, .int (nI vn), .int (nI kn), .int (nI tn), .int (nI an), .int mo, .int tt, .int tf, .int mt, .int mf, .ref ma, .int (nI mn)])), (ma, .inl (cZ, 1024, .inl (io)))] := hD
    refine lv_aload_n hx hb d_M_value_33 rfl (lv_at hl 0 rfl) ?_
    refine va_get (D := D) (ci := 4) (v := .int 1) (C := R_M) (T := T_M) (N := 12) hx hb hts u_M hown hK hP 0 rfl rfl 0 (by decide) (hts _ f_M_17) (fun _ h9 => h9) rfl d_M_value_34 ?_
    refine lv_if_ne (tgt := 68) hx hb d_M_value_37 rfl (fun hc37 => ?_) (fun hc37 => absurd hc37 (by decide))
    refine lv_iconst (v := 0) hx hb d_M_value_68 (by decide) ?_
    exact fin _ _ _ _ _ hP hD hS (rfl) d_M_value_69
set_option maxHeartbeats 4000000 in
set_option maxRecDepth 100000 in
theorem k_M_value_m (l : Launch) (D : va_G) (cZ : ClassId) (m0 ma : Nat) (th : Int32) (vn kn tn an : Nat) (mo tt tf mt mf : Int32) (io : Nat → Int32) (mn : Nat) (x : Int32) (hx1 : ¬ x < 1) (hx2 : x ≤ nI vn) (hm9 : mo < 0) : KTi l y_M_value c_M_value 2 .boolean { frames := 0, cells := 0, slots := 0, locals := 0 } D [(cZ, .boolean)] [.ref m0, .int x] (wM cZ m0 ma th vn kn tn an mo tt tf mt mf io mn) (0) (wM cZ m0 ma 2 vn kn tn an mo tt tf mt mf io mn) := by
  refine KTi_of (own := R_M) (by decide +kernel) rfl (Nat.le_of_ble_eq_true rfl) (by decide +kernel) ?_
  intro p e st m below meth c A ls Q hx hb hml hts hown hK hP hD hS hA hl fin
  refine lv_aload_n hx hb d_M_value_0 rfl (lv_at hl 0 rfl) ?_
  refine lv_iload_n hx hb d_M_value_1 rfl (lv_at hl 1 rfl) ?_
  refine lv_iconst (v := 1) hx hb d_M_value_2 (by decide) ?_
  refine lv_icmp_lt (tgt := 14) hx hb d_M_value_3 rfl (fun hc3 => absurd hc3 hx1) (fun hc3 => ?_)
  refine lv_iload_n hx hb d_M_value_6 rfl (lv_at hl 1 rfl) ?_
  refine lv_aload_n hx hb d_M_value_7 rfl (lv_at hl 0 rfl) ?_
  refine va_get (D := D) (ci := 4) (v := .int (nI vn)) (C := R_M) (T := T_M) (N := 12) hx hb hts u_M hown hK hP 0 rfl rfl 1 (by decide) (hts _ f_M_20) (fun _ h9 => h9) rfl d_M_value_8 ?_
  refine lv_icmp_le (tgt := 18) hx hb d_M_value_11 rfl (fun hc11 => ?_) (fun hc11 => absurd hx2 hc11)
  refine lv_aload_n hx hb d_M_value_18 rfl (lv_at hl 0 rfl) ?_
  refine va_get (D := D) (ci := 4) (v := .int mo) (C := R_M) (T := T_M) (N := 12) hx hb hts u_M hown hK hP 0 rfl rfl 5 (by decide) (hts _ f_M_7) (fun _ h9 => h9) rfl d_M_value_19 ?_
  refine lv_if_ge (tgt := 29) hx hb d_M_value_22 rfl (fun hc22 => absurd hm9 (Int32.not_lt.mpr hc22)) (fun hc22 => ?_)
  refine lv_iconst (v := 2) hx hb d_M_value_25 (by decide) ?_
  refine lv_goto (tgt := 30) hx hb d_M_value_26 rfl ?_
  refine va_put (D := D) (ci := 4) (v := .int 2) (ty := .int) (C := R_M) (T := T_M) (N := 12) hx hb hts u_M t_M t_M_ok n_M hown hK hP hD hS 0 rfl rfl 0 (by decide) (hts _ f_M_17) (fun _ h9 => h9) rfl (by decide +kernel) rfl rfl (Nat.le_of_ble_eq_true rfl) d_M_value_30 (fun H locs hP hD hS => ?_)
  have hP : va_P D cls_ [(m0, .inr (4, [.int 2, .int (nI vn), .int (nI kn), .int (nI tn), .int (nI an), .int mo, .int tt, .int tf, .int mt, .int mf, .ref ma, .int (nI mn)])), (ma, .inl (cZ, 1024, .inl (io)))] H := hP
  have hD : va_D A [(m0, .inr (4, [.int 2, .int (nI vn), .int (nI kn), .int (nI tn), .int (nI an), .int mo, .int tt, .int tf, .int mt, .int mf, .ref ma, .int (nI mn)])), (ma, .inl (cZ, 1024, .inl (io)))] := hD
  refine lv_aload_n hx hb d_M_value_33 rfl (lv_at hl 0 rfl) ?_
  refine va_get (D := D) (ci := 4) (v := .int 2) (C := R_M) (T := T_M) (N := 12) hx hb hts u_M hown hK hP 0 rfl rfl 0 (by decide) (hts _ f_M_17) (fun _ h9 => h9) rfl d_M_value_34 ?_
  refine lv_if_ne (tgt := 68) hx hb d_M_value_37 rfl (fun hc37 => ?_) (fun hc37 => absurd hc37 (by decide))
  refine lv_iconst (v := 0) hx hb d_M_value_68 (by decide) ?_
  exact fin _ _ _ _ _ hP hD hS (rfl) d_M_value_69
set_option maxHeartbeats 4000000 in
set_option maxRecDepth 100000 in
theorem k_M_value (l : Launch) (D : va_G) (cZ : ClassId) (m0 ma : Nat) (th : Int32) (vn kn tn an : Nat) (mo tt tf mt mf : Int32) (io : Nat → Int32) (mn : Nat) (x : Int32) (hx1 : ¬ x < 1) (hx2 : x ≤ nI vn) (hm9 : ¬ mo < 0) : KTi l y_M_value c_M_value 2 .boolean { frames := 0, cells := 0, slots := 0, locals := 0 } D [(cZ, .boolean)] [.ref m0, .int x] (wM cZ m0 ma th vn kn tn an mo tt tf mt mf io mn) (if x ≤ nI mn ∧ ¬ (mo >>> ((nI mn - x) &&& 31)) &&& 1 = 0 then 1 else 0) (wM cZ m0 ma 0 vn kn tn an mo tt tf mt mf io mn) := by
  refine KTi_of (own := R_M) (by decide +kernel) rfl (Nat.le_of_ble_eq_true rfl) (nar_if _) ?_
  intro p e st m below meth c A ls Q hx hb hml hts hown hK hP hD hS hA hl fin
  refine lv_aload_n hx hb d_M_value_0 rfl (lv_at hl 0 rfl) ?_
  refine lv_iload_n hx hb d_M_value_1 rfl (lv_at hl 1 rfl) ?_
  refine lv_iconst (v := 1) hx hb d_M_value_2 (by decide) ?_
  refine lv_icmp_lt (tgt := 14) hx hb d_M_value_3 rfl (fun hc3 => absurd hc3 hx1) (fun hc3 => ?_)
  refine lv_iload_n hx hb d_M_value_6 rfl (lv_at hl 1 rfl) ?_
  refine lv_aload_n hx hb d_M_value_7 rfl (lv_at hl 0 rfl) ?_
  refine va_get (D := D) (ci := 4) (v := .int (nI vn)) (C := R_M) (T := T_M) (N := 12) hx hb hts u_M hown hK hP 0 rfl rfl 1 (by decide) (hts _ f_M_20) (fun _ h9 => h9) rfl d_M_value_8 ?_
  refine lv_icmp_le (tgt := 18) hx hb d_M_value_11 rfl (fun hc11 => ?_) (fun hc11 => absurd hx2 hc11)
  refine lv_aload_n hx hb d_M_value_18 rfl (lv_at hl 0 rfl) ?_
  refine va_get (D := D) (ci := 4) (v := .int mo) (C := R_M) (T := T_M) (N := 12) hx hb hts u_M hown hK hP 0 rfl rfl 5 (by decide) (hts _ f_M_7) (fun _ h9 => h9) rfl d_M_value_19 ?_
  refine lv_if_ge (tgt := 29) hx hb d_M_value_22 rfl (fun hc22 => ?_) (fun hc22 => absurd (Int32.not_le.mp hc22) hm9)
  refine lv_iconst (v := 0) hx hb d_M_value_29 (by decide) ?_
  refine va_put (D := D) (ci := 4) (v := .int 0) (ty := .int) (C := R_M) (T := T_M) (N := 12) hx hb hts u_M t_M t_M_ok n_M hown hK hP hD hS 0 rfl rfl 0 (by decide) (hts _ f_M_17) (fun _ h9 => h9) rfl (by decide +kernel) rfl rfl (Nat.le_of_ble_eq_true rfl) d_M_value_30 (fun H locs hP hD hS => ?_)
  have hP : va_P D cls_ [(m0, .inr (4, [.int 0, .int (nI vn), .int (nI kn), .int (nI tn), .int (nI an), .int mo, .int tt, .int tf, .int mt, .int mf, .ref ma, .int (nI mn)])), (ma, .inl (cZ, 1024, .inl (io)))] H := hP
  have hD : va_D A [(m0, .inr (4, [.int 0, .int (nI vn), .int (nI kn), .int (nI tn), .int (nI an), .int mo, .int tt, .int tf, .int mt, .int mf, .ref ma, .int (nI mn)])), (ma, .inl (cZ, 1024, .inl (io)))] := hD
  refine lv_aload_n hx hb d_M_value_33 rfl (lv_at hl 0 rfl) ?_
  refine va_get (D := D) (ci := 4) (v := .int 0) (C := R_M) (T := T_M) (N := 12) hx hb hts u_M hown hK hP 0 rfl rfl 0 (by decide) (hts _ f_M_17) (fun _ h9 => h9) rfl d_M_value_34 ?_
  refine lv_if_ne (tgt := 68) hx hb d_M_value_37 rfl (fun hc37 => absurd rfl hc37) (fun hc37 => ?_)
  refine lv_iload_n hx hb d_M_value_40 rfl (lv_at hl 1 rfl) ?_
  refine lv_aload_n hx hb d_M_value_41 rfl (lv_at hl 0 rfl) ?_
  refine va_get (D := D) (ci := 4) (v := .int (nI mn)) (C := R_M) (T := T_M) (N := 12) hx hb hts u_M hown hK hP 0 rfl rfl 11 (by decide) (hts _ f_M_55) (fun _ h9 => h9) rfl d_M_value_42 ?_
  refine lv_icmp_gt (tgt := 68) hx hb d_M_value_45 rfl (fun hc45 => ?_) (fun hc45 => ?_)
  · refine lv_iconst (v := 0) hx hb d_M_value_68 (by decide) ?_
    exact fin _ _ _ _ _ hP hD hS ((if_neg (fun h => Int32.not_lt.mpr h.1 hc45)).symm) d_M_value_69
  · refine lv_aload_n hx hb d_M_value_48 rfl (lv_at hl 0 rfl) ?_
    refine va_get (D := D) (ci := 4) (v := .int mo) (C := R_M) (T := T_M) (N := 12) hx hb hts u_M hown hK hP 0 rfl rfl 5 (by decide) (hts _ f_M_7) (fun _ h9 => h9) rfl d_M_value_49 ?_
    refine lv_aload_n hx hb d_M_value_52 rfl (lv_at hl 0 rfl) ?_
    refine va_get (D := D) (ci := 4) (v := .int (nI mn)) (C := R_M) (T := T_M) (N := 12) hx hb hts u_M hown hK hP 0 rfl rfl 11 (by decide) (hts _ f_M_55) (fun _ h9 => h9) rfl d_M_value_53 ?_
    refine lv_iload_n hx hb d_M_value_56 rfl (lv_at hl 1 rfl) ?_
    refine lv_isub hx hb d_M_value_57 ?_
    refine lv_ishr hx hb d_M_value_58 ?_
    refine lv_iconst (v := 1) hx hb d_M_value_59 (by decide) ?_
    refine lv_iand hx hb d_M_value_60 ?_
    refine lv_if_eq (tgt := 68) hx hb d_M_value_61 rfl (fun hc61 => ?_) (fun hc61 => ?_)
    · refine lv_iconst (v := 0) hx hb d_M_value_68 (by decide) ?_
      exact fin _ _ _ _ _ hP hD hS ((if_neg (fun h => h.2 hc61)).symm) d_M_value_69
    · refine lv_iconst (v := 1) hx hb d_M_value_64 (by decide) ?_
      refine lv_goto (tgt := 69) hx hb d_M_value_65 rfl ?_
      exact fin _ _ _ _ _ hP hD hS ((if_pos ⟨Int32.not_lt.mp hc45, hc61⟩).symm) d_M_value_69
set_option maxHeartbeats 4000000 in
set_option maxRecDepth 100000 in
theorem k_M_count (l : Launch) (D : va_G) (cZ : ClassId) (m0 ma : Nat) (th : Int32) (vn kn tn an : Nat) (mo tt tf mt mf : Int32) (io : Nat → Int32) (mn : Nat) (x : Int32) : KTi l y_M_count c_M_count 2 .int { frames := 0, cells := 0, slots := 0, locals := 0 } D [(cZ, .boolean)] [.ref m0, .int x] (wM cZ m0 ma th vn kn tn an mo tt tf mt mf io mn) (cntm an vn kn tn mo x) (wM cZ m0 ma 0 vn kn tn an mo tt tf mt mf io mn) := by
  refine KTi_of (own := R_M) (by decide +kernel) rfl (Nat.le_of_ble_eq_true rfl) (vp_nar_int _) ?_
  intro p e st m below meth c A ls Q hx hb hml hts hown hK hP hD hS hA hl fin
  refine lv_aload_n hx hb d_M_count_0 rfl (lv_at hl 0 rfl) ?_
  refine lv_iconst (v := 0) hx hb d_M_count_1 (by decide) ?_
  refine va_put (D := D) (ci := 4) (v := .int 0) (ty := .int) (C := R_M) (T := T_M) (N := 12) hx hb hts u_M t_M t_M_ok n_M hown hK hP hD hS 0 rfl rfl 0 (by decide) (hts _ f_M_17) (fun _ h9 => h9) rfl (by decide +kernel) rfl rfl (Nat.le_of_ble_eq_true rfl) d_M_count_2 (fun H locs hP hD hS => ?_)
  have hP : va_P D cls_ [(m0, .inr (4, [.int 0, .int (nI vn), .int (nI kn), .int (nI tn), .int (nI an), .int mo, .int tt, .int tf, .int mt, .int mf, .ref ma, .int (nI mn)])), (ma, .inl (cZ, 1024, .inl (io)))] H := hP
  have hD : va_D A [(m0, .inr (4, [.int 0, .int (nI vn), .int (nI kn), .int (nI tn), .int (nI an), .int mo, .int tt, .int tf, .int mt, .int mf, .ref ma, .int (nI mn)])), (ma, .inl (cZ, 1024, .inl (io)))] := hD
  refine lv_iload_n hx hb d_M_count_5 rfl (lv_at hl 1 rfl) ?_
  by_cases hx0 : x = 0
  · subst hx0
    refine lv_tableIn (tgt := 44) (off := 38) hx hb d_M_count_6 (by decide +kernel) (by decide +kernel) (by decide +kernel) rfl ?_
    refine lv_aload_n hx hb d_M_count_44 rfl (lv_at hl 0 rfl) ?_
    refine va_get (D := D) (ci := 4) (v := .int (nI vn)) (C := R_M) (T := T_M) (N := 12) hx hb hts u_M hown hK hP 0 rfl rfl 1 (by decide) (hts _ f_M_20) (fun _ h9 => h9) rfl d_M_count_45 ?_
    exact fin _ _ _ _ _ hP hD hS (rfl) d_M_count_48
  by_cases hx1 : x = 1
  · subst hx1
    refine lv_tableIn (tgt := 49) (off := 43) hx hb d_M_count_6 (by decide +kernel) (by decide +kernel) (by decide +kernel) rfl ?_
    refine lv_aload_n hx hb d_M_count_49 rfl (lv_at hl 0 rfl) ?_
    refine va_get (D := D) (ci := 4) (v := .int (nI kn)) (C := R_M) (T := T_M) (N := 12) hx hb hts u_M hown hK hP 0 rfl rfl 2 (by decide) (hts _ f_M_40) (fun _ h9 => h9) rfl d_M_count_50 ?_
    exact fin _ _ _ _ _ hP hD hS (rfl) d_M_count_53
  by_cases hx2 : x = 2
  · subst hx2
    refine lv_tableIn (tgt := 54) (off := 48) hx hb d_M_count_6 (by decide +kernel) (by decide +kernel) (by decide +kernel) rfl ?_
    refine lv_aload_n hx hb d_M_count_54 rfl (lv_at hl 0 rfl) ?_
    refine va_get (D := D) (ci := 4) (v := .int (nI tn)) (C := R_M) (T := T_M) (N := 12) hx hb hts u_M hown hK hP 0 rfl rfl 3 (by decide) (hts _ f_M_31) (fun _ h9 => h9) rfl d_M_count_55 ?_
    exact fin _ _ _ _ _ hP hD hS (rfl) d_M_count_58
  by_cases hx3 : x = 3
  · subst hx3
    refine lv_tableIn (tgt := 59) (off := 53) hx hb d_M_count_6 (by decide +kernel) (by decide +kernel) (by decide +kernel) rfl ?_
    refine lv_aload_n hx hb d_M_count_59 rfl (lv_at hl 0 rfl) ?_
    refine va_get (D := D) (ci := 4) (v := .int (nI an)) (C := R_M) (T := T_M) (N := 12) hx hb hts u_M hown hK hP 0 rfl rfl 4 (by decide) (hts _ f_M_43) (fun _ h9 => h9) rfl d_M_count_60 ?_
    exact fin _ _ _ _ _ hP hD hS (rfl) d_M_count_63
  by_cases hx4 : x = 4
  · subst hx4
    refine lv_tableIn (tgt := 64) (off := 58) hx hb d_M_count_6 (by decide +kernel) (by decide +kernel) (by decide +kernel) rfl ?_
    refine lv_aload_n hx hb d_M_count_64 rfl (lv_at hl 0 rfl) ?_
    refine va_get (D := D) (ci := 4) (v := .int mo) (C := R_M) (T := T_M) (N := 12) hx hb hts u_M hown hK hP 0 rfl rfl 5 (by decide) (hts _ f_M_7) (fun _ h9 => h9) rfl d_M_count_65 ?_
    refine lv_if_lt (tgt := 75) hx hb d_M_count_68 rfl (fun hc68 => ?_) (fun hc68 => ?_)
    · refine lv_iconst (v := 0) hx hb d_M_count_75 (by decide) ?_
      exact fin _ _ _ _ _ hP hD hS (by show _ = (if mo < 0 then 0 else 1); rw [if_pos hc68]) d_M_count_76
    · refine lv_iconst (v := 1) hx hb d_M_count_71 (by decide) ?_
      refine lv_goto (tgt := 76) hx hb d_M_count_72 rfl ?_
      exact fin _ _ _ _ _ hP hD hS (by show _ = (if mo < 0 then 0 else 1); rw [if_neg hc68]) d_M_count_76
  by_cases hx5 : x = 5
  · subst hx5
    refine lv_tableIn (tgt := 77) (off := 71) hx hb d_M_count_6 (by decide +kernel) (by decide +kernel) (by decide +kernel) rfl ?_
    refine lv_iconst (v := 0) hx hb d_M_count_77 (by decide) ?_
    exact fin _ _ _ _ _ hP hD hS (rfl) d_M_count_78
  refine lv_tableOut (tgt := 79) hx hb d_M_count_6 (sw_out hx0 hx1 hx2 hx3 hx4 hx5) rfl ?_
  refine lv_iconst (v := (-1)) hx hb d_M_count_79 (by decide) ?_
  exact fin _ _ _ _ _ hP hD hS ((cntm_out hx0 hx1 hx2 hx3 hx4 hx5).symm) d_M_count_80
