section
/-! Part 20: masks by their bits. The rows bt, b_ext .. b_ushr began as rows of kit/laws/BITS.to-paste -/
def bt (x : Int32) (i : Nat) : Bool := x.toBitVec.getLsbD i
theorem b_ext {x y : Int32} (h : ∀ i, i < 32 → bt x i = bt y i) : x = y := Int32.toBitVec_inj.mp (BitVec.eq_of_getLsbD_eq (fun i hi => h i hi))
theorem b_or (x y : Int32) (i : Nat) : bt (x ||| y) i = (bt x i || bt y i) := by unfold bt; rw [Int32.toBitVec_or, BitVec.getLsbD_or]
theorem b_and (x y : Int32) (i : Nat) : bt (x &&& y) i = (bt x i && bt y i) := by unfold bt; rw [Int32.toBitVec_and, BitVec.getLsbD_and]
theorem b_xor (x y : Int32) (i : Nat) : bt (x ^^^ y) i = (bt x i ^^ bt y i) := by unfold bt; rw [Int32.toBitVec_xor, BitVec.getLsbD_xor]
theorem b_big {x : Int32} {i : Nat} (h : 32 ≤ i) : bt x i = false := BitVec.getLsbD_of_ge _ _ h
theorem b_m1 : ∀ i, i < 32 → bt (-1) i = true := by decide +kernel
theorem b_0 (i : Nat) : bt 0 i = false := BitVec.getLsbD_zero
theorem s_l : ∀ n, n < 32 → ((nI n &&& 31).toBitVec.smod 32).toNat = n := by decide +kernel
theorem s_u : ∀ n, n < 32 → (((nI n).toUInt32 &&& Int32.toUInt32 31).toBitVec % 32).toNat = n := by decide +kernel
theorem b_shl (n : Nat) (hn : n < 32) (x : Int32) {i : Nat} (hi : i < 32) : bt (x <<< (nI n &&& 31)) i = (decide (n ≤ i) && bt x (i - n)) := by
  unfold bt
  rw [Int32.toBitVec_shiftLeft]
  show (x.toBitVec <<< ((nI n &&& 31).toBitVec.smod 32).toNat).getLsbD i = _
  rw [s_l n hn, BitVec.getLsbD_shiftLeft]
  rcases Nat.lt_or_ge i n with h | h
  · simp [h, Nat.not_le.mpr h]
  · simp [hi, h, Nat.not_lt.mpr h]
theorem b_ushr (n : Nat) (hn : n < 32) (x : Int32) (i : Nat) : bt ((x.toUInt32 >>> ((nI n).toUInt32 &&& Int32.toUInt32 31)).toInt32) i = bt x (n + i) := by
  show (x.toUInt32 >>> ((nI n).toUInt32 &&& Int32.toUInt32 31)).toBitVec.getLsbD i = x.toUInt32.toBitVec.getLsbD (n + i)
  rw [UInt32.toBitVec_shiftRight]
  show (x.toUInt32.toBitVec >>> (((nI n).toUInt32 &&& Int32.toUInt32 31).toBitVec % 32).toNat).getLsbD i = _
  rw [s_u n hn, BitVec.getLsbD_ushiftRight]
theorem b_1023 (i : Nat) : bt 1023 i = decide (i < 10) := by
  rcases Nat.lt_or_ge i 32 with h | h
  · exact (by decide +kernel : ∀ i, i < 32 → bt 1023 i = decide (i < 10)) i h
  · rw [b_big h, decide_eq_false (by omega)]
theorem b_not (x : Int32) {i : Nat} (hi : i < 32) : bt (x ^^^ (-1)) i = !bt x i := by rw [b_xor, b_m1 i hi, Bool.xor_true]
theorem b_lt {x : Int32} {i : Nat} (h : bt x i = true) : i < 32 := by
  rcases Nat.lt_or_ge i 32 with h1 | h1
  · exact h1
  · rw [b_big h1] at h; exact absurd h (by decide)
/-- the bits of 'a without b' -/
theorem b_diff (x y : Int32) (i : Nat) : bt (x &&& (y ^^^ (-1))) i = (bt x i && !bt y i) := by
  rcases Nat.lt_or_ge i 32 with h | h
  · rw [b_and, b_not y h]
  · rw [b_big h, b_big h, Bool.false_and]
theorem b_ne0 {x : Int32} : x ≠ 0 ↔ ∃ i, bt x i = true := by
  constructor
  · intro h
    apply Classical.byContradiction
    intro hn
    apply h
    apply b_ext
    intro i _
    rw [b_0]
    cases hb : bt x i with
    | false => rfl
    | true => exact absurd ⟨i, hb⟩ hn
  · rintro ⟨i, hi⟩ rfl
    rw [b_0] at hi
    exact absurd hi (by decide)
theorem b_eq0 {x : Int32} : x = 0 ↔ ∀ i, bt x i = false := by
  constructor
  · rintro rfl i; exact b_0 i
  · intro h; apply b_ext; intro i _; rw [h i, b_0]
/-- the other literal of the same variable -/
def cn (i : Nat) : Nat := if i < 10 then i + 10 else i - 10
theorem cn_lt {i : Nat} (h : i < 20) : cn i < 20 := by unfold cn; split <;> omega
theorem cn_cn {i : Nat} (h : i < 20) : cn (cn i) = i := by unfold cn; split <;> split <;> omega
theorem cn_ne {i : Nat} (h : i < 20) : cn i ≠ i := by unfold cn; split <;> omega
theorem cn_var {i : Nat} (h : i < 20) : cn i % 10 = i % 10 := by unfold cn; split <;> omega
theorem cn_inj {i j : Nat} (hi : i < 20) (hj : j < 20) (h : cn i = cn j) : i = j := by rw [← cn_cn hi, ← cn_cn hj, h]
theorem cn_same {i j : Nat} (hi : i < 20) (hj : j < 20) (h : i % 10 = j % 10) : i = j ∨ i = cn j := by unfold cn; split <;> omega
/-- Literals.opposite -/
def cc_neg (x : Int32) : Int32 := ((x &&& 1023) <<< ((10 : Int32) &&& 31)) ||| ((x.toUInt32 >>> ((10 : Int32).toUInt32 &&& Int32.toUInt32 31)).toInt32 &&& 1023)
theorem b_neg (x : Int32) (i : Nat) : bt (cc_neg x) i = (decide (i < 20) && bt x (cn i)) := by
  rcases Nat.lt_or_ge i 32 with h | h
  · unfold cc_neg
    have h1 : bt ((x &&& 1023) <<< ((10 : Int32) &&& 31)) i = (decide (10 ≤ i) && bt (x &&& 1023) (i - 10)) := b_shl 10 (by omega) _ h
    have h2 : bt ((x.toUInt32 >>> ((10 : Int32).toUInt32 &&& Int32.toUInt32 31)).toInt32) i = bt x (10 + i) := b_ushr 10 (by omega) x i
    rw [b_or, h1, b_and, b_and, h2, b_1023, b_1023]
    rcases Nat.lt_or_ge i 10 with h3 | h3
    · rw [show cn i = 10 + i from by unfold cn; rw [if_pos h3]; omega]
      rw [decide_eq_false (show ¬ 10 ≤ i by omega), decide_eq_true (show i < 20 by omega), decide_eq_true h3]
      simp
    · rw [show cn i = i - 10 from by unfold cn; rw [if_neg (by omega)]]
      rw [decide_eq_true h3, decide_eq_false (show ¬ i < 10 by omega)]
      rcases Nat.lt_or_ge i 20 with h4 | h4
      · rw [decide_eq_true h4, decide_eq_true (show i - 10 < 10 by omega)]; simp
      · rw [decide_eq_false (show ¬ i < 20 by omega), decide_eq_false (show ¬ i - 10 < 10 by omega)]; simp
  · rw [b_big h, decide_eq_false (by omega), Bool.false_and]
theorem b_negI {x : Int32} {i : Nat} : bt (cc_neg x) i = true ↔ i < 20 ∧ bt x (cn i) = true := by
  rw [b_neg, Bool.and_eq_true, decide_eq_true_eq]
/-- one literal alone -/
def sb (l : Nat) : Int32 := nI (2 ^ l)
theorem b_sb {l : Nat} (hl : l < 31) (i : Nat) : bt (sb l) i = decide (i = l) := by
  show (BitVec.ofNat 32 (2 ^ l)).getLsbD i = _
  rw [BitVec.getLsbD_ofNat, Nat.testBit_two_pow]
  rcases Nat.lt_or_ge i 32 with h | h
  · rw [decide_eq_true h, Bool.true_and]
    by_cases he : l = i
    · rw [decide_eq_true he, decide_eq_true he.symm]
    · rw [decide_eq_false he, decide_eq_false (fun h2 => he h2.symm)]
  · rw [decide_eq_false (by omega), Bool.false_and, decide_eq_false (by omega)]
theorem sb_of {x : Int32} {l : Nat} (hl : l < 31) (h : ∀ i, bt x i = true ↔ i = l) : x = sb l := by
  apply b_ext
  intro i _
  rw [b_sb hl]
  by_cases he : i = l
  · rw [decide_eq_true he]; exact (h i).2 he
  · rw [decide_eq_false he]
    cases hb : bt x i with
    | false => rfl
    | true => exact absurd ((h i).1 hb) he
theorem sb_inj {a b : Nat} (ha : a < 31) (hb : b < 31) (h : sb a = sb b) : a = b := by
  have h1 : bt (sb a) a = true := by rw [b_sb ha]; exact decide_eq_true rfl
  rw [h, b_sb hb] at h1
  exact of_decide_eq_true h1
theorem neg_sb {l : Nat} (hl : l < 20) : cc_neg (sb l) = sb (cn l) := by
  apply sb_of (by have := cn_lt hl; omega)
  intro i
  rw [b_negI, b_sb (by omega), decide_eq_true_eq]
  constructor
  · rintro ⟨h1, h2⟩; rw [← h2, cn_cn h1]
  · rintro rfl; exact ⟨cn_lt hl, cn_cn hl⟩
theorem p2_of : ∀ n : Nat, 0 < n → n &&& (n - 1) = 0 → ∃ k, n = 2 ^ k := by
  intro n
  induction n using Nat.strongRecOn with
  | ind n ih =>
    intro h0 h
    have h2 : (n &&& (n - 1)) >>> 1 = 0 := by rw [h]; rfl
    rw [Nat.shiftRight_and_distrib, Nat.shiftRight_eq_div_pow, Nat.shiftRight_eq_div_pow, Nat.pow_one] at h2
    rcases Nat.mod_two_eq_zero_or_one n with he | ho
    · have h3 : (n - 1) / 2 = n / 2 - 1 := by omega
      rw [h3] at h2
      obtain ⟨k, hk⟩ := ih (n / 2) (by omega) (by omega) h2
      exact ⟨k + 1, by rw [Nat.pow_succ]; omega⟩
    · have h3 : (n - 1) / 2 = n / 2 := by omega
      rw [h3, Nat.and_self] at h2
      exact ⟨0, by omega⟩
/-- Literals.isSingle -/
def cc_single (x : Int32) : Prop := x ≠ 0 ∧ x &&& (x - 1) = 0
theorem single_of {x : Int32} (h : cc_single x) : ∃ l, l < 32 ∧ ∀ i, bt x i = true ↔ i = l := by
  obtain ⟨h0, h1⟩ := h
  have e0 : 0 < x.toBitVec.toNat := by
    apply Nat.pos_of_ne_zero
    intro hz
    apply h0
    apply Int32.toBitVec_inj.mp
    apply BitVec.eq_of_toNat_eq
    rw [hz]; rfl
  have e1 : x.toBitVec &&& (x.toBitVec - 1#32) = 0#32 := by
    have h2 := congrArg Int32.toBitVec h1
    rw [Int32.toBitVec_and, Int32.toBitVec_sub] at h2
    exact h2
  have e2 : (x.toBitVec - 1#32).toNat = x.toBitVec.toNat - 1 := by
    have := x.toBitVec.isLt
    rw [BitVec.toNat_sub]
    show (2 ^ 32 - 1 + x.toBitVec.toNat) % 2 ^ 32 = _
    omega
  have e3 : x.toBitVec.toNat &&& (x.toBitVec.toNat - 1) = 0 := by
    have h2 := congrArg BitVec.toNat e1
    rw [BitVec.toNat_and, e2] at h2
    exact h2
  obtain ⟨k, hk⟩ := p2_of _ e0 e3
  have hb : ∀ i, bt x i = decide (k = i) := by
    intro i
    show x.toBitVec.getLsbD i = _
    rw [← BitVec.testBit_toNat, hk, Nat.testBit_two_pow]
  have hk32 : k < 32 := b_lt (x := x) (by rw [hb k]; exact decide_eq_true rfl)
  refine ⟨k, hk32, fun i => ?_⟩
  rw [hb i, decide_eq_true_eq]
  exact eq_comm
theorem single_sb {l : Nat} (hl : l < 31) : cc_single (sb l) :=
  (by decide +kernel : ∀ l, l < 31 → sb l ≠ 0 ∧ sb l &&& (sb l - 1) = 0) l hl
theorem single_iff {x : Int32} {l : Nat} (hl : l < 31) (h : ∀ i, bt x i = true ↔ i = l) : cc_single x := by
  rw [sb_of hl h]; exact single_sb hl
/-- the lowest bit -/
theorem low_bit {x : Int32} (hs : ∀ i, bt x i = true → i < 10) (h0 : x ≠ 0) : ∃ l, l < 10 ∧ x &&& (-x) = sb l ∧ bt x l = true ∧ ∀ j, j < l → bt x j = false := by
  have h1 : x.toBitVec.toNat < 2 ^ 10 := by
    apply Nat.lt_pow_two_of_testBit
    intro i hi
    rw [BitVec.testBit_toNat]
    cases hb : x.toBitVec.getLsbD i with
    | false => rfl
    | true => exact absurd (hs i hb) (by omega)
  have h2 : x = nI x.toBitVec.toNat := by
    apply Int32.toBitVec_inj.mp
    apply BitVec.eq_of_toNat_eq
    rw [pk_tn (by omega)]
  generalize x.toBitVec.toNat = k at h1 h2
  subst h2
  have h3 : ∀ k, k < 1024 → nI k ≠ 0 → ∃ l, l < 10 ∧ nI k &&& (-(nI k)) = sb l ∧ bt (nI k) l = true ∧ ∀ j, j < l → bt (nI k) j = false := by decide +kernel
  exact h3 k h1 h0
end
section
/-! Part 21: the class's methods as plain functions. A docket: clauses, linksFrom, linksTo, links, size, linked, openFrom. A search: trail, reasons, length, held -/
abbrev DS : Type := (Nat → Int32) × (Nat → Int32) × (Nat → Int32) × (Nat → Int32) × Nat × Nat × Nat
abbrev SS : Type := (Nat → Int32) × (Nat → Int32) × Nat × Int32
abbrev dC (d : DS) : Nat → Int32 := d.1
abbrev dF (d : DS) : Nat → Int32 := d.2.1
abbrev dT (d : DS) : Nat → Int32 := d.2.2.1
abbrev dK (d : DS) : Nat → Int32 := d.2.2.2.1
abbrev dz (d : DS) : Nat := d.2.2.2.2.1
abbrev dl (d : DS) : Nat := d.2.2.2.2.2.1
abbrev dO (d : DS) : Nat := d.2.2.2.2.2.2
abbrev sT (s : SS) : Nat → Int32 := s.1
abbrev sR (s : SS) : Nat → Int32 := s.2.1
abbrev sn (s : SS) : Nat := s.2.2.1
abbrev sh (s : SS) : Int32 := s.2.2.2
def dk_cl (d : DS) (i : Int32) : Int32 := if 0 ≤ i ∧ i < nI (dz d) then dC d i.toNatClampNeg else 0
def dk_from (d : DS) (i : Int32) : Int32 := if 0 ≤ i ∧ i < nI (dz d) then dF d i.toNatClampNeg else -1
def dk_to (d : DS) (i : Int32) : Int32 := if 0 ≤ i ∧ i < nI (dz d) then dT d i.toNatClampNeg else -1
def dk_linkAt (d : DS) (i : Int32) : Int32 := if 0 ≤ i ∧ i < nI (dl d) then dK d i.toNatClampNeg else -1
def dk_link (d : DS) (c : Int32) : DS := if dl d < 3060 then (dC d, dF d, dT d, upd (dK d) (dl d) c, dz d, dl d + 1, dO d) else d
def dk_append (d : DS) (c f t : Int32) : DS := if dz d < 1575 then (upd (dC d) (dz d) c, upd (dF d) (dz d) f, upd (dT d) (dz d) t, dK d, dz d + 1, dl d, dO d) else d
def dk_give (d : DS) (c : Int32) : DS := dk_append d c (-1) (-1)
def dk_derive (d : DS) (c : Int32) : DS :=
  let e := dk_append d c (nI (dO d)) (nI (dl d))
  (dC e, dF e, dT e, dK e, dz e, dl e, dl e)
def dk_keep (d : DS) (g : Nat) : DS := (dC d, dF d, dT d, dK d, if dz d ≤ g then dz d else g, 0, 0)
def sr_hold (s : SS) (x r : Int32) : SS := if sn s < 10 then (upd (sT s) (sn s) x, upd (sR s) (sn s) r, sn s + 1, sh s ||| x) else s
/-- what is open of a clause -/
def cc_open (c h : Int32) : Int32 := c &&& (cc_neg h ^^^ (-1))
def cc_singleB (x : Int32) : Bool := decide (x ≠ 0) && decide (x &&& (x - 1) = 0)
/-- k clauses from i on -/
def sr_sweep (C : Nat → Int32) : Nat → Nat → SS → Int32 × SS
  | 0, _, s => (-1, s)
  | k + 1, i, s =>
    if C i &&& sh s = 0 then
      if cc_open (C i) (sh s) = 0 then (nI i, s)
      else if cc_singleB (cc_open (C i) (sh s)) = true then sr_sweep C k (i + 1) (sr_hold s (cc_open (C i) (sh s)) (nI i))
      else sr_sweep C k (i + 1) s
    else sr_sweep C k (i + 1) s
/-- r rounds at most -/
def sr_prop (C : Nat → Int32) (z : Nat) : Nat → SS → Int32 × SS
  | 0, s => (-1, s)
  | r + 1, s =>
    if (sr_sweep C z 0 s).1 ≠ -1 then sr_sweep C z 0 s
    else if sn s < sn (sr_sweep C z 0 s).2 then sr_prop C z r (sr_sweep C z 0 s).2
    else sr_sweep C z 0 s
/-- Literals.positivesUpTo -/
def cc_pos (n : Nat) : Int32 := ((1 : Int32) <<< (nI n &&& 31)) - 1
def cc_free (n : Nat) (h : Int32) : Int32 := cc_pos n &&& ((h ||| cc_neg h) ^^^ (-1))
def sr_decide (n : Nat) (s : SS) : SS := sr_hold s (cc_neg (cc_free n (sh s) &&& (-(cc_free n (sh s))))) (-1)
/-- the place of the latest decision, and one more; 0: none -/
def sr_ld (R : Nat → Int32) : Nat → Nat
  | 0 => 0
  | k + 1 => if R k = -1 then k + 1 else sr_ld R k
/-- the trail's literals from a on, k of them, joined to x -/
def sr_or (T : Nat → Int32) : Nat → Nat → Int32 → Int32
  | 0, _, x => x
  | k + 1, a, x => sr_or T k (a + 1) (x ||| T a)
/-- the resolutions, from place k - 1 down to ld -/
def sr_res (T R : Nat → Int32) (ld : Nat) (la : Int32) : Nat → Int32 → DS → Int32 × DS
  | 0, x, d => (x, d)
  | k + 1, x, d =>
    if k < ld then (x, d)
    else if ld ≠ 0 ∧ cc_singleB (x &&& la) = true then (x, d)
    else if x &&& cc_neg (T k) = 0 then sr_res T R ld la k x d
    else sr_res T R ld la k ((x &&& (cc_neg (T k) ^^^ (-1))) ||| (dk_cl d (R k) &&& (T k ^^^ (-1)))) (dk_link d (R k))
def sr_jump (T R : Nat → Int32) (x : Int32) : Nat → Nat → Nat
  | 0, t => t
  | k + 1, t => if x &&& cc_neg (T k) = 0 then (if R k = -1 then sr_jump T R x k k else sr_jump T R x k t) else t
/-- what is held, without the places from t to k - 1 -/
def sr_cutH (T : Nat → Int32) (t : Nat) : Nat → Int32 → Int32
  | 0, h => h
  | k + 1, h => if k < t then h else sr_cutH T t k (h &&& (T k ^^^ (-1)))
def sr_cut (s : SS) (t : Nat) : SS := (sT s, sR s, if sn s ≤ t then sn s else t, sr_cutH (sT s) t (sn s) (sh s))
/-- the latest literals' opposites -/
def sr_late (s : SS) : Int32 := cc_neg (sr_or (sT s) (sn s - (sr_ld (sR s) (sn s) - 1)) (sr_ld (sR s) (sn s) - 1) 0)
def sr_learn1 (d : DS) (s : SS) (b : Int32) : Int32 × DS := sr_res (sT s) (sR s) (sr_ld (sR s) (sn s)) (sr_late s) (sn s) (dk_cl d b) (dk_link d b)
def sr_learn (d : DS) (s : SS) (b : Int32) : Int32 × DS × SS :=
  ((sr_learn1 d s b).1, dk_derive (sr_learn1 d s b).2 (sr_learn1 d s b).1, sr_cut s (sr_jump (sT s) (sR s) (sr_learn1 d s b).1 (sr_ld (sR s) (sn s) - 1) (sr_ld (sR s) (sn s) - 1)))
def sr_find (n : Nat) : Nat → DS → SS → Bool × DS × SS
  | 0, d, s => (false, d, s)
  | f + 1, d, s =>
    if (sr_prop (dC d) (dz d) 11 s).1 = -1 then
      if n ≤ sn (sr_prop (dC d) (dz d) 11 s).2 then (true, d, (sr_prop (dC d) (dz d) 11 s).2)
      else sr_find n f d (sr_decide n (sr_prop (dC d) (dz d) 11 s).2)
    else if (sr_learn d (sr_prop (dC d) (dz d) 11 s).2 (sr_prop (dC d) (dz d) 11 s).1).1 = 0 then
      (false, (sr_learn d (sr_prop (dC d) (dz d) 11 s).2 (sr_prop (dC d) (dz d) 11 s).1).2.1, (sr_learn d (sr_prop (dC d) (dz d) 11 s).2 (sr_prop (dC d) (dz d) 11 s).1).2.2)
    else sr_find n f (sr_learn d (sr_prop (dC d) (dz d) 11 s).2 (sr_prop (dC d) (dz d) 11 s).1).2.1 (sr_learn d (sr_prop (dC d) (dz d) 11 s).2 (sr_prop (dC d) (dz d) 11 s).1).2.2
end
section
/-! Part 22: assignments, places, numbers -/
theorem php : ∀ (n len : Nat) (f : Nat → Nat), (∀ k, k < len → f k < n) → (∀ j k, j < len → k < len → f j = f k → j = k) → len ≤ n ∧ (len = n → ∀ v, v < n → ∃ k, k < len ∧ f k = v) := by
  intro n
  induction n with
  | zero =>
    intro len f h _
    have h9 : len = 0 := by
      rcases Nat.eq_zero_or_pos len with h0 | h0
      · exact h0
      · exact absurd (h 0 h0) (by omega)
    exact ⟨by omega, fun _ v hv => absurd hv (by omega)⟩
  | succ n ih =>
    intro len f h hi
    by_cases hx : ∃ k, k < len ∧ f k = n
    · obtain ⟨k0, hk0, e0⟩ := hx
      have hg : ∀ k, k < len - 1 → (fun k => if k < k0 then f k else f (k + 1)) k < n := by
        intro k hk
        show (if k < k0 then f k else f (k + 1)) < n
        split
        · have h1 := h k (by omega)
          have h2 : f k ≠ n := fun e => by
            have := hi k k0 (by omega) hk0 (by rw [e, e0])
            omega
          omega
        · have h1 := h (k + 1) (by omega)
          have h2 : f (k + 1) ≠ n := fun e => by
            have := hi (k + 1) k0 (by omega) hk0 (by rw [e, e0])
            omega
          omega
      have hgi : ∀ j k, j < len - 1 → k < len - 1 → (fun k => if k < k0 then f k else f (k + 1)) j = (fun k => if k < k0 then f k else f (k + 1)) k → j = k := by
        intro j k hj hk he
        have he : (if j < k0 then f j else f (j + 1)) = (if k < k0 then f k else f (k + 1)) := he
        split at he <;> split at he
        · exact hi _ _ (by omega) (by omega) he
        · have := hi _ _ (by omega) (by omega) he
          omega
        · have := hi _ _ (by omega) (by omega) he
          omega
        · have := hi _ _ (by omega) (by omega) he
          omega
      obtain ⟨h1, h2⟩ := ih (len - 1) _ hg hgi
      refine ⟨by omega, fun e v hv => ?_⟩
      rcases Nat.lt_or_ge v n with hv2 | hv2
      · obtain ⟨k, hk, ek⟩ := h2 (by omega) v hv2
        have ek : (if k < k0 then f k else f (k + 1)) = v := ek
        split at ek
        · exact ⟨k, by omega, ek⟩
        · exact ⟨k + 1, by omega, ek⟩
      · exact ⟨k0, hk0, by omega⟩
    · have h1 : ∀ k, k < len → f k < n := fun k hk => by
        have := h k hk
        have h2 : f k ≠ n := fun e => hx ⟨k, hk, e⟩
        omega
      obtain ⟨h2, _⟩ := ih len f h1 hi
      exact ⟨by omega, fun e => absurd h2 (by omega)⟩
theorem nI_nm1 {r : Nat} (h : r < 2 ^ 31) : nI r ≠ -1 := fun e => by
  have h1 := congrArg Int32.toInt e
  rw [nI_toInt h, show (-1 : Int32).toInt = -1 from by decide +kernel] at h1
  omega
/-- a literal under an assignment -/
def mv (M : Nat → Bool) (i : Nat) : Bool := if i < 10 then M i else !M (i - 10)
theorem mv_cn {M : Nat → Bool} {i : Nat} (h : i < 20) : mv M (cn i) = !mv M i := by
  unfold mv cn
  by_cases h1 : i < 10
  · rw [if_pos h1, if_pos h1, if_neg (by omega)]
    rw [show i + 10 - 10 = i from by omega]
  · rw [if_neg h1, if_neg h1, if_pos (by omega), Bool.not_not]
def sat (M : Nat → Bool) (c : Int32) : Prop := ∃ i, i < 20 ∧ bt c i = true ∧ mv M i = true
theorem sat_0 {M : Nat → Bool} : ¬ sat M 0 := by
  rintro ⟨i, _, h, _⟩
  rw [b_0] at h
  exact absurd h (by decide)
/-- a step of resolution -/
def rs_step (x c : Int32) (a : Nat) : Int32 := (x &&& (sb (cn a) ^^^ (-1))) ||| (c &&& (sb a ^^^ (-1)))
theorem b_step (x c : Int32) {a : Nat} (ha : a < 20) (i : Nat) : bt (rs_step x c a) i = true ↔ (bt x i = true ∧ i ≠ cn a) ∨ (bt c i = true ∧ i ≠ a) := by
  have h1 := cn_lt ha
  unfold rs_step
  rw [b_or, b_diff, b_diff, b_sb (by omega), b_sb (by omega)]
  simp
theorem sat_step {M : Nat → Bool} {x c : Int32} {a : Nat} (ha : a < 20) (h1 : sat M x) (h2 : sat M c) : sat M (rs_step x c a) := by
  obtain ⟨i, hi, bi, mi⟩ := h1
  by_cases he : i = cn a
  · obtain ⟨j, hj, bj, mj⟩ := h2
    refine ⟨j, hj, (b_step x c ha j).2 (Or.inr ⟨bj, ?_⟩), mj⟩
    rintro rfl
    rw [he, mv_cn ha, mj] at mi
    exact absurd mi (by decide)
  · exact ⟨i, hi, (b_step x c ha i).2 (Or.inl ⟨bi, he⟩), mi⟩
/-- the trail's number -/
def numT (R : Nat → Int32) : Nat → Nat
  | 0 => 0
  | k + 1 => numT R k + if R k = -1 then 0 else 2 ^ (9 - k)
theorem p10 {k : Nat} (h : k ≤ 9) : 2 ^ (10 - k) = 2 * 2 ^ (9 - k) := by
  rw [show 10 - k = (9 - k) + 1 from by omega, Nat.pow_succ]
  omega
theorem numT_le (R : Nat → Int32) : ∀ k, k ≤ 10 → numT R k + 2 ^ (10 - k) ≤ 1024 := by
  intro k
  induction k with
  | zero => intro _; show 0 + 2 ^ 10 ≤ 1024; decide
  | succ k ih =>
    intro h
    have h1 := ih (by omega)
    rw [p10 (show k ≤ 9 by omega)] at h1
    rw [show 10 - (k + 1) = 9 - k from by omega]
    show numT R k + (if R k = -1 then 0 else 2 ^ (9 - k)) + 2 ^ (9 - k) ≤ 1024
    split <;> omega
theorem numT_congr {R R' : Nat → Int32} : ∀ k, (∀ j, j < k → R j = R' j) → numT R k = numT R' k := by
  intro k
  induction k with
  | zero => intro _; rfl
  | succ k ih =>
    intro h
    show numT R k + (if R k = -1 then 0 else 2 ^ (9 - k)) = numT R' k + (if R' k = -1 then 0 else 2 ^ (9 - k))
    rw [ih (fun j hj => h j (by omega)), h k (by omega)]
theorem numT_mono (R : Nat → Int32) {a : Nat} : ∀ b, a ≤ b → numT R a ≤ numT R b := by
  intro b
  induction b with
  | zero => intro h; rw [show a = 0 from by omega]; exact Nat.le_refl _
  | succ b ih =>
    intro h
    rcases Nat.lt_or_ge b a with h1 | h1
    · rw [show a = b + 1 from by omega]; exact Nat.le_refl _
    · exact Nat.le_trans (ih h1) (Nat.le_add_right _ _)
theorem numT_dvd (R : Nat → Int32) : ∀ k, k ≤ 10 → ∃ A, A < 2 ^ k ∧ numT R k = A * 2 ^ (10 - k) := by
  intro k
  induction k with
  | zero => intro _; exact ⟨0, by decide, by show 0 = 0 * _; omega⟩
  | succ k ih =>
    intro h
    obtain ⟨A, hA, e⟩ := ih (by omega)
    rw [p10 (show k ≤ 9 by omega)] at e
    rw [show 10 - (k + 1) = 9 - k from by omega]
    have h2 : A * (2 * 2 ^ (9 - k)) = (2 * A) * 2 ^ (9 - k) := by rw [← Nat.mul_assoc, Nat.mul_comm A 2]
    rw [Nat.pow_succ]
    by_cases hR : R k = -1
    · refine ⟨2 * A, by omega, ?_⟩
      show numT R k + (if R k = -1 then 0 else 2 ^ (9 - k)) = _
      rw [if_pos hR, e, h2]; rfl
    · refine ⟨2 * A + 1, by omega, ?_⟩
      show numT R k + (if R k = -1 then 0 else 2 ^ (9 - k)) = _
      rw [if_neg hR, e, h2, Nat.add_mul, Nat.one_mul]
theorem numT_run (R : Nat → Int32) (a : Nat) : ∀ b, a ≤ b → b ≤ 10 → (∀ k, a ≤ k → k < b → R k ≠ -1) → numT R b + 2 ^ (10 - b) = numT R a + 2 ^ (10 - a) := by
  intro b
  induction b with
  | zero => intro h _ _; rw [show a = 0 from by omega]
  | succ b ih =>
    intro h hb hR
    rcases Nat.lt_or_ge b a with h1 | h1
    · rw [show a = b + 1 from by omega]
    · have h2 := ih h1 (by omega) (fun k hk hk2 => hR k hk (by omega))
      rw [p10 (show b ≤ 9 by omega)] at h2
      rw [show 10 - (b + 1) = 9 - b from by omega]
      show numT R b + (if R b = -1 then 0 else 2 ^ (9 - b)) + 2 ^ (9 - b) = _
      rw [if_neg (hR b h1 (by omega))]
      omega
def lr1 : Nat → Nat → Nat
  | 0, _ => 0
  | f + 1, x => if x % 2 = 1 then 1 + lr1 f (x / 2) else 0
def lr0 : Nat → Nat → Nat
  | 0, _ => 0
  | f + 1, x => if x % 2 = 1 then lr1 11 x else lr0 f (x / 2)
/-- what a question's conflicts may link, up to a number -/
def pS : Nat → Nat
  | 0 => 0
  | x + 1 => pS x + (1 + lr0 11 x)
theorem pS_mono {a : Nat} : ∀ b, a ≤ b → pS a ≤ pS b := by
  intro b
  induction b with
  | zero => intro h; rw [show a = 0 from by omega]; exact Nat.le_refl _
  | succ b ih =>
    intro h
    rcases Nat.lt_or_ge b a with h1 | h1
    · rw [show a = b + 1 from by omega]; exact Nat.le_refl _
    · exact Nat.le_trans (ih h1) (Nat.le_add_right _ _)
set_option maxRecDepth 100000 in
theorem pS_end : pS 1024 ≤ 3060 := by decide +kernel
set_option maxRecDepth 100000 in
theorem lr_fin : ∀ ld, ld < 11 → ∀ len, len < 11 → ld ≤ len → ∀ A, A < 2 ^ (ld - 1) → len - ld ≤ lr0 11 (A * 2 ^ (11 - ld) + 2 ^ (10 - ld) - 2 ^ (10 - len)) := by decide +kernel
theorem lr_run (R : Nat → Int32) {ld len : Nat} (h1 : ld ≤ len) (h2 : len ≤ 10) (hd : ld ≠ 0 → R (ld - 1) = -1) (hR : ∀ k, ld ≤ k → k < len → R k ≠ -1) : len - ld ≤ lr0 11 (numT R len) := by
  have e1 := numT_run R ld len h1 h2 hR
  have e2 : ∃ A, A < 2 ^ (ld - 1) ∧ numT R ld = A * 2 ^ (11 - ld) := by
    rcases Nat.eq_zero_or_pos ld with h0 | h0
    · subst h0
      exact ⟨0, by decide, by show 0 = 0 * _; omega⟩
    · obtain ⟨A, hA, e⟩ := numT_dvd R (ld - 1) (by omega)
      refine ⟨A, hA, ?_⟩
      have h3 : numT R ld = numT R (ld - 1) + (if R (ld - 1) = -1 then 0 else 2 ^ (9 - (ld - 1))) := by
        obtain ⟨k, rfl⟩ : ∃ k, ld = k + 1 := ⟨ld - 1, by omega⟩
        rfl
      rw [h3, if_pos (hd (by omega)), e, show 10 - (ld - 1) = 11 - ld from by omega]
      rfl
  obtain ⟨A, hA, e⟩ := e2
  have h3 := lr_fin ld (by omega) len (by omega) h1 A hA
  rw [show numT R len = A * 2 ^ (11 - ld) + 2 ^ (10 - ld) - 2 ^ (10 - len) from by omega]
  exact h3
end
section
/-! Part 23: the trail, and what a sweep keeps. t k: the literal at place k -/
def tu (t : Nat → Nat) (k l : Nat) : Nat → Nat := fun j => if j = k then l else t j
theorem tu_s {t : Nat → Nat} {k l : Nat} : tu t k l k = l := if_pos rfl
theorem tu_n {t : Nat → Nat} {k l j : Nat} (h : j ≠ k) : tu t k l j = t j := if_neg h
def TR (n : Nat) (C : Nat → Int32) (z : Nat) (T R : Nat → Int32) (len : Nat) (h : Int32) (t : Nat → Nat) : Prop :=
  (∀ k, k < len → t k < 20 ∧ t k % 10 < n ∧ T k = sb (t k)) ∧
  (∀ j k, j < len → k < len → t j % 10 = t k % 10 → j = k) ∧
  (∀ i, bt h i = true ↔ ∃ k, k < len ∧ t k = i) ∧
  (∀ k, k < len → R k = -1 → 10 ≤ t k ∧ ∀ v, v < t k - 10 → ∃ j, j < k ∧ t j % 10 = v) ∧
  (∀ k, k < len → R k ≠ -1 → ∃ r, R k = nI r ∧ r < z ∧ bt (C r) (t k) = true ∧ ∀ i, bt (C r) i = true → i ≠ t k → ∃ j, j < k ∧ t j = cn i)
/-- every literal of clause i is denied before place k -/
def BRK (C : Nat → Int32) (t : Nat → Nat) (k i : Nat) : Prop := ∀ l, bt (C i) l = true → ∃ j, j < k ∧ t j = cn l
/-- ahead of a decision nothing was broken -/
def NBR (C : Nat → Int32) (z : Nat) (R : Nat → Int32) (len : Nat) (t : Nat → Nat) : Prop := ∀ k, k < len → R k = -1 → ∀ i, i < z → ¬ BRK C t k i
def CLS (n : Nat) (C : Nat → Int32) (z : Nat) : Prop := ∀ i, i < z → ∀ l, bt (C i) l = true → l < 20 ∧ l % 10 < n
def UNIT (C : Nat → Int32) (t : Nat → Nat) (k u : Nat) : Prop := ∃ l, l < 20 ∧ bt (C u) l = true ∧ (∀ j, j < k → t j % 10 ≠ l % 10) ∧ ∀ i, bt (C u) i = true → i ≠ l → ∃ j, j < k ∧ t j = cn i
def PND (C : Nat → Int32) (z i L : Nat) (R : Nat → Int32) (len : Nat) (t : Nat → Nat) : Prop :=
  L ≤ numT R len ∨ (len ≤ 9 ∧ L ≤ numT R len + 2 ^ (9 - len) ∧ (∀ j, j < z → ¬ BRK C t len j) ∧ ∃ u, i ≤ u ∧ u < z ∧ UNIT C t len u)
theorem TR_len {n : Nat} {C : Nat → Int32} {z : Nat} {T R : Nat → Int32} {len : Nat} {h : Int32} {t : Nat → Nat} (H : TR n C z T R len h t) : len ≤ n ∧ (len = n → ∀ v, v < n → ∃ k, k < len ∧ t k % 10 = v) :=
  php n len (fun k => t k % 10) (fun k hk => (H.1 k hk).2.1) (fun j k hj hk e => H.2.1 j k hj hk e)
/-- two places of one variable, one literal the other's opposite: never -/
theorem TR_opp {n : Nat} {C : Nat → Int32} {z : Nat} {T R : Nat → Int32} {len : Nat} {h : Int32} {t : Nat → Nat} (H : TR n C z T R len h t) {j k : Nat} (hj : j < len) (hk : k < len) (e : t j = cn (t k)) : False := by
  have h1 := (H.1 k hk).1
  have h2 := H.2.1 j k hj hk (by rw [e, cn_var h1])
  subst h2
  exact cn_ne h1 e.symm
theorem TR_hold {n : Nat} {C : Nat → Int32} {z : Nat} {T R : Nat → Int32} {len : Nat} {h : Int32} {t : Nat → Nat} (H : TR n C z T R len h t) {l : Nat} {r : Int32} (hl : l < 20) (hv : l % 10 < n) (hf : ∀ k, k < len → t k % 10 ≠ l % 10)
    (hr : (r = -1 ∧ 10 ≤ l ∧ ∀ v, v < l - 10 → ∃ j, j < len ∧ t j % 10 = v) ∨ (r ≠ -1 ∧ ∃ q, r = nI q ∧ q < z ∧ bt (C q) l = true ∧ ∀ i, bt (C q) i = true → i ≠ l → ∃ j, j < len ∧ t j = cn i)) :
    len < n ∧ TR n C z (upd T len (sb l)) (upd R len r) (len + 1) (h ||| sb l) (tu t len l) := by
  obtain ⟨H1, H2, H3, H4, H5⟩ := H
  have A1 : ∀ k, k < len + 1 → tu t len l k < 20 ∧ tu t len l k % 10 < n ∧ upd T len (sb l) k = sb (tu t len l k) := by
    intro k hk
    by_cases e : k = len
    · subst e; rw [tu_s, pk_us]; exact ⟨hl, hv, rfl⟩
    · rw [tu_n e, pk_un e]; exact H1 k (by omega)
  have A2 : ∀ j k, j < len + 1 → k < len + 1 → tu t len l j % 10 = tu t len l k % 10 → j = k := by
    intro j k hj hk e
    by_cases ej : j = len <;> by_cases ek : k = len
    · omega
    · subst ej; rw [tu_s, tu_n ek] at e; exact absurd e.symm (hf k (by omega))
    · subst ek; rw [tu_s, tu_n ej] at e; exact absurd e (hf j (by omega))
    · rw [tu_n ej, tu_n ek] at e; exact H2 j k (by omega) (by omega) e
  have hp := (php n (len + 1) (fun k => tu t len l k % 10) (fun k hk => (A1 k hk).2.1) (fun j k hj hk e => A2 j k hj hk e)).1
  refine ⟨by omega, A1, A2, ?_, ?_, ?_⟩
  · intro i
    rw [b_or, Bool.or_eq_true, H3 i, b_sb (by omega), decide_eq_true_eq]
    constructor
    · rintro (⟨k, hk, e⟩ | e)
      · exact ⟨k, by omega, by rw [tu_n (by omega)]; exact e⟩
      · exact ⟨len, by omega, by rw [tu_s]; exact e.symm⟩
    · rintro ⟨k, hk, e⟩
      by_cases ek : k = len
      · subst ek; rw [tu_s] at e; exact Or.inr e.symm
      · rw [tu_n ek] at e; exact Or.inl ⟨k, by omega, e⟩
  · intro k hk e
    by_cases ek : k = len
    · subst ek
      rw [pk_us] at e
      rw [tu_s]
      rcases hr with ⟨_, h1, h2⟩ | ⟨h1, _⟩
      · refine ⟨h1, fun v hv2 => ?_⟩
        obtain ⟨j, hj, ej⟩ := h2 v hv2
        exact ⟨j, hj, by rw [tu_n (by omega)]; exact ej⟩
      · exact absurd e h1
    · rw [pk_un ek] at e
      rw [tu_n ek]
      obtain ⟨h1, h2⟩ := H4 k (by omega) e
      refine ⟨h1, fun v hv2 => ?_⟩
      obtain ⟨j, hj, ej⟩ := h2 v hv2
      exact ⟨j, hj, by rw [tu_n (by omega)]; exact ej⟩
  · intro k hk e
    by_cases ek : k = len
    · subst ek
      rw [pk_us] at e ⊢
      rw [tu_s]
      rcases hr with ⟨h1, _⟩ | ⟨_, q, hq, hqz, hb, h2⟩
      · exact absurd h1 e
      · refine ⟨q, hq, hqz, hb, fun i hi hne => ?_⟩
        obtain ⟨j, hj, ej⟩ := h2 i hi hne
        exact ⟨j, hj, by rw [tu_n (by omega)]; exact ej⟩
    · rw [pk_un ek] at e ⊢
      rw [tu_n ek]
      obtain ⟨q, hq, hqz, hb, h2⟩ := H5 k (by omega) e
      refine ⟨q, hq, hqz, hb, fun i hi hne => ?_⟩
      obtain ⟨j, hj, ej⟩ := h2 i hi hne
      exact ⟨j, hj, by rw [tu_n (by omega)]; exact ej⟩
theorem b_open {c h : Int32} {l : Nat} : bt (cc_open c h) l = true ↔ bt c l = true ∧ ¬ (l < 20 ∧ bt h (cn l) = true) := by
  unfold cc_open
  rw [b_diff, Bool.and_eq_true, ← b_negI]
  simp
theorem b_and0 {c h : Int32} : c &&& h = 0 ↔ ∀ l, bt c l = true → bt h l = true → False := by
  rw [b_eq0]
  constructor
  · intro H l h1 h2
    have h3 := H l
    rw [b_and, h1, h2] at h3
    exact absurd h3 (by decide)
  · intro H l
    rw [b_and]
    cases h1 : bt c l with
    | false => rfl
    | true =>
      cases h2 : bt h l with
      | false => rfl
      | true => exact (H l h1 h2).elim
theorem singleB_iff {x : Int32} : cc_singleB x = true ↔ cc_single x := by
  unfold cc_singleB cc_single
  rw [Bool.and_eq_true, decide_eq_true_eq, decide_eq_true_eq]
theorem den_iff {n : Nat} {C : Nat → Int32} {z : Nat} {T R : Nat → Int32} {len : Nat} {h : Int32} {t : Nat → Nat} (H : TR n C z T R len h t) {l : Nat} (hl : l < 20) : (l < 20 ∧ bt h (cn l) = true) ↔ ∃ j, j < len ∧ t j = cn l := by
  rw [H.2.2.1 (cn l)]
  exact ⟨fun h => h.2, fun h => ⟨hl, h⟩⟩
theorem brk_of {n : Nat} {C : Nat → Int32} {z : Nat} {T R : Nat → Int32} {len : Nat} {h : Int32} {t : Nat → Nat} (H : TR n C z T R len h t) (hC : CLS n C z) {i : Nat} (hi : i < z) (h0 : cc_open (C i) h = 0) : BRK C t len i := by
  intro l hb
  rw [← den_iff H (hC i hi l hb).1]
  apply Classical.byContradiction
  intro hn
  have h1 : bt (cc_open (C i) h) l = true := b_open.2 ⟨hb, hn⟩
  rw [h0, b_0] at h1
  exact absurd h1 (by decide)
theorem nbrk_held {n : Nat} {C : Nat → Int32} {z : Nat} {T R : Nat → Int32} {len : Nat} {h : Int32} {t : Nat → Nat} (H : TR n C z T R len h t) {i : Nat} (h0 : C i &&& h ≠ 0) : ¬ BRK C t len i := by
  intro hB
  apply h0
  rw [b_and0]
  intro l h1 h2
  obtain ⟨k, hk, e⟩ := (H.2.2.1 l).1 h2
  obtain ⟨j, hj, ej⟩ := hB l h1
  rw [← e] at ej
  exact TR_opp H hj hk ej
theorem nbrk_open {n : Nat} {C : Nat → Int32} {z : Nat} {T R : Nat → Int32} {len : Nat} {h : Int32} {t : Nat → Nat} (H : TR n C z T R len h t) (hC : CLS n C z) {i : Nat} (hi : i < z) (h0 : cc_open (C i) h ≠ 0) : ¬ BRK C t len i := by
  intro hB
  apply h0
  rw [b_eq0]
  intro l
  cases hb : bt (cc_open (C i) h) l with
  | false => rfl
  | true =>
    obtain ⟨h1, h2⟩ := b_open.1 hb
    exact absurd ((den_iff H (hC i hi l h1).1).2 (hB l h1)) h2
theorem unit_of {n : Nat} {C : Nat → Int32} {z : Nat} {T R : Nat → Int32} {len : Nat} {h : Int32} {t : Nat → Nat} (H : TR n C z T R len h t) (hC : CLS n C z) {i : Nat} (hi : i < z) (h0 : C i &&& h = 0) (hs : cc_single (cc_open (C i) h)) :
    ∃ l, l < 20 ∧ l % 10 < n ∧ cc_open (C i) h = sb l ∧ bt (C i) l = true ∧ (∀ k, k < len → t k % 10 ≠ l % 10) ∧ ∀ q, bt (C i) q = true → q ≠ l → ∃ j, j < len ∧ t j = cn q := by
  obtain ⟨l, _, hl⟩ := single_of hs
  obtain ⟨h1, h2⟩ := b_open.1 ((hl l).2 rfl)
  obtain ⟨h3, h4⟩ := hC i hi l h1
  refine ⟨l, h3, h4, sb_of (by omega) hl, h1, ?_, ?_⟩
  · intro k hk e
    have h5 := (H.1 k hk).1
    rcases cn_same h5 h3 e with h6 | h6
    · exact b_and0.1 h0 l h1 ((H.2.2.1 l).2 ⟨k, hk, h6⟩)
    · exact h2 ((den_iff H h3).2 ⟨k, hk, h6⟩)
  · intro q hq hne
    rw [← den_iff H (hC i hi q hq).1]
    apply Classical.byContradiction
    intro hn
    exact hne ((hl q).1 (b_open.2 ⟨hq, hn⟩))
theorem open_unit {n : Nat} {C : Nat → Int32} {z : Nat} {T R : Nat → Int32} {len : Nat} {h : Int32} {t : Nat → Nat} (H : TR n C z T R len h t) (hC : CLS n C z) {u : Nat} (hu : u < z) (hU : UNIT C t len u) : C u &&& h = 0 ∧ cc_open (C u) h ≠ 0 ∧ cc_single (cc_open (C u) h) := by
  obtain ⟨l, hl, hb, hf, ho⟩ := hU
  have e : cc_open (C u) h = sb l := by
    apply sb_of (by omega)
    intro i
    rw [b_open]
    constructor
    · rintro ⟨h1, h2⟩
      apply Classical.byContradiction
      intro hne
      exact h2 ((den_iff H (hC u hu i h1).1).2 (ho i h1 hne))
    · rintro rfl
      refine ⟨hb, fun h2 => ?_⟩
      obtain ⟨j, hj, ej⟩ := (den_iff H hl).1 h2
      exact hf j hj (by rw [ej, cn_var hl])
  refine ⟨?_, ?_, ?_⟩
  · rw [b_and0]
    intro i h1 h2
    obtain ⟨k, hk, ek⟩ := (H.2.2.1 i).1 h2
    by_cases hne : i = l
    · exact hf k hk (by rw [ek, hne])
    · obtain ⟨j, hj, ej⟩ := ho i h1 hne
      rw [← ek] at ej
      exact TR_opp H hj hk ej
  · rw [e]; exact (single_sb (by omega)).1
  · rw [e]; exact single_sb (by omega)
/-- what one sweep, from clause i on, gives -/
def SWP (n : Nat) (C : Nat → Int32) (z L i : Nat) (s : SS) (t : Nat → Nat) (b : Int32) (s' : SS) : Prop :=
  ∃ t', TR n C z (sT s') (sR s') (sn s') (sh s') t' ∧ NBR C z (sR s') (sn s') t' ∧ sn s ≤ sn s' ∧ L ≤ numT (sR s') (sn s') ∧
    ((b = -1 ∧ (sn s' = sn s → t' = t ∧ s' = s ∧ ∀ j, i ≤ j → j < z → ¬ BRK C t (sn s) j)) ∨ ∃ j, b = nI j ∧ j < z ∧ BRK C t' (sn s') j)
theorem SWP_next {n : Nat} {C : Nat → Int32} {z L i : Nat} {s : SS} {t : Nat → Nat} {b : Int32} {s' : SS} (hi : ¬ BRK C t (sn s) i) (h : SWP n C z L (i + 1) s t b s') : SWP n C z L i s t b s' := by
  obtain ⟨t', h1, h2, h3, h4, h5⟩ := h
  refine ⟨t', h1, h2, h3, h4, ?_⟩
  rcases h5 with ⟨h6, h7⟩ | h6
  · refine Or.inl ⟨h6, fun e => ?_⟩
    obtain ⟨h8, h9, h10⟩ := h7 e
    refine ⟨h8, h9, fun j hj hz => ?_⟩
    by_cases ej : j = i
    · subst ej; exact hi
    · exact h10 j (by omega) hz
  · exact Or.inr h6
theorem sweep_ok {n : Nat} (hn : n ≤ 10) {C : Nat → Int32} {z : Nat} (hz : z < 2 ^ 31) (hC : CLS n C z) (L : Nat) :
    ∀ (k i : Nat) (s : SS) (t : Nat → Nat), i + k = z → TR n C z (sT s) (sR s) (sn s) (sh s) t → NBR C z (sR s) (sn s) t → PND C z i L (sR s) (sn s) t →
      SWP n C z L i s t (sr_sweep C k i s).1 (sr_sweep C k i s).2 := by
  intro k
  induction k with
  | zero =>
    intro i s t hik H hN hP
    refine ⟨t, H, hN, Nat.le_refl _, ?_, Or.inl ⟨rfl, fun _ => ⟨rfl, rfl, fun j h1 h2 => absurd h2 (by omega)⟩⟩⟩
    rcases hP with h1 | ⟨_, _, _, u, h1, h2, _⟩
    · exact h1
    · exact absurd h2 (by omega)
  | succ k ih =>
    intro i s t hik H hN hP
    have hi : i < z := by omega
    -- the pending clause, if it isn't this one, still lies ahead
    have skip : (UNIT C t (sn s) i → False) → ¬ BRK C t (sn s) i → SWP n C z L i s t (sr_sweep C k (i + 1) s).1 (sr_sweep C k (i + 1) s).2 := by
      intro hu hb
      refine SWP_next hb (ih (i + 1) s t (by omega) H hN ?_)
      rcases hP with h1 | ⟨h1, h2, h3, u, h4, h5, h6⟩
      · exact Or.inl h1
      · refine Or.inr ⟨h1, h2, h3, u, ?_, h5, h6⟩
        rcases Nat.lt_or_ge i u with h7 | h7
        · omega
        · have h8 : u = i := by omega
          subst h8
          exact (hu h6).elim
    unfold sr_sweep
    by_cases h0 : C i &&& sh s = 0
    · rw [if_pos h0]
      by_cases h1 : cc_open (C i) (sh s) = 0
      · rw [if_pos h1]
        have hB := brk_of H hC hi h1
        refine ⟨t, H, hN, Nat.le_refl _, ?_, Or.inr ⟨i, rfl, hi, hB⟩⟩
        rcases hP with h2 | ⟨_, _, h3, _⟩
        · exact h2
        · exact (h3 i hi hB).elim
      · rw [if_neg h1]
        by_cases h2 : cc_singleB (cc_open (C i) (sh s)) = true
        · rw [if_pos h2]
          obtain ⟨l, hl, hv, he, hb, hf, ho⟩ := unit_of H hC hi h0 (singleB_iff.1 h2)
          have hr : nI i ≠ -1 := nI_nm1 (by omega)
          obtain ⟨g1, g2⟩ := TR_hold H (r := nI i) hl hv hf (Or.inr ⟨hr, i, rfl, hi, hb, ho⟩)
          have e1 : sr_hold s (cc_open (C i) (sh s)) (nI i) = (upd (sT s) (sn s) (sb l), upd (sR s) (sn s) (nI i), sn s + 1, sh s ||| sb l) := by
            unfold sr_hold
            rw [if_pos (by omega), he]
          rw [e1]
          have g3 : NBR C z (upd (sR s) (sn s) (nI i)) (sn s + 1) (tu t (sn s) l) := by
            intro q hq eq j hj hB
            by_cases e : q = sn s
            · subst e; rw [pk_us] at eq; exact hr eq
            · rw [pk_un e] at eq
              refine hN q (by omega) eq j hj (fun m hm => ?_)
              obtain ⟨a, ha, ea⟩ := hB m hm
              exact ⟨a, ha, by rw [tu_n (by omega)] at ea; exact ea⟩
          have g4 : numT (upd (sR s) (sn s) (nI i)) (sn s + 1) = numT (sR s) (sn s) + 2 ^ (9 - sn s) := by
            show numT (upd (sR s) (sn s) (nI i)) (sn s) + (if upd (sR s) (sn s) (nI i) (sn s) = -1 then 0 else 2 ^ (9 - sn s)) = _
            rw [pk_us, if_neg hr, numT_congr (R' := sR s) (sn s) (fun j hj => pk_un (by omega))]
          have g5 : L ≤ numT (upd (sR s) (sn s) (nI i)) (sn s + 1) := by
            rw [g4]
            rcases hP with h3 | ⟨_, h3, _⟩
            · exact Nat.le_trans h3 (Nat.le_add_right _ _)
            · exact h3
          obtain ⟨t', k1, k2, k3, k4, k5⟩ := ih (i + 1) (upd (sT s) (sn s) (sb l), upd (sR s) (sn s) (nI i), sn s + 1, sh s ||| sb l) (tu t (sn s) l) (by omega) g2 g3 (Or.inl g5)
          have k3 : sn s + 1 ≤ sn (sr_sweep C k (i + 1) (upd (sT s) (sn s) (sb l), upd (sR s) (sn s) (nI i), sn s + 1, sh s ||| sb l)).2 := k3
          refine ⟨t', k1, k2, by omega, k4, ?_⟩
          rcases k5 with ⟨h6, _⟩ | h6
          · exact Or.inl ⟨h6, fun e => absurd e (by omega)⟩
          · exact Or.inr h6
        · rw [if_neg h2]
          exact skip (fun hu => h2 (singleB_iff.2 (open_unit H hC hi hu).2.2)) (nbrk_open H hC hi h1)
    · rw [if_neg h0]
      exact skip (fun hu => h0 (open_unit H hC hi hu).1) (nbrk_held H h0)
/-- what propagation gives -/
theorem prop_ok {n : Nat} (hn : n ≤ 10) {C : Nat → Int32} {z : Nat} (hz : z < 2 ^ 31) (hC : CLS n C z) (L : Nat) :
    ∀ (r : Nat) (s : SS) (t : Nat → Nat), 10 < r + sn s → TR n C z (sT s) (sR s) (sn s) (sh s) t → NBR C z (sR s) (sn s) t → PND C z 0 L (sR s) (sn s) t →
      ∃ t', TR n C z (sT (sr_prop C z r s).2) (sR (sr_prop C z r s).2) (sn (sr_prop C z r s).2) (sh (sr_prop C z r s).2) t' ∧ NBR C z (sR (sr_prop C z r s).2) (sn (sr_prop C z r s).2) t' ∧ sn s ≤ sn (sr_prop C z r s).2 ∧ L ≤ numT (sR (sr_prop C z r s).2) (sn (sr_prop C z r s).2) ∧
        (((sr_prop C z r s).1 = -1 ∧ ∀ j, j < z → ¬ BRK C t' (sn (sr_prop C z r s).2) j) ∨ ∃ j, (sr_prop C z r s).1 = nI j ∧ j < z ∧ BRK C t' (sn (sr_prop C z r s).2) j) := by
  intro r
  induction r with
  | zero =>
    intro s t h1 H
    exact absurd (TR_len H).1 (by omega)
  | succ r ih =>
    intro s t h1 H hN hP
    obtain ⟨t', k1, k2, k3, k4, k5⟩ := sweep_ok hn hz hC L z 0 s t (by omega) H hN hP
    unfold sr_prop
    by_cases hb : (sr_sweep C z 0 s).1 ≠ -1
    · rw [if_pos hb]
      refine ⟨t', k1, k2, k3, k4, ?_⟩
      rcases k5 with ⟨h6, _⟩ | h6
      · exact absurd h6 hb
      · exact Or.inr h6
    · rw [if_neg hb]
      have k5 : sn (sr_sweep C z 0 s).2 = sn s → t' = t ∧ (sr_sweep C z 0 s).2 = s ∧ ∀ j, 0 ≤ j → j < z → ¬ BRK C t (sn s) j := by
        rcases k5 with ⟨_, h7⟩ | ⟨j, h7, h8, _⟩
        · exact h7
        · exact absurd (by rw [h7]; exact nI_nm1 (by omega)) hb
      by_cases hg : sn s < sn (sr_sweep C z 0 s).2
      · rw [if_pos hg]
        obtain ⟨t2, j1, j2, j3, j4, j5⟩ := ih (sr_sweep C z 0 s).2 t' (by omega) k1 k2 (Or.inl k4)
        exact ⟨t2, j1, j2, by omega, j4, j5⟩
      · rw [if_neg hg]
        obtain ⟨h8, h9, h10⟩ := k5 (by omega)
        refine ⟨t', k1, k2, k3, k4, Or.inl ⟨Classical.byContradiction hb, fun j hj => ?_⟩⟩
        rw [h8, h9]
        exact h10 j (by omega) hj
end
section
/-! Part 24: a conflict, and what is learned of it -/
theorem dk_cl_at {d : DS} {i : Nat} (h : i < dz d) (hz : dz d < 2 ^ 31) : dk_cl d (nI i) = dC d i := by
  unfold dk_cl
  rw [if_pos ⟨nI_pos' (by omega), nI_lt h hz⟩, nI_clamp (by omega)]
theorem ld_spec (R : Nat → Int32) : ∀ len, sr_ld R len ≤ len ∧ (sr_ld R len ≠ 0 → R (sr_ld R len - 1) = -1) ∧ ∀ k, sr_ld R len ≤ k → k < len → R k ≠ -1 := by
  intro len
  induction len with
  | zero => exact ⟨Nat.le_refl _, fun h => absurd rfl h, fun k _ h => absurd h (by omega)⟩
  | succ len ih =>
    unfold sr_ld
    by_cases h : R len = -1
    · rw [if_pos h]
      exact ⟨Nat.le_refl _, fun _ => h, fun k h1 h2 => absurd h1 (by omega)⟩
    · rw [if_neg h]
      refine ⟨by omega, ih.2.1, fun k h1 h2 => ?_⟩
      by_cases e : k = len
      · subst e; exact h
      · exact ih.2.2 k h1 (by omega)
theorem b_sror (T : Nat → Int32) (i : Nat) : ∀ k a x, bt (sr_or T k a x) i = true ↔ bt x i = true ∨ ∃ j, a ≤ j ∧ j < a + k ∧ bt (T j) i = true := by
  intro k
  induction k with
  | zero =>
    intro a x
    constructor
    · exact Or.inl
    · rintro (h | ⟨j, h1, h2, _⟩)
      · exact h
      · exact absurd h2 (by omega)
  | succ k ih =>
    intro a x
    show bt (sr_or T k (a + 1) (x ||| T a)) i = true ↔ _
    rw [ih, b_or, Bool.or_eq_true]
    constructor
    · rintro ((h | h) | ⟨j, h1, h2, h3⟩)
      · exact Or.inl h
      · exact Or.inr ⟨a, by omega, by omega, h⟩
      · exact Or.inr ⟨j, by omega, by omega, h3⟩
    · rintro (h | ⟨j, h1, h2, h3⟩)
      · exact Or.inl (Or.inl h)
      · by_cases e : j = a
        · subst e; exact Or.inl (Or.inr h3)
        · exact Or.inr ⟨j, by omega, by omega, h3⟩
theorem b_late {n : Nat} {C : Nat → Int32} {z : Nat} {s : SS} {t : Nat → Nat} (H : TR n C z (sT s) (sR s) (sn s) (sh s) t) (i : Nat) : bt (sr_late s) i = true ↔ i < 20 ∧ ∃ j, sr_ld (sR s) (sn s) - 1 ≤ j ∧ j < sn s ∧ t j = cn i := by
  have hl := (ld_spec (sR s) (sn s)).1
  unfold sr_late
  rw [b_negI, b_sror, b_0]
  constructor
  · rintro ⟨h1, h2⟩
    refine ⟨h1, ?_⟩
    rcases h2 with h2 | ⟨j, h2, h3, h4⟩
    · exact absurd h2 (by decide)
    · have h5 : j < sn s := by omega
      rw [(H.1 j h5).2.2, b_sb (by have := (H.1 j h5).1; omega), decide_eq_true_eq] at h4
      exact ⟨j, h2, h5, h4.symm⟩
  · rintro ⟨h1, j, h2, h3, h4⟩
    refine ⟨h1, Or.inr ⟨j, h2, by omega, ?_⟩⟩
    rw [(H.1 j h3).2.2, b_sb (by have := (H.1 j h3).1; omega), decide_eq_true_eq]
    exact h4.symm
/-- the checker's replay of k links from place a on -/
def REP (C K : Nat → Int32) (i : Nat) : Nat → Nat → Int32 → Int32 → Prop
  | 0, _, x, y => x = y
  | k + 1, a, x, y => ∃ r, K a = nI r ∧ r < i ∧ cc_single (x &&& cc_neg (C r)) ∧ REP C K i k (a + 1) ((x &&& ((x &&& cc_neg (C r)) ^^^ (-1))) ||| (C r &&& (cc_neg (x &&& cc_neg (C r)) ^^^ (-1)))) y
theorem REP_snoc {C K : Nat → Int32} {i : Nat} {y w : Int32} : ∀ (k a : Nat) (x : Int32), REP C K i k a x y → (∃ r, K (a + k) = nI r ∧ r < i ∧ cc_single (y &&& cc_neg (C r)) ∧ w = (y &&& ((y &&& cc_neg (C r)) ^^^ (-1))) ||| (C r &&& (cc_neg (y &&& cc_neg (C r)) ^^^ (-1)))) → REP C K i (k + 1) a x w := by
  intro k
  induction k with
  | zero =>
    intro a x h1 h2
    have h1 : x = y := h1
    subst h1
    obtain ⟨r, e1, e2, e3, e4⟩ := h2
    exact ⟨r, e1, e2, e3, e4.symm⟩
  | succ k ih =>
    intro a x h1 h2
    obtain ⟨r, e1, e2, e3, e4⟩ := h1
    refine ⟨r, e1, e2, e3, ih (a + 1) _ e4 ?_⟩
    rw [show a + 1 + k = a + (k + 1) from by omega]
    exact h2
theorem REP_congr {C K C' K' : Nat → Int32} {i : Nat} {y : Int32} (hC : ∀ j, j < i → C' j = C j) : ∀ (k a : Nat) (x : Int32), (∀ j, a ≤ j → j < a + k → K' j = K j) → REP C K i k a x y → REP C' K' i k a x y := by
  intro k
  induction k with
  | zero => intro a x _ h; exact h
  | succ k ih =>
    intro a x hK h
    obtain ⟨r, e1, e2, e3, e4⟩ := h
    refine ⟨r, ?_, e2, ?_, ?_⟩
    · rw [hK a (by omega) (by omega)]; exact e1
    · rw [hC r e2]; exact e3
    · rw [hC r e2]
      exact ih (a + 1) _ (fun j h1 h2 => hK j (by omega) (by omega)) e4
def DER (C F T K : Nat → Int32) (lk i : Nat) : Prop := ∃ f k r, F i = nI f ∧ T i = nI (f + 1 + k) ∧ f + 1 + k ≤ lk ∧ K f = nI r ∧ r < i ∧ REP C K i k (f + 1) (C r) (C i)
theorem DER_congr {C F T K C' F' T' K' : Nat → Int32} {lk lk' i : Nat} (hC : ∀ j, j < i + 1 → C' j = C j) (hF : F' i = F i) (hT : T' i = T i) (hK : ∀ j, j < lk → K' j = K j) (hl : lk ≤ lk') (h : DER C F T K lk i) : DER C' F' T' K' lk' i := by
  obtain ⟨f, k, r, e1, e2, e3, e4, e5, e6⟩ := h
  refine ⟨f, k, r, by rw [hF, e1], by rw [hT, e2], by omega, by rw [hK f (by omega)]; exact e4, e5, ?_⟩
  rw [hC r (by omega), hC i (by omega)]
  exact REP_congr (fun j hj => hC j (by omega)) k (f + 1) _ (fun j h1 h2 => hK j (by omega)) e6
/-- a question's docket: L bounds the conflicts so far, g counts what was given -/
def DK (n : Nat) (d : DS) (L g : Nat) : Prop :=
  CLS n (dC d) (dz d) ∧ dz d ≤ g + L ∧ dl d ≤ pS L ∧ dO d = dl d ∧
  (∀ i, i < dz d → dF d i = -1 ∨ DER (dC d) (dF d) (dT d) (dK d) (dl d) i) ∧
  (∀ M : Nat → Bool, (∀ i, i < dz d → dF d i = -1 → sat M (dC d i)) → ∀ i, i < dz d → sat M (dC d i))
def LTE (ld len : Nat) (t : Nat → Nat) (x : Int32) : Prop := ∃ i j, bt x i = true ∧ ld - 1 ≤ j ∧ j < len ∧ t j = cn i
theorem LTE_mk {ld len : Nat} {t : Nat → Nat} {x : Int32} (i j : Nat) (h1 : bt x i = true) (h2 : ld - 1 ≤ j) (h3 : j < len) (h4 : t j = cn i) : LTE ld len t x := ⟨i, j, h1, h2, h3, h4⟩
def RI (n : Nat) (d0 : DS) (len : Nat) (t : Nat → Nat) (ld b k : Nat) (x : Int32) (d : DS) (q : Nat) : Prop :=
  (dC d = dC d0 ∧ dF d = dF d0 ∧ dT d = dT d0 ∧ dz d = dz d0 ∧ dO d = dO d0) ∧ dl d = dl d0 + 1 + q ∧ q ≤ len - k ∧ (∀ j, j < dl d0 → dK d j = dK d0 j) ∧ dK d (dl d0) = nI b ∧ REP (dC d0) (dK d) (dz d0) q (dl d0 + 1) (dC d0 b) x ∧
  (∀ i, bt x i = true → i < 20 ∧ i % 10 < n ∧ ∃ j, j < k ∧ t j = cn i) ∧ (ld ≠ 0 → LTE ld len t x) ∧ (∀ M : Nat → Bool, (∀ i, i < dz d0 → sat M (dC d0 i)) → sat M x)
def RP (n : Nat) (d0 : DS) (len : Nat) (t : Nat → Nat) (ld b : Nat) (y : Int32) (d : DS) : Prop :=
  (dC d = dC d0 ∧ dF d = dF d0 ∧ dT d = dT d0 ∧ dz d = dz d0 ∧ dO d = dO d0) ∧ (∃ q, dl d = dl d0 + 1 + q ∧ q ≤ len - ld ∧ (∀ j, j < dl d0 → dK d j = dK d0 j) ∧ dK d (dl d0) = nI b ∧ REP (dC d0) (dK d) (dz d0) q (dl d0 + 1) (dC d0 b) y) ∧
  (∀ i, bt y i = true → i < 20 ∧ i % 10 < n) ∧ (ld = 0 → y = 0) ∧
  (ld ≠ 0 → ∃ a, bt y a = true ∧ (∃ j, ld - 1 ≤ j ∧ j < len ∧ t j = cn a) ∧ ∀ i, bt y i = true → i ≠ a → ∃ j, j < ld - 1 ∧ t j = cn i) ∧ (∀ M : Nat → Bool, (∀ i, i < dz d0 → sat M (dC d0 i)) → sat M y)
theorem two_bits {x : Int32} {a : Nat} (ha : a < 31) (h1 : bt x a = true) (h2 : ¬ cc_single x) : ∃ b, b ≠ a ∧ bt x b = true := by
  apply Classical.byContradiction
  intro hn
  apply h2
  apply single_iff ha
  intro i
  constructor
  · intro hi
    apply Classical.byContradiction
    intro hne
    exact hn ⟨i, hne, hi⟩
  · rintro rfl; exact h1
theorem res_ok {n : Nat} {d0 : DS} {T R : Nat → Int32} {len : Nat} {h : Int32} {t : Nat → Nat} {b : Nat} {la : Int32} (H : TR n (dC d0) (dz d0) T R len h t) (hC : CLS n (dC d0) (dz d0)) (hz : dz d0 < 2 ^ 31)
    (hla : ∀ i, bt la i = true ↔ i < 20 ∧ ∃ j, sr_ld R len - 1 ≤ j ∧ j < len ∧ t j = cn i) (hbd : dl d0 + 1 + (len - sr_ld R len) ≤ 3060) :
    ∀ (k : Nat) (x : Int32) (d : DS) (q : Nat), sr_ld R len ≤ k → k ≤ len → RI n d0 len t (sr_ld R len) b k x d q → RP n d0 len t (sr_ld R len) b (sr_res T R (sr_ld R len) la k x d).1 (sr_res T R (sr_ld R len) la k x d).2 := by
  obtain ⟨hl1, hl2, hl3⟩ := ld_spec R len
  generalize sr_ld R len = ld at *
  intro k
  induction k with
  | zero =>
    intro x d q hk hk2 hI
    obtain ⟨i1, i2, i3, i4, i5, i6, i7, i8, i9⟩ := hI
    have h0 : ld = 0 := by omega
    refine ⟨i1, ⟨q, i2, by omega, i4, i5, i6⟩, fun i hi => ⟨(i7 i hi).1, (i7 i hi).2.1⟩, fun _ => ?_, fun hne => absurd h0 hne, i9⟩
    show x = 0
    rw [b_eq0]
    intro i
    cases hb : bt x i with
    | false => rfl
    | true =>
      obtain ⟨_, _, j, hj, _⟩ := i7 i hb
      exact absurd hj (by omega)
  | succ k ih =>
    intro x d q hk hk2 hI
    have hI0 := hI
    obtain ⟨i1, i2, i3, i4, i5, i6, i7, i8, i9⟩ := hI
    unfold sr_res
    by_cases c1 : k < ld
    · rw [if_pos c1]
      have e : ld = k + 1 := by omega
      refine ⟨i1, ⟨q, i2, by omega, i4, i5, i6⟩, fun i hi => ⟨(i7 i hi).1, (i7 i hi).2.1⟩, fun h0 => absurd h0 (by omega), fun _ => ?_, i9⟩
      obtain ⟨a, j, ha, hj1, hj2, hj3⟩ := i8 (by omega)
      refine ⟨a, ha, ⟨j, hj1, hj2, hj3⟩, fun i hi hne => ?_⟩
      obtain ⟨_, _, j', hj', ej'⟩ := i7 i hi
      obtain ⟨a20, _, j2, hj2', ej2⟩ := i7 a ha
      have e1 : j2 = j := H.2.1 j2 j (by omega) hj2 (by rw [ej2, hj3])
      refine ⟨j', ?_, ej'⟩
      by_cases e2 : j' = ld - 1
      · have e3 : j' = j := by omega
        rw [e3, hj3] at ej'
        exact absurd (cn_inj a20 (i7 i hi).1 ej').symm hne
      · omega
    · rw [if_neg c1]
      by_cases c2 : ld ≠ 0 ∧ cc_singleB (x &&& la) = true
      · rw [if_pos c2]
        refine ⟨i1, ⟨q, i2, by omega, i4, i5, i6⟩, fun i hi => ⟨(i7 i hi).1, (i7 i hi).2.1⟩, fun h0 => absurd h0 c2.1, fun _ => ?_, i9⟩
        obtain ⟨a, _, ha⟩ := single_of (singleB_iff.1 c2.2)
        have h1 := (ha a).2 rfl
        rw [b_and, Bool.and_eq_true] at h1
        refine ⟨a, h1.1, ((hla a).1 h1.2).2, fun i hi hne => ?_⟩
        obtain ⟨h20, _, j, hj, ej⟩ := i7 i hi
        refine ⟨j, ?_, ej⟩
        apply Classical.byContradiction
        intro hj2
        apply hne
        apply (ha i).1
        rw [b_and, Bool.and_eq_true]
        exact ⟨hi, (hla i).2 ⟨h20, j, by omega, by omega, ej⟩⟩
      · rw [if_neg c2]
        have hk3 : k < len := by omega
        obtain ⟨t20, tn, Te⟩ := H.1 k hk3
        rw [Te, neg_sb t20]
        by_cases c3 : x &&& sb (cn (t k)) = 0
        · rw [if_pos c3]
          refine ih x d q (by omega) (by omega) ⟨i1, i2, by omega, i4, i5, i6, fun i hi => ?_, i8, i9⟩
          obtain ⟨h20, hn, j, hj, ej⟩ := i7 i hi
          refine ⟨h20, hn, j, ?_, ej⟩
          by_cases e : j = k
          · subst e
            refine absurd (b_and0.1 c3 i hi ?_) (fun f => f)
            rw [b_sb (by have := cn_lt t20; omega), decide_eq_true_eq, ej, cn_cn h20]
          · omega
        · rw [if_neg c3]
          have hcn := cn_lt t20
          have hx : bt x (cn (t k)) = true := by
            obtain ⟨i, hi⟩ := b_ne0.1 c3
            rw [b_and, Bool.and_eq_true, b_sb (by omega), decide_eq_true_eq] at hi
            rw [← hi.2]; exact hi.1
          obtain ⟨r, eR, hr, hbr, hoth⟩ := H.2.2.2.2 k hk3 (hl3 k (by omega) hk3)
          have ecl : dk_cl d (R k) = dC d0 r := by
            rw [eR, dk_cl_at (by rw [i1.2.2.2.1]; exact hr) (by rw [i1.2.2.2.1]; exact hz), i1.1]
          have eclash : x &&& cc_neg (dC d0 r) = sb (cn (t k)) := by
            apply sb_of (by omega)
            intro i
            rw [b_and, Bool.and_eq_true, b_negI]
            constructor
            · rintro ⟨h1, h2, h3⟩
              apply Classical.byContradiction
              intro hne
              have h4 : cn i ≠ t k := fun e => hne (by rw [← e, cn_cn h2])
              obtain ⟨j, hj, ej⟩ := hoth (cn i) h3 h4
              rw [cn_cn h2] at ej
              obtain ⟨_, _, j', hj', ej'⟩ := i7 i h1
              rw [← ej] at ej'
              exact TR_opp H (by omega) (by omega) ej'
            · rintro rfl
              exact ⟨hx, hcn, by rw [cn_cn t20]; exact hbr⟩
          have elink : dk_link d (R k) = (dC d, dF d, dT d, upd (dK d) (dl d) (nI r), dz d, dl d + 1, dO d) := by
            unfold dk_link
            rw [if_pos (by omega), eR]
          rw [ecl, elink]
          have est : ((x &&& (sb (cn (t k)) ^^^ (-1))) ||| (dC d0 r &&& (sb (t k) ^^^ (-1)))) = rs_step x (dC d0 r) (t k) := rfl
          rw [est]
          refine ih _ _ (q + 1) (by omega) (by omega) ⟨i1, ?_, by omega, ?_, ?_, ?_, ?_, ?_, ?_⟩
          · show dl d + 1 = dl d0 + 1 + (q + 1)
            omega
          · intro j hj
            show upd (dK d) (dl d) (nI r) j = dK d0 j
            rw [pk_un (by omega)]
            exact i4 j hj
          · show upd (dK d) (dl d) (nI r) (dl d0) = nI b
            rw [pk_un (by omega)]
            exact i5
          · show REP (dC d0) (upd (dK d) (dl d) (nI r)) (dz d0) (q + 1) (dl d0 + 1) (dC d0 b) _
            refine REP_snoc (y := x) q _ _ (REP_congr (fun _ _ => rfl) q _ _ (fun j h1 h2 => pk_un (by omega)) i6) ⟨r, ?_, hr, ?_, ?_⟩
            · rw [show dl d0 + 1 + q = dl d from by omega, pk_us]
            · rw [eclash]; exact single_sb (by omega)
            · rw [eclash, neg_sb hcn, cn_cn t20]; rfl
          · intro i hi
            rcases (b_step x (dC d0 r) t20 i).1 hi with ⟨h1, h2⟩ | ⟨h1, h2⟩
            · obtain ⟨h20, hn, j, hj, ej⟩ := i7 i h1
              refine ⟨h20, hn, j, ?_, ej⟩
              by_cases e : j = k
              · subst e
                exact absurd (by rw [ej, cn_cn h20]) h2
              · omega
            · obtain ⟨j, hj, ej⟩ := hoth i h1 h2
              obtain ⟨h20, hvn⟩ := hC r hr i h1
              exact ⟨h20, hvn, j, hj, ej⟩
          · intro hne
            have hns : ¬ cc_single (x &&& la) := fun hs => c2 ⟨hne, singleB_iff.2 hs⟩
            obtain ⟨a, j, ha, hj1, hj2, hj3⟩ := i8 hne
            have ha20 := (i7 a ha).1
            have hal : bt (x &&& la) a = true := by
              rw [b_and, Bool.and_eq_true]
              exact ⟨ha, (hla a).2 ⟨ha20, j, hj1, hj2, hj3⟩⟩
            obtain ⟨a2, hne2, hal2⟩ := two_bits (by omega) hal hns
            rw [b_and, Bool.and_eq_true] at hal2
            by_cases e : a = cn (t k)
            · obtain ⟨_, j2, h1, h2, h3⟩ := (hla a2).1 hal2.2
              exact LTE_mk a2 j2 ((b_step x _ t20 a2).2 (Or.inl ⟨hal2.1, by rw [← e]; exact hne2⟩)) h1 h2 h3
            · exact LTE_mk a j ((b_step x _ t20 a).2 (Or.inl ⟨ha, e⟩)) hj1 hj2 hj3
          · intro M hM
            exact sat_step t20 (i9 M hM) (hM r hr)
end
section
/-! Part 25: learning, deciding, and the whole search -/
theorem jump_spec {T R : Nat → Int32} {y : Int32} {dec : Nat} : ∀ (k g : Nat), k ≤ g → R g = -1 → (∀ j, k ≤ j → j < dec → y &&& cc_neg (T j) = 0) →
    sr_jump T R y k g ≤ g ∧ R (sr_jump T R y k g) = -1 ∧ ∀ j, sr_jump T R y k g ≤ j → j < dec → y &&& cc_neg (T j) = 0 := by
  intro k
  induction k with
  | zero => intro g _ h2 h3; exact ⟨Nat.le_refl _, h2, fun j _ h => h3 j (by omega) h⟩
  | succ k ih =>
    intro g h1 h2 h3
    unfold sr_jump
    by_cases c : y &&& cc_neg (T k) = 0
    · rw [if_pos c]
      have h4 : ∀ j, k ≤ j → j < dec → y &&& cc_neg (T j) = 0 := by
        intro j hj hd
        by_cases e : j = k
        · subst e; exact c
        · exact h3 j (by omega) hd
      by_cases c2 : R k = -1
      · rw [if_pos c2]
        obtain ⟨a1, a2, a3⟩ := ih k (Nat.le_refl _) c2 h4
        exact ⟨by omega, a2, a3⟩
      · rw [if_neg c2]
        exact ih g (by omega) h2 h4
    · rw [if_neg c]
      exact ⟨Nat.le_refl _, h2, fun j hj hd => h3 j (by omega) hd⟩
theorem b_cutH {T : Nat → Int32} {g i : Nat} : ∀ (k : Nat) (h : Int32), bt (sr_cutH T g k h) i = true ↔ bt h i = true ∧ ∀ j, g ≤ j → j < k → bt (T j) i = false := by
  intro k
  induction k with
  | zero => intro h; exact ⟨fun a => ⟨a, fun j _ hj => absurd hj (by omega)⟩, fun a => a.1⟩
  | succ k ih =>
    intro h
    unfold sr_cutH
    by_cases c : k < g
    · rw [if_pos c]
      exact ⟨fun a => ⟨a, fun j h1 h2 => absurd h1 (by omega)⟩, fun a => a.1⟩
    · rw [if_neg c, ih, b_diff, Bool.and_eq_true, Bool.not_eq_true']
      constructor
      · rintro ⟨⟨a1, a2⟩, a3⟩
        refine ⟨a1, fun j h1 h2 => ?_⟩
        by_cases e : j = k
        · subst e; exact a2
        · exact a3 j h1 (by omega)
      · rintro ⟨a1, a2⟩
        exact ⟨⟨a1, a2 k (by omega) (by omega)⟩, fun j h1 h2 => a2 j h1 (by omega)⟩
theorem TR_cut {n : Nat} {C : Nat → Int32} {z : Nat} {T R : Nat → Int32} {len : Nat} {h : Int32} {t : Nat → Nat} (H : TR n C z T R len h t) {g : Nat} (hg : g ≤ len) : TR n C z T R g (sr_cutH T g len h) t := by
  obtain ⟨H1, H2, H3, H4, H5⟩ := H
  refine ⟨fun k hk => H1 k (by omega), fun j k hj hk e => H2 j k (by omega) (by omega) e, fun i => ?_, fun k hk e => H4 k (by omega) e, fun k hk e => H5 k (by omega) e⟩
  rw [b_cutH, H3 i]
  constructor
  · rintro ⟨⟨k, hk, e⟩, h2⟩
    refine ⟨k, ?_, e⟩
    apply Classical.byContradiction
    intro hge
    have h3 := h2 k (by omega) hk
    rw [(H1 k hk).2.2, b_sb (by have := (H1 k hk).1; omega), decide_eq_false_iff_not] at h3
    exact h3 e.symm
  · rintro ⟨k, hk, e⟩
    refine ⟨⟨k, by omega, e⟩, fun j h1 h2 => ?_⟩
    rw [(H1 j h2).2.2, b_sb (by have := (H1 j h2).1; omega), decide_eq_false_iff_not]
    intro e2
    have := H2 j k h2 (by omega) (by rw [e, e2])
    omega
theorem TR_more {n : Nat} {C C' : Nat → Int32} {z z' : Nat} {T R : Nat → Int32} {len : Nat} {h : Int32} {t : Nat → Nat} (H : TR n C z T R len h t) (hz : z ≤ z') (hC : ∀ i, i < z → C' i = C i) : TR n C' z' T R len h t := by
  obtain ⟨H1, H2, H3, H4, H5⟩ := H
  refine ⟨H1, H2, H3, H4, fun k hk e => ?_⟩
  obtain ⟨r, a1, a2, a3, a4⟩ := H5 k hk e
  exact ⟨r, a1, by omega, by rw [hC r a2]; exact a3, fun i hi hne => a4 i (by rw [← hC r a2]; exact hi) hne⟩
theorem BRK_congr {C C' : Nat → Int32} {t : Nat → Nat} {k i : Nat} (h : C' i = C i) (H : BRK C' t k i) : BRK C t k i := fun l hl => H l (by rw [h]; exact hl)
/-- the docket behind a learned clause -/
theorem derive_eq {d : DS} (h : dz d < 1575) (c : Int32) : dk_derive d c = (upd (dC d) (dz d) c, upd (dF d) (dz d) (nI (dO d)), upd (dT d) (dz d) (nI (dl d)), dK d, dz d + 1, dl d, dl d) := by
  unfold dk_derive dk_append
  rw [if_pos h]
theorem give_eq {d : DS} (h : dz d < 1575) (c : Int32) : dk_give d c = (upd (dC d) (dz d) c, upd (dF d) (dz d) (-1), upd (dT d) (dz d) (-1), dK d, dz d + 1, dl d, dO d) := by
  unfold dk_give dk_append
  rw [if_pos h]
theorem DK_up {n : Nat} {d : DS} {L L' g : Nat} (h : DK n d L g) (hL : L ≤ L') : DK n d L' g := by
  obtain ⟨h1, h2, h3, h4, h5, h6⟩ := h
  exact ⟨h1, by omega, Nat.le_trans h3 (pS_mono L' hL), h4, h5, h6⟩
theorem learn_ok {n : Nat} (hn : n ≤ 10) {d : DS} {s : SS} {t : Nat → Nat} {b L g : Nat} (hg : g ≤ 551) (D : DK n d L g) (H : TR n (dC d) (dz d) (sT s) (sR s) (sn s) (sh s) t) (hN : NBR (dC d) (dz d) (sR s) (sn s) t) (hL : L ≤ numT (sR s) (sn s)) (hb : b < dz d) (hB : BRK (dC d) t (sn s) b) :
    DK n (sr_learn d s (nI b)).2.1 (numT (sR s) (sn s) + 1) g ∧ numT (sR s) (sn s) + 1 ≤ 1024 ∧
    (((sr_learn d s (nI b)).1 = 0 ∧ dz (sr_learn d s (nI b)).2.1 = dz d + 1 ∧ dC (sr_learn d s (nI b)).2.1 (dz d) = 0 ∧ dF (sr_learn d s (nI b)).2.1 (dz d) ≠ -1 ∧ (∀ i, i < dz d → dC (sr_learn d s (nI b)).2.1 i = dC d i ∧ dF (sr_learn d s (nI b)).2.1 i = dF d i)) ∨
     ((sr_learn d s (nI b)).1 ≠ 0 ∧ dz (sr_learn d s (nI b)).2.1 = dz d + 1 ∧ dF (sr_learn d s (nI b)).2.1 (dz d) ≠ -1 ∧ (∀ i, i < dz d → dC (sr_learn d s (nI b)).2.1 i = dC d i ∧ dF (sr_learn d s (nI b)).2.1 i = dF d i) ∧
      TR n (dC (sr_learn d s (nI b)).2.1) (dz (sr_learn d s (nI b)).2.1) (sT (sr_learn d s (nI b)).2.2) (sR (sr_learn d s (nI b)).2.2) (sn (sr_learn d s (nI b)).2.2) (sh (sr_learn d s (nI b)).2.2) t ∧
      NBR (dC (sr_learn d s (nI b)).2.1) (dz (sr_learn d s (nI b)).2.1) (sR (sr_learn d s (nI b)).2.2) (sn (sr_learn d s (nI b)).2.2) t ∧
      PND (dC (sr_learn d s (nI b)).2.1) (dz (sr_learn d s (nI b)).2.1) 0 (numT (sR s) (sn s) + 1) (sR (sr_learn d s (nI b)).2.2) (sn (sr_learn d s (nI b)).2.2) t)) := by
  obtain ⟨D1, D2, D3, D4, D5, D6⟩ := D
  have hlen := (TR_len H).1
  have hN1 := numT_le (sR s) (sn s) (by omega)
  have hp2 : 0 < 2 ^ (10 - sn s) := Nat.pow_pos (by omega)
  obtain ⟨hl1, hl2, hl3⟩ := ld_spec (sR s) (sn s)
  have hrun := lr_run (sR s) hl1 (by omega) hl2 hl3
  have hS1 : pS (numT (sR s) (sn s) + 1) = pS (numT (sR s) (sn s)) + (1 + lr0 11 (numT (sR s) (sn s))) := rfl
  have hS2 : pS (numT (sR s) (sn s) + 1) ≤ pS 1024 := pS_mono 1024 (by omega)
  have hS3 : pS L ≤ pS (numT (sR s) (sn s)) := pS_mono _ hL
  have hS4 := pS_end
  have hz31 : dz d < 2 ^ 31 := by omega
  have elk : dk_link d (nI b) = (dC d, dF d, dT d, upd (dK d) (dl d) (nI b), dz d, dl d + 1, dO d) := by
    unfold dk_link
    rw [if_pos (by omega)]
  have hR := res_ok (b := b) (la := sr_late s) H D1 hz31 (b_late H) (by omega) (sn s) (dC d b) (dk_link d (nI b)) 0 hl1 (Nat.le_refl _) (by
    rw [elk]
    refine ⟨⟨rfl, rfl, rfl, rfl, rfl⟩, rfl, by omega, fun j hj => pk_un (by omega), pk_us, rfl, fun i hi => ?_, fun hne => ?_, fun M hM => hM b hb⟩
    · exact ⟨(D1 b hb i hi).1, (D1 b hb i hi).2, hB i hi⟩
    · apply Classical.byContradiction
      intro hno
      refine hN (sr_ld (sR s) (sn s) - 1) (by omega) (hl2 hne) b hb (fun l hl => ?_)
      obtain ⟨j, hj, ej⟩ := hB l hl
      refine ⟨j, ?_, ej⟩
      apply Classical.byContradiction
      intro hge
      exact hno (LTE_mk l j hl (by omega) hj ej))
  have el1 : sr_learn1 d s (nI b) = sr_res (sT s) (sR s) (sr_ld (sR s) (sn s)) (sr_late s) (sn s) (dC d b) (dk_link d (nI b)) := by
    unfold sr_learn1
    rw [dk_cl_at hb hz31]
  unfold sr_learn
  rw [el1]
  generalize sr_res (sT s) (sR s) (sr_ld (sR s) (sn s)) (sr_late s) (sn s) (dC d b) (dk_link d (nI b)) = yd at hR ⊢
  obtain ⟨y, d2⟩ := yd
  obtain ⟨⟨a1, a2, a3, a4, a5⟩, ⟨q, q1, q2, q3, q4, q5⟩, r1, r2, r3, r4⟩ := hR
  have a1 : dC d2 = dC d := a1
  have a2 : dF d2 = dF d := a2
  have a3 : dT d2 = dT d := a3
  have a4 : dz d2 = dz d := a4
  have a5 : dO d2 = dO d := a5
  have q1 : dl d2 = dl d + 1 + q := q1
  have hde : dk_derive d2 y = (upd (dC d) (dz d) y, upd (dF d) (dz d) (nI (dl d)), upd (dT d) (dz d) (nI (dl d2)), dK d2, dz d + 1, dl d2, dl d2) := by
    rw [derive_eq (by rw [a4]; omega), a1, a2, a3, a4, a5, D4]
  have hdl31 : dl d < 2 ^ 31 := by omega
  show DK n (dk_derive d2 y) _ g ∧ _ ∧ ((y = 0 ∧ dz (dk_derive d2 y) = _ ∧ dC (dk_derive d2 y) _ = 0 ∧ dF (dk_derive d2 y) _ ≠ -1 ∧ _) ∨ _)
  rw [hde]
  have hdocket : DK n (upd (dC d) (dz d) y, upd (dF d) (dz d) (nI (dl d)), upd (dT d) (dz d) (nI (dl d2)), dK d2, dz d + 1, dl d2, dl d2) (numT (sR s) (sn s) + 1) g := by
    refine ⟨?_, ?_, ?_, rfl, ?_, ?_⟩
    · intro i hi l hl
      have hi : i < dz d + 1 := hi
      have hl : bt (upd (dC d) (dz d) y i) l = true := hl
      by_cases e : i = dz d
      · subst e; rw [pk_us] at hl; exact r1 l hl
      · rw [pk_un e] at hl; exact D1 i (by omega) l hl
    · show dz d + 1 ≤ _
      omega
    · show dl d2 ≤ _
      omega
    · intro i hi
      have hi : i < dz d + 1 := hi
      show upd (dF d) (dz d) (nI (dl d)) i = -1 ∨ DER (upd (dC d) (dz d) y) (upd (dF d) (dz d) (nI (dl d))) (upd (dT d) (dz d) (nI (dl d2))) (dK d2) (dl d2) i
      by_cases e : i = dz d
      · subst e
        refine Or.inr ⟨dl d, q, b, pk_us, ?_, by omega, q4, hb, ?_⟩
        · rw [pk_us, q1]
        · rw [pk_us, pk_un (show b ≠ dz d by omega)]
          exact REP_congr (C := dC d) (fun j hj => pk_un (by omega)) q (dl d + 1) (dC d b) (fun _ _ _ => rfl) q5
      · rcases D5 i (by omega) with h | h
        · exact Or.inl (by rw [pk_un e]; exact h)
        · exact Or.inr (DER_congr (fun j hj => pk_un (by omega)) (pk_un e) (pk_un e) q3 (by omega) h)
    · intro M hM i hi
      have hi : i < dz d + 1 := hi
      have hM : ∀ i, i < dz d + 1 → upd (dF d) (dz d) (nI (dl d)) i = -1 → sat M (upd (dC d) (dz d) y i) := hM
      have hM2 : ∀ i, i < dz d → sat M (dC d i) := D6 M (fun j hj e => by
        have h1 := hM j (by omega) (by rw [pk_un (by omega)]; exact e)
        rw [pk_un (by omega)] at h1
        exact h1)
      show sat M (upd (dC d) (dz d) y i)
      by_cases e : i = dz d
      · subst e; rw [pk_us]; exact r4 M hM2
      · rw [pk_un e]; exact hM2 i (by omega)
  refine ⟨hdocket, by omega, ?_⟩
  have hFne : upd (dF d) (dz d) (nI (dl d)) (dz d) ≠ -1 := by rw [pk_us]; exact nI_nm1 hdl31
  have hold : ∀ i, i < dz d → upd (dC d) (dz d) y i = dC d i ∧ upd (dF d) (dz d) (nI (dl d)) i = dF d i := fun i hi => ⟨pk_un (by omega), pk_un (by omega)⟩
  by_cases h0 : sr_ld (sR s) (sn s) = 0
  · refine Or.inl ⟨r2 h0, rfl, ?_, hFne, hold⟩
    show upd (dC d) (dz d) y (dz d) = 0
    rw [pk_us]; exact r2 h0
  · obtain ⟨a, ha, ⟨j0, j1, j2, j3⟩, hoth⟩ := r3 h0
    have ha20 := (r1 a ha).1
    have hy0 : y ≠ 0 := b_ne0.2 ⟨a, ha⟩
    obtain ⟨g1, g2, g3⟩ := jump_spec (T := sT s) (R := sR s) (y := y) (dec := sr_ld (sR s) (sn s) - 1) (sr_ld (sR s) (sn s) - 1) (sr_ld (sR s) (sn s) - 1) (Nat.le_refl _) (hl2 h0) (fun j h1 h2 => absurd h2 (by omega))
    have ecut : sr_cut s (sr_jump (sT s) (sR s) y (sr_ld (sR s) (sn s) - 1) (sr_ld (sR s) (sn s) - 1)) = (sT s, sR s, sr_jump (sT s) (sR s) y (sr_ld (sR s) (sn s) - 1) (sr_ld (sR s) (sn s) - 1), sr_cutH (sT s) (sr_jump (sT s) (sR s) y (sr_ld (sR s) (sn s) - 1) (sr_ld (sR s) (sn s) - 1)) (sn s) (sh s)) := by
      unfold sr_cut
      rw [if_neg (by omega)]
    show _ ∨ (y ≠ 0 ∧ _ ∧ _ ∧ _ ∧ TR n (upd (dC d) (dz d) y) (dz d + 1) (sT (sr_cut s _)) (sR (sr_cut s _)) (sn (sr_cut s _)) (sh (sr_cut s _)) t ∧ NBR (upd (dC d) (dz d) y) (dz d + 1) (sR (sr_cut s _)) (sn (sr_cut s _)) t ∧ PND (upd (dC d) (dz d) y) (dz d + 1) 0 _ (sR (sr_cut s _)) (sn (sr_cut s _)) t)
    rw [ecut]
    generalize sr_jump (sT s) (sR s) y (sr_ld (sR s) (sn s) - 1) (sr_ld (sR s) (sn s) - 1) = tg at g1 g2 g3 ⊢
    have htg : tg < sn s := by omega
    -- a denied literal of the learned clause stands before tg, but for the one
    have hoth2 : ∀ i, bt y i = true → i ≠ a → ∃ j, j < tg ∧ t j = cn i := by
      intro i hi hne
      obtain ⟨j, hj, ej⟩ := hoth i hi hne
      refine ⟨j, ?_, ej⟩
      apply Classical.byContradiction
      intro hge
      have h1 := g3 j (by omega) hj
      obtain ⟨t20, _, Te⟩ := H.1 j (by omega)
      rw [Te, neg_sb t20] at h1
      refine b_and0.1 h1 i hi ?_
      rw [b_sb (by have := cn_lt t20; omega), decide_eq_true_eq, ej, cn_cn (r1 i hi).1]
    have hnb : ∀ k, k ≤ tg → ¬ BRK (upd (dC d) (dz d) y) t k (dz d) := by
      intro k hk hBr
      obtain ⟨j, hj, ej⟩ := hBr a (by rw [pk_us]; exact ha)
      have := H.2.1 j j0 (by omega) j2 (by rw [ej, j3])
      omega
    refine Or.inr ⟨hy0, rfl, hFne, hold, ?_, ?_, ?_⟩
    · exact TR_more (TR_cut H (g := tg) (Nat.le_of_lt htg)) (Nat.le_succ _) (fun i hi => pk_un (Nat.ne_of_lt hi))
    · intro k hk e i hi hBr
      have hk : k < tg := hk
      have hi : i < dz d + 1 := hi
      by_cases ei : i = dz d
      · subst ei; exact hnb k (by omega) hBr
      · exact hN k (by omega) e i (by omega) (BRK_congr (pk_un ei) hBr)
    · refine Or.inr ⟨by show tg ≤ 9; omega, ?_, ?_, dz d, by omega, Nat.lt_succ_self _, ?_⟩
      · show numT (sR s) (sn s) + 1 ≤ numT (sR s) tg + 2 ^ (9 - tg)
        have h1 : numT (sR s) (sn s) + 2 ^ (10 - sn s) ≤ numT (sR s) (tg + 1) + 2 ^ (10 - (tg + 1)) := by
          have h9 : ∀ b, tg + 1 ≤ b → b ≤ 10 → numT (sR s) b + 2 ^ (10 - b) ≤ numT (sR s) (tg + 1) + 2 ^ (10 - (tg + 1)) := by
            intro b
            induction b with
            | zero => intro h _; exact absurd h (by omega)
            | succ b ih =>
              intro h hb
              rcases Nat.lt_or_ge b (tg + 1) with h1 | h1
              · rw [show b = tg from by omega]; exact Nat.le_refl _
              · have h2 := ih h1 (by omega)
                rw [p10 (show b ≤ 9 by omega)] at h2
                rw [show 10 - (b + 1) = 9 - b from by omega]
                have h3 : numT (sR s) (b + 1) ≤ numT (sR s) b + 2 ^ (9 - b) := by
                  show numT (sR s) b + (if sR s b = -1 then 0 else 2 ^ (9 - b)) ≤ _
                  split <;> omega
                omega
          exact h9 (sn s) (by omega) (by omega)
        have h2 : numT (sR s) (tg + 1) = numT (sR s) tg := by
          show numT (sR s) tg + (if sR s tg = -1 then 0 else 2 ^ (9 - tg)) = _
          rw [if_pos g2]; rfl
        rw [show 10 - (tg + 1) = 9 - tg from by omega] at h1
        omega
      · intro i hi hBr
        have hi : i < dz d + 1 := hi
        by_cases ei : i = dz d
        · subst ei; exact hnb tg (Nat.le_refl _) hBr
        · exact hN tg htg g2 i (by omega) (BRK_congr (pk_un ei) hBr)
      · refine ⟨a, ha20, by rw [pk_us]; exact ha, fun j hj e => ?_, fun i hi hne => ?_⟩
        · have hj : j < tg := hj
          have := H.2.1 j j0 (by omega) j2 (by rw [e, j3, cn_var ha20])
          omega
        · rw [pk_us] at hi
          exact hoth2 i hi hne
end
section
/-! Part 26: deciding, the whole search, and what it answers -/
theorem b_pos : ∀ n, n < 11 → ∀ i, i < 32 → bt (cc_pos n) i = decide (i < n) := by decide +kernel
theorem b_free {n : Nat} (hn : n ≤ 10) {h : Int32} {v : Nat} : bt (cc_free n h) v = true ↔ v < n ∧ bt h v = false ∧ bt h (cn v) = false := by
  unfold cc_free
  rw [b_diff, Bool.and_eq_true, b_or, b_neg]
  constructor
  · rintro ⟨h1, h2⟩
    have h3 := b_lt h1
    rw [b_pos n (by omega) v h3, decide_eq_true_eq] at h1
    rw [decide_eq_true (show v < 20 by omega)] at h2
    simp at h2
    exact ⟨h1, h2⟩
  · rintro ⟨h1, h2, h3⟩
    rw [b_pos n (by omega) v (by omega), decide_eq_true_eq, h2, h3]
    simp
    exact h1
theorem TR_room {n : Nat} {C : Nat → Int32} {z : Nat} {T R : Nat → Int32} {len : Nat} {h : Int32} {t : Nat → Nat} (_ : TR n C z T R len h t) (hl : len < n) : ∃ v, v < n ∧ ∀ k, k < len → t k % 10 ≠ v := by
  apply Classical.byContradiction
  intro hno
  have h1 : ∀ v, ∃ k, v < n → k < len ∧ t k % 10 = v := by
    intro v
    apply Classical.byContradiction
    intro h2
    apply hno
    refine ⟨v, ?_, fun k hk e => h2 ⟨k, fun _ => ⟨hk, e⟩⟩⟩
    apply Classical.byContradiction
    intro h3
    exact h2 ⟨0, fun h4 => absurd h4 h3⟩
  have h2 := php len n (fun v => Classical.choose (h1 v)) (fun v hv => (Classical.choose_spec (h1 v) hv).1) (fun a b ha hb e => by
    have e : Classical.choose (h1 a) = Classical.choose (h1 b) := e
    rw [← (Classical.choose_spec (h1 a) ha).2, ← (Classical.choose_spec (h1 b) hb).2, e])
  omega
theorem decide_ok {n : Nat} (hn : n ≤ 10) {C : Nat → Int32} {z : Nat} {s : SS} {t : Nat → Nat} (H : TR n C z (sT s) (sR s) (sn s) (sh s) t) (hN : NBR C z (sR s) (sn s) t) (hl : sn s < n) (hB : ∀ j, j < z → ¬ BRK C t (sn s) j) :
    ∃ t', TR n C z (sT (sr_decide n s)) (sR (sr_decide n s)) (sn (sr_decide n s)) (sh (sr_decide n s)) t' ∧ NBR C z (sR (sr_decide n s)) (sn (sr_decide n s)) t' ∧ sn (sr_decide n s) = sn s + 1 ∧ numT (sR (sr_decide n s)) (sn (sr_decide n s)) = numT (sR s) (sn s) := by
  have hfree : ∀ v, bt (cc_free n (sh s)) v = true ↔ v < n ∧ ∀ k, k < sn s → t k % 10 ≠ v := by
    intro v
    rw [b_free hn]
    constructor
    · rintro ⟨h1, h2, h3⟩
      refine ⟨h1, fun k hk e => ?_⟩
      rcases cn_same (H.1 k hk).1 (show v < 20 by omega) (by omega) with h4 | h4
      · have h5 := (H.2.2.1 v).2 ⟨k, hk, h4⟩
        rw [h2] at h5; exact absurd h5 (by decide)
      · have h5 := (H.2.2.1 (cn v)).2 ⟨k, hk, h4⟩
        rw [h3] at h5; exact absurd h5 (by decide)
    · rintro ⟨h1, h2⟩
      refine ⟨h1, ?_, ?_⟩
      · cases hb : bt (sh s) v with
        | false => rfl
        | true =>
          obtain ⟨k, hk, e⟩ := (H.2.2.1 v).1 hb
          exact absurd (by rw [e]; omega) (h2 k hk)
      · cases hb : bt (sh s) (cn v) with
        | false => rfl
        | true =>
          obtain ⟨k, hk, e⟩ := (H.2.2.1 (cn v)).1 hb
          exact absurd (by rw [e, cn_var (by omega)]; omega) (h2 k hk)
  obtain ⟨v, hv, hvf⟩ := TR_room H hl
  obtain ⟨l, hl10, el, bl, hlow⟩ := low_bit (x := cc_free n (sh s)) (fun i hi => by have := ((hfree i).1 hi).1; omega) (b_ne0.2 ⟨v, (hfree v).2 ⟨hv, hvf⟩⟩)
  obtain ⟨hln, hlf⟩ := (hfree l).1 bl
  have ecn : cn l = l + 10 := if_pos hl10
  have e1 : cc_neg (cc_free n (sh s) &&& (-(cc_free n (sh s)))) = sb (l + 10) := by rw [el, neg_sb (by omega), ecn]
  obtain ⟨g1, g2⟩ := TR_hold H (l := l + 10) (r := -1) (by omega) (by omega) (fun k hk => by rw [show (l + 10) % 10 = l from by omega]; exact hlf k hk) (Or.inl ⟨rfl, by omega, fun w hw => by
    apply Classical.byContradiction
    intro hno
    have h1 := hlow w (by omega)
    rw [(hfree w).2 ⟨by omega, fun k hk e => hno ⟨k, hk, e⟩⟩] at h1
    exact absurd h1 (by decide)⟩)
  have e2 : sr_decide n s = (upd (sT s) (sn s) (sb (l + 10)), upd (sR s) (sn s) (-1), sn s + 1, sh s ||| sb (l + 10)) := by
    unfold sr_decide sr_hold
    rw [if_pos (by omega), e1]
  rw [e2]
  refine ⟨tu t (sn s) (l + 10), g2, ?_, rfl, ?_⟩
  · intro k hk e i hi hBr
    have hk : k < sn s + 1 := hk
    have e : upd (sR s) (sn s) (-1) k = -1 := e
    have hBr2 : BRK C t k i := fun m hm => by
      obtain ⟨j, hj, ej⟩ := hBr m hm
      rw [tu_n (by omega)] at ej
      exact ⟨j, hj, ej⟩
    by_cases ek : k = sn s
    · subst ek; exact hB i hi hBr2
    · rw [pk_un ek] at e
      exact hN k (by omega) e i hi hBr2
  · show numT (upd (sR s) (sn s) (-1)) (sn s) + (if upd (sR s) (sn s) (-1) (sn s) = -1 then 0 else 2 ^ (9 - sn s)) = numT (sR s) (sn s)
    rw [pk_us, if_pos rfl, numT_congr (R' := sR s) (sn s) (fun j hj => pk_un (by omega))]
    rfl
/-- a docket that grew by derived clauses alone -/
def EXT (d d' : DS) : Prop := dz d ≤ dz d' ∧ (∀ i, i < dz d → dC d' i = dC d i ∧ dF d' i = dF d i) ∧ ∀ i, dz d ≤ i → i < dz d' → dF d' i ≠ -1
theorem EXT_rf (d : DS) : EXT d d := ⟨Nat.le_refl _, fun _ _ => ⟨rfl, rfl⟩, fun i h1 h2 => absurd h2 (by omega)⟩
theorem EXT_tr {a b c : DS} (h1 : EXT a b) (h2 : EXT b c) : EXT a c := by
  obtain ⟨p1, p2, p3⟩ := h1
  obtain ⟨q1, q2, q3⟩ := h2
  refine ⟨by omega, fun i hi => ?_, fun i h3 h4 => ?_⟩
  · have h5 := p2 i hi
    have h6 := q2 i (by omega)
    exact ⟨h6.1.trans h5.1, h6.2.trans h5.2⟩
  · rcases Nat.lt_or_ge i (dz b) with h5 | h5
    · rw [(q2 i h5).2]; exact p3 i h3 h5
    · exact q3 i h5 h4
/-- the search between two of its steps -/
def FI (n : Nat) (d : DS) (s : SS) (t : Nat → Nat) (L g : Nat) : Prop := DK n d L g ∧ TR n (dC d) (dz d) (sT s) (sR s) (sn s) (sh s) t ∧ NBR (dC d) (dz d) (sR s) (sn s) t ∧ PND (dC d) (dz d) 0 L (sR s) (sn s) t ∧ L ≤ 1024
/-- it found one -/
def FT (n : Nat) (d : DS) (s : SS) (t : Nat → Nat) (L g : Nat) : Prop := DK n d L g ∧ TR n (dC d) (dz d) (sT s) (sR s) (sn s) (sh s) t ∧ NBR (dC d) (dz d) (sR s) (sn s) t ∧ L ≤ numT (sR s) (sn s) ∧ L ≤ 1024 ∧ sn s = n ∧ ∀ j, j < dz d → ¬ BRK (dC d) t (sn s) j
/-- it found none -/
def FF (n : Nat) (d : DS) (L g : Nat) : Prop := DK n d L g ∧ L ≤ 1024 ∧ 0 < dz d ∧ dC d (dz d - 1) = 0 ∧ dF d (dz d - 1) ≠ -1
theorem find_ok {n : Nat} (hn : n ≤ 10) {g : Nat} (hg : g ≤ 551) : ∀ (f : Nat) (d : DS) (s : SS) (t : Nat → Nat) (L : Nat), FI n d s t L g → (1024 - L) * 11 + (10 - sn s) < f →
    EXT d (sr_find n f d s).2.1 ∧ (((sr_find n f d s).1 = true ∧ ∃ t' L', FT n (sr_find n f d s).2.1 (sr_find n f d s).2.2 t' L' g) ∨ ((sr_find n f d s).1 = false ∧ ∃ L', FF n (sr_find n f d s).2.1 L' g)) := by
  intro f
  induction f with
  | zero => intro d s t L _ h; exact absurd h (by omega)
  | succ f ih =>
    intro d s t L hF hm
    obtain ⟨D, H, hN, hP, hL⟩ := hF
    have hz31 : dz d < 2 ^ 31 := by
      have := D.2.1
      omega
    obtain ⟨t1, H1, hN1, hle, hL1, hres⟩ := prop_ok hn hz31 D.1 L 11 s t (by omega) H hN hP
    unfold sr_find
    generalize sr_prop (dC d) (dz d) 11 s = bs at H1 hN1 hle hL1 hres ⊢
    obtain ⟨b, s1⟩ := bs
    have hle : sn s ≤ sn s1 := hle
    have hlen := (TR_len H1).1
    have hlen : sn s1 ≤ n := hlen
    rcases hres with ⟨hb, hnb⟩ | ⟨j, hb, hj, hbr⟩
    · have hb : b = -1 := hb
      rw [if_pos hb]
      by_cases hfull : n ≤ sn s1
      · rw [if_pos hfull]
        refine ⟨EXT_rf d, Or.inl ⟨rfl, t1, L, D, H1, hN1, hL1, hL, ?_, hnb⟩⟩
        show sn s1 = n
        omega
      · rw [if_neg hfull]
        obtain ⟨t2, k1, k2, k3, k4⟩ := decide_ok hn H1 hN1 (by show sn s1 < n; omega) hnb
        have k3 : sn (sr_decide n s1) = sn s1 + 1 := k3
        refine ih d (sr_decide n s1) t2 L ⟨D, k1, k2, Or.inl (by rw [k4]; exact hL1), hL⟩ ?_
        show (1024 - L) * 11 + (10 - sn (sr_decide n s1)) < f
        omega
    · have hb : b = nI j := hb
      have hbne : ¬ b = -1 := by rw [hb]; exact nI_nm1 (by omega)
      rw [if_neg hbne]
      have hK := learn_ok hn hg D H1 hN1 hL1 hj hbr
      show EXT d (if (sr_learn d s1 b).1 = 0 then (false, (sr_learn d s1 b).2.1, (sr_learn d s1 b).2.2) else sr_find n f (sr_learn d s1 b).2.1 (sr_learn d s1 b).2.2).2.1 ∧ _
      rw [hb]
      generalize sr_learn d s1 (nI j) = q at hK ⊢
      obtain ⟨y, d2, s2⟩ := q
      have hL1 : L ≤ numT (sR s1) (sn s1) := hL1
      obtain ⟨K1, K2, K3⟩ := hK
      have K2 : numT (sR s1) (sn s1) + 1 ≤ 1024 := K2
      rcases K3 with ⟨e0, e1, e2, e3, e4⟩ | ⟨e0, e1, e3, e4, e5, e6, e7⟩
      · have e0 : y = 0 := e0
        have e1 : dz d2 = dz d + 1 := e1
        rw [if_pos e0]
        refine ⟨⟨by show dz d ≤ dz d2; omega, e4, fun i h1 h2 => ?_⟩, Or.inr ⟨rfl, numT (sR s1) (sn s1) + 1, K1, K2, by show 0 < dz d2; omega, ?_, ?_⟩⟩
        · have h2 : i < dz d2 := h2
          rw [show i = dz d from by omega]; exact e3
        · show dC d2 (dz d2 - 1) = 0
          rw [show dz d2 - 1 = dz d from by omega]; exact e2
        · show dF d2 (dz d2 - 1) ≠ -1
          rw [show dz d2 - 1 = dz d from by omega]; exact e3
      · have e0 : ¬ y = 0 := e0
        have e1 : dz d2 = dz d + 1 := e1
        rw [if_neg e0]
        have hx : EXT d d2 := ⟨by omega, e4, fun i h1 h2 => by
          rw [show i = dz d from by omega]; exact e3⟩
        obtain ⟨r1, r2⟩ := ih d2 s2 t1 (numT (sR s1) (sn s1) + 1) ⟨K1, e5, e6, e7, K2⟩ (by omega)
        exact ⟨EXT_tr hx r1, r2⟩
/-- an assignment read off the literals that hold -/
def mOf (h : Int32) : Nat → Bool := fun v => bt h v
theorem mv_of {n : Nat} {C : Nat → Int32} {z : Nat} {T R : Nat → Int32} {len : Nat} {h : Int32} {t : Nat → Nat} (H : TR n C z T R len h t) {k : Nat} (hk : k < len) : mv (mOf h) (t k) = true := by
  have h20 := (H.1 k hk).1
  unfold mv mOf
  by_cases c : t k < 10
  · rw [if_pos c]; exact (H.2.2.1 (t k)).2 ⟨k, hk, rfl⟩
  · rw [if_neg c]
    cases hb : bt h (t k - 10) with
    | false => rfl
    | true =>
      obtain ⟨j, hj, ej⟩ := (H.2.2.1 _).1 hb
      exact (TR_opp H hj hk (by rw [ej]; unfold cn; rw [if_neg c])).elim
theorem model_ok {n : Nat} {C : Nat → Int32} {z : Nat} {T R : Nat → Int32} {h : Int32} {t : Nat → Nat} (H : TR n C z T R n h t) (hC : CLS n C z) {j : Nat} (hj : j < z) (hB : ¬ BRK C t n j) : sat (mOf h) (C j) ∧ C j &&& h ≠ 0 := by
  have h1 : ∃ l, bt (C j) l = true ∧ ¬ ∃ k, k < n ∧ t k = cn l := by
    apply Classical.byContradiction
    intro hno
    apply hB
    intro l hl
    apply Classical.byContradiction
    intro h2
    exact hno ⟨l, hl, h2⟩
  obtain ⟨l, hl, hno⟩ := h1
  obtain ⟨h20, hv⟩ := hC j hj l hl
  obtain ⟨k, hk, e⟩ := (TR_len H).2 rfl (l % 10) hv
  have ek : t k = l := by
    rcases cn_same (H.1 k hk).1 h20 e with h3 | h3
    · exact h3
    · exact absurd ⟨k, hk, h3⟩ hno
  refine ⟨⟨l, h20, hl, by rw [← ek]; exact mv_of H hk⟩, fun h0 => ?_⟩
  exact b_and0.1 h0 l hl ((H.2.2.1 l).2 ⟨k, hk, ek⟩)
/-- the found assignment is the least -/
theorem least_ok {n : Nat} {C : Nat → Int32} {z : Nat} {T R : Nat → Int32} {len : Nat} {h : Int32} {t : Nat → Nat} (H : TR n C z T R len h t) {M : Nat → Bool} (hM : ∀ j, j < z → sat M (C j)) {v : Nat} (hv : v < 10) (hh : bt h v = true) (hlow : ∀ u, u < v → M u = bt h u) : M v = true := by
  obtain ⟨k, hk, ek⟩ := (H.2.2.1 v).1 hh
  have key : ∀ j, j ≤ k → mv M (t j) = true := by
    intro j
    induction j using Nat.strongRecOn with
    | ind j ih =>
      intro hj
      have hjl : j < len := by omega
      have h20 := (H.1 j hjl).1
      by_cases c : R j = -1
      · obtain ⟨d1, d2⟩ := H.2.2.2.1 j hjl c
        have hjk : j ≠ k := fun e => by
          subst e; omega
        have h1 : t j - 10 < v := by
          rcases Nat.lt_or_ge (t j - 10) v with h2 | h2
          · exact h2
          · rcases Nat.lt_or_ge v (t j - 10) with h3 | h3
            · obtain ⟨i, hi, ei⟩ := d2 v h3
              have := H.2.1 i k (by omega) hk (by rw [ei, ek]; omega)
              omega
            · have := H.2.1 j k hjl hk (by rw [ek]; omega)
              omega
        unfold mv
        rw [if_neg (by omega), hlow _ h1]
        cases hb : bt h (t j - 10) with
        | false => rfl
        | true =>
          obtain ⟨i, hi, ei⟩ := (H.2.2.1 _).1 hb
          exact (TR_opp H hi hjl (by rw [ei]; unfold cn; rw [if_neg (by omega)])).elim
      · obtain ⟨r, _, hr, hbr, hoth⟩ := H.2.2.2.2 j hjl c
        obtain ⟨i, hi, bi, mi⟩ := hM r hr
        by_cases e : i = t j
        · rw [← e]; exact mi
        · obtain ⟨i2, h1, h2⟩ := hoth i bi e
          have h3 := ih i2 h1 (by omega)
          rw [h2, mv_cn hi, mi] at h3
          exact absurd h3 (by decide)
  have h1 := key k (Nat.le_refl _)
  rw [ek] at h1
  unfold mv at h1
  rw [if_pos hv] at h1
  exact h1
/-- a found assignment is shut out: the search may go on -/
theorem block_ok {n : Nat} {d : DS} {s : SS} {t : Nat → Nat} {L g : Nat} (hg : g ≤ 550) (hn : n ≤ 10) (h : FT n d s t L g) : FI n (dk_give d (cc_neg (sh s))) s t L (g + 1) ∧ dk_give d (cc_neg (sh s)) = (upd (dC d) (dz d) (cc_neg (sh s)), upd (dF d) (dz d) (-1), upd (dT d) (dz d) (-1), dK d, dz d + 1, dl d, dO d) := by
  obtain ⟨D, H, hN, hL, hL2, hfull, hnb⟩ := h
  obtain ⟨D1, D2, D3, D4, D5, D6⟩ := D
  have e := give_eq (d := d) (by omega) (cc_neg (sh s))
  rw [e]
  have hneg : ∀ l, bt (cc_neg (sh s)) l = true → l < 20 ∧ l % 10 < n := by
    intro l hl
    obtain ⟨h20, h1⟩ := b_negI.1 hl
    obtain ⟨k, hk, ek⟩ := (H.2.2.1 _).1 h1
    have h2 := (H.1 k hk).2.1
    rw [ek, cn_var h20] at h2
    exact ⟨h20, h2⟩
  refine ⟨⟨⟨?_, ?_, D3, D4, ?_, ?_⟩, ?_, ?_, Or.inl hL, hL2⟩, rfl⟩
  · intro i hi l hl
    have hi : i < dz d + 1 := hi
    have hl : bt (upd (dC d) (dz d) (cc_neg (sh s)) i) l = true := hl
    by_cases ei : i = dz d
    · subst ei; rw [pk_us] at hl; exact hneg l hl
    · rw [pk_un ei] at hl; exact D1 i (by omega) l hl
  · show dz d + 1 ≤ g + 1 + L
    omega
  · intro i hi
    have hi : i < dz d + 1 := hi
    show upd (dF d) (dz d) (-1) i = -1 ∨ DER (upd (dC d) (dz d) (cc_neg (sh s))) (upd (dF d) (dz d) (-1)) (upd (dT d) (dz d) (-1)) (dK d) (dl d) i
    by_cases ei : i = dz d
    · subst ei; exact Or.inl pk_us
    · rcases D5 i (by omega) with h1 | h1
      · exact Or.inl (by rw [pk_un ei]; exact h1)
      · exact Or.inr (DER_congr (fun j hj => pk_un (by omega)) (pk_un ei) (pk_un ei) (fun _ _ => rfl) (Nat.le_refl _) h1)
  · intro M hM i hi
    have hi : i < dz d + 1 := hi
    have hM : ∀ i, i < dz d + 1 → upd (dF d) (dz d) (-1) i = -1 → sat M (upd (dC d) (dz d) (cc_neg (sh s)) i) := hM
    show sat M (upd (dC d) (dz d) (cc_neg (sh s)) i)
    by_cases ei : i = dz d
    · exact hM i hi (by rw [ei, pk_us])
    · rw [pk_un ei]
      refine D6 M (fun j hj ej => ?_) i (by omega)
      have h1 := hM j (by omega) (by rw [pk_un (by omega)]; exact ej)
      rw [pk_un (by omega)] at h1
      exact h1
  · exact TR_more H (by show dz d ≤ dz d + 1; omega) (fun i hi => pk_un (by omega))
  · intro k hk ek i hi hBr
    have hi : i < dz d + 1 := hi
    by_cases ei : i = dz d
    · subst ei
      have h20 := (H.1 k hk).1
      have hb : bt (upd (dC d) (dz d) (cc_neg (sh s)) (dz d)) (cn (t k)) = true := by
        rw [pk_us, b_negI, cn_cn h20]
        exact ⟨cn_lt h20, (H.2.2.1 _).2 ⟨k, hk, rfl⟩⟩
      obtain ⟨j, hj, ej⟩ := hBr _ hb
      rw [cn_cn h20] at ej
      have := H.2.1 j k (by omega) hk (by rw [ej])
      omega
    · exact hN k hk ek i (by omega) (BRK_congr (pk_un ei) hBr)
/-- where it found none there is none -/
theorem none_ok {n : Nat} {d : DS} {L g : Nat} (h : FF n d L g) {M : Nat → Bool} (hM : ∀ i, i < dz d → dF d i = -1 → sat M (dC d i)) : False := by
  obtain ⟨D, _, h0, h1, _⟩ := h
  have h2 := D.2.2.2.2.2 M hM (dz d - 1) (by omega)
  rw [h1] at h2
  exact sat_0 h2
end
section
/-! Part 27: assignments as numbers, variable 1 the highest digit -/
def AS (x n : Nat) : Nat → Bool := fun j => decide (j < n) && x.testBit (n - 1 - j)
/-- the reference's values(x) -/
def rv (x : Nat) : Nat → Nat
  | 0 => 0
  | k + 1 => 2 * rv x k + (x / 2 ^ k) % 2
theorem two_bit {a b : Nat} (hb : b < 2) (j : Nat) : (2 * a + b).testBit (j + 1) = a.testBit j := by
  rw [Nat.testBit_succ, show (2 * a + b) / 2 = a from by omega]
theorem two_bit0 {a b : Nat} (hb : b < 2) : (2 * a + b).testBit 0 = decide (b = 1) := by
  rw [Nat.testBit_zero]
  congr 1
  exact propext ⟨fun h => by omega, fun h => by omega⟩
theorem rv_bit (x : Nat) : ∀ (n j : Nat), (rv x n).testBit j = AS x n j := by
  intro n
  induction n with
  | zero => intro j; show (0 : Nat).testBit j = _; unfold AS; rw [Nat.zero_testBit, decide_eq_false (by omega), Bool.false_and]
  | succ n ih =>
    intro j
    have hb : (x / 2 ^ n) % 2 < 2 := Nat.mod_lt _ (by omega)
    cases j with
    | zero =>
      show (2 * rv x n + (x / 2 ^ n) % 2).testBit 0 = _
      rw [two_bit0 hb]
      unfold AS
      rw [decide_eq_true (show 0 < n + 1 by omega), Bool.true_and, show n + 1 - 1 - 0 = n from by omega, Nat.testBit_eq_decide_div_mod_eq]
    | succ j =>
      show (2 * rv x n + (x / 2 ^ n) % 2).testBit (j + 1) = _
      rw [two_bit hb, ih]
      unfold AS
      rw [show n + 1 - 1 - (j + 1) = n - 1 - j from by omega]
      by_cases h : j < n
      · rw [decide_eq_true h, decide_eq_true (show j + 1 < n + 1 by omega)]
      · rw [decide_eq_false h, decide_eq_false (show ¬ j + 1 < n + 1 by omega)]
theorem rv_lt (x : Nat) : ∀ n, rv x n < 2 ^ n := by
  intro n
  induction n with
  | zero => exact Nat.zero_lt_one
  | succ n ih =>
    have hb : (x / 2 ^ n) % 2 < 2 := Nat.mod_lt _ (by omega)
    show 2 * rv x n + (x / 2 ^ n) % 2 < 2 ^ (n + 1)
    rw [Nat.pow_succ]
    omega
/-- the number of an assignment that is read off literals -/
def xo (h : Int32) : Nat → Nat
  | 0 => 0
  | k + 1 => 2 * xo h k + if bt h k = true then 1 else 0
theorem xo_bit (h : Int32) : ∀ (n i : Nat), (xo h n).testBit i = (decide (i < n) && bt h (n - 1 - i)) := by
  intro n
  induction n with
  | zero => intro j; show (0 : Nat).testBit j = _; rw [Nat.zero_testBit, decide_eq_false (by omega), Bool.false_and]
  | succ n ih =>
    intro j
    have hb : (if bt h n = true then 1 else 0) < 2 := by split <;> omega
    cases j with
    | zero =>
      show (2 * xo h n + if bt h n = true then 1 else 0).testBit 0 = _
      rw [two_bit0 hb, decide_eq_true (show 0 < n + 1 by omega), Bool.true_and, show n + 1 - 1 - 0 = n from by omega]
      cases hc : bt h n with
      | false => rfl
      | true => rfl
    | succ j =>
      show (2 * xo h n + if bt h n = true then 1 else 0).testBit (j + 1) = _
      rw [two_bit hb, ih, show n + 1 - 1 - (j + 1) = n - 1 - j from by omega]
      by_cases h : j < n
      · rw [decide_eq_true h, decide_eq_true (show j + 1 < n + 1 by omega)]
      · rw [decide_eq_false h, decide_eq_false (show ¬ j + 1 < n + 1 by omega)]
theorem xo_lt (h : Int32) : ∀ n, xo h n < 2 ^ n := by
  intro n
  induction n with
  | zero => exact Nat.zero_lt_one
  | succ n ih =>
    have hb : (if bt h n = true then 1 else 0) < 2 := by split <;> omega
    show 2 * xo h n + (if bt h n = true then 1 else 0) < 2 ^ (n + 1)
    rw [Nat.pow_succ]
    omega
theorem AS_xo {h : Int32} {n v : Nat} (hv : v < n) : AS (xo h n) n v = bt h v := by
  unfold AS
  rw [decide_eq_true hv, Bool.true_and, xo_bit, decide_eq_true (show n - 1 - v < n by omega), Bool.true_and, show n - 1 - (n - 1 - v) = v from by omega]
theorem lt_bit : ∀ (x y : Nat), y < x → ∃ i, y.testBit i = false ∧ x.testBit i = true ∧ ∀ j, i < j → y.testBit j = x.testBit j := by
  intro x
  induction x using Nat.strongRecOn with
  | ind x ih =>
    intro y h
    rcases Nat.lt_or_ge (y / 2) (x / 2) with h1 | h1
    · obtain ⟨i, a1, a2, a3⟩ := ih (x / 2) (by omega) (y / 2) h1
      refine ⟨i + 1, by rw [Nat.testBit_succ]; exact a1, by rw [Nat.testBit_succ]; exact a2, fun j hj => ?_⟩
      obtain ⟨j, rfl⟩ : ∃ k, j = k + 1 := ⟨j - 1, by omega⟩
      rw [Nat.testBit_succ, Nat.testBit_succ]
      exact a3 j (by omega)
    · have e : y / 2 = x / 2 := by omega
      refine ⟨0, ?_, ?_, fun j hj => ?_⟩
      · rw [Nat.testBit_zero]; exact decide_eq_false (by omega)
      · rw [Nat.testBit_zero]; exact decide_eq_true (by omega)
      · obtain ⟨j, rfl⟩ : ∃ k, j = k + 1 := ⟨j - 1, by omega⟩
        rw [Nat.testBit_succ, Nat.testBit_succ, e]
theorem sat_congr {n : Nat} {c : Int32} (hc : ∀ l, bt c l = true → l < 20 ∧ l % 10 < n) {M M' : Nat → Bool} (h : ∀ v, v < n → M v = M' v) : sat M c → sat M' c := by
  rintro ⟨i, hi, bi, mi⟩
  refine ⟨i, hi, bi, ?_⟩
  have h1 := (hc i bi).2
  rw [← mi]
  unfold mv
  split
  · rw [h i (by omega)]
  · rw [h (i - 10) (by omega)]
/-- the found one is the least number -/
theorem least_num {n : Nat} (hn : n ≤ 10) {C : Nat → Int32} {z : Nat} {T R : Nat → Int32} {h : Int32} {t : Nat → Nat} (H : TR n C z T R n h t) {y : Nat} (hM : ∀ j, j < z → sat (AS y n) (C j)) : xo h n ≤ y := by
  rcases Nat.lt_or_ge y (xo h n) with h1 | h1
  · exfalso
    obtain ⟨i, a1, a2, a3⟩ := lt_bit _ _ h1
    rw [xo_bit, Bool.and_eq_true, decide_eq_true_eq] at a2
    have h2 := least_ok H hM (v := n - 1 - i) (by omega) a2.2 (fun u hu => by
      unfold AS
      rw [decide_eq_true (show u < n by omega), Bool.true_and, a3 (n - 1 - u) (by omega), xo_bit, decide_eq_true (show n - 1 - u < n by omega), Bool.true_and, show n - 1 - (n - 1 - u) = u from by omega])
    unfold AS at h2
    rw [decide_eq_true (show n - 1 - i < n by omega), Bool.true_and, show n - 1 - (n - 1 - i) = i from by omega, a1] at h2
    exact absurd h2 (by decide)
  · exact h1
/-- the clause that shuts a found assignment out is false at its number alone -/
theorem block_num {n : Nat} (hn : n ≤ 10) {C : Nat → Int32} {z : Nat} {T R : Nat → Int32} {h : Int32} {t : Nat → Nat} (H : TR n C z T R n h t) {y : Nat} (hy : y < 2 ^ n) : sat (AS y n) (cc_neg h) ↔ y ≠ xo h n := by
  have hbit : ∀ v, v < n → (bt h (cn v) = true ↔ bt h v = false) := by
    intro v hv
    constructor
    · intro h1
      cases hb : bt h v with
      | false => rfl
      | true =>
        obtain ⟨k, hk, ek⟩ := (H.2.2.1 _).1 h1
        obtain ⟨j, hj, ej⟩ := (H.2.2.1 _).1 hb
        exact (TR_opp H hk hj (by rw [ek, ej])).elim
    · intro h1
      obtain ⟨k, hk, ek⟩ := (TR_len H).2 rfl v hv
      rcases cn_same (H.1 k hk).1 (show v < 20 by omega) (by omega) with h2 | h2
      · rw [(H.2.2.1 v).2 ⟨k, hk, h2⟩] at h1
        exact absurd h1 (by decide)
      · exact (H.2.2.1 _).2 ⟨k, hk, h2⟩
  have hlit : ∀ l, bt (cc_neg h) l = true → l < 20 ∧ l % 10 < n := by
    intro l hl
    obtain ⟨h20, h1⟩ := b_negI.1 hl
    obtain ⟨k, hk, ek⟩ := (H.2.2.1 _).1 h1
    have h2 := (H.1 k hk).2.1
    rw [ek, cn_var h20] at h2
    exact ⟨h20, h2⟩
  constructor
  · rintro ⟨l, hl, bl, ml⟩ rfl
    have h3 := (hlit l bl).2
    have h4 := (b_negI.1 bl).2
    unfold mv at ml
    by_cases c : l < 10
    · rw [if_pos c, AS_xo (by omega)] at ml
      have h5 := (hbit l (by omega)).1 h4
      rw [ml] at h5
      exact absurd h5 (by decide)
    · rw [if_neg c, AS_xo (by omega)] at ml
      have h6 : cn l = l - 10 := if_neg c
      rw [h6] at h4
      rw [h4] at ml
      exact absurd ml (by decide)
  · intro hne
    have h1 : ∃ v, v < n ∧ AS y n v ≠ bt h v := by
      apply Classical.byContradiction
      intro hno
      apply hne
      apply Nat.eq_of_testBit_eq
      intro i
      rw [xo_bit]
      by_cases hi : i < n
      · have h2 : AS y n (n - 1 - i) = bt h (n - 1 - i) := Classical.byContradiction (fun h3 => hno ⟨n - 1 - i, by omega, h3⟩)
        rw [decide_eq_true hi, Bool.true_and, ← h2]
        unfold AS
        rw [decide_eq_true (show n - 1 - i < n by omega), Bool.true_and, show n - 1 - (n - 1 - i) = i from by omega]
      · rw [decide_eq_false hi, Bool.false_and]
        exact Nat.testBit_lt_two_pow (Nat.lt_of_lt_of_le hy (Nat.pow_le_pow_right (by omega) (by omega)))
    obtain ⟨v, hv, hd⟩ := h1
    cases hb : bt h v with
    | false =>
      rw [hb] at hd
      refine ⟨v, by omega, b_negI.2 ⟨by omega, (hbit v hv).2 hb⟩, ?_⟩
      unfold mv
      rw [if_pos (by omega)]
      cases ha : AS y n v with
      | true => rfl
      | false => exact absurd ha hd
    | true =>
      rw [hb] at hd
      have ecn : cn v = v + 10 := if_pos (by omega)
      refine ⟨v + 10, by omega, b_negI.2 ⟨by omega, ?_⟩, ?_⟩
      · rw [← ecn, cn_cn (by omega)]; exact hb
      · unfold mv
        rw [if_neg (by omega), show v + 10 - 10 = v from by omega]
        cases ha : AS y n v with
        | true => exact absurd ha hd
        | false => rfl
end
