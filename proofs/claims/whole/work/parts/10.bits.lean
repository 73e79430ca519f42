/-! Part 20: masks by their bits. The rows bt, b_ext .. b_ushr began as rows of kit/laws/BITS.to-paste -/
def bt (x : Int32) (i : Nat) : Bool := x.toBitVec.getLsbD i
theorem b_ext {x y : Int32} (h : ∀ i, i < 32 → bt x i = bt y i) : x = y := Int32.toBitVec_inj.mp (BitVec.eq_of_getLsbD_eq (fun i hi => h i hi))
theorem b_or (x y : Int32) (i : Nat) : bt (x ||| y) i = (bt x i || bt y i) := by unfold bt; rw [Int32.toBitVec_or, BitVec.getLsbD_or]
theorem b_and (x y : Int32) (i : Nat) : bt (x &&& y) i = (bt x i && bt y i) := by unfold bt; rw [Int32.toBitVec_and, BitVec.getLsbD_and]
theorem b_xor (x y : Int32) (i : Nat) : bt (x ^^^ y) i = (bt x i ^^ bt y i) := by unfold bt; rw [Int32.toBitVec_xor, BitVec.getLsbD_xor]
theorem b_big {x : Int32} {i : Nat} (h : 32 ≤ i) : bt x i = false := BitVec.getLsbD_of_ge _ _ h
theorem b_m1 : ∀ i, i < 32 → bt (-1) i = true := by decide +kernel
theorem b_0 (i : Nat) : bt 0 i = false := BitVec.getLsbD_zero
theorem s_l : ∀ n, n < 32 → ((nI n &&& 31).toBitVec.smod 32).toNat = n := by decide +kernel
theorem s_u : ∀ n, n < 32 → (((nI n).toUInt32 &&& Int32.toUInt32 31).toBitVec % 32).toNat = n := by decide +kernel
theorem b_shl (n : Nat) (hn : n < 32) (x : Int32) {i : Nat} (hi : i < 32) : bt (x <<< (nI n &&& 31)) i = (decide (n ≤ i) && bt x (i - n)) := by
  unfold bt
  rw [Int32.toBitVec_shiftLeft]
  show (x.toBitVec <<< ((nI n &&& 31).toBitVec.smod 32).toNat).getLsbD i = _
  rw [s_l n hn, BitVec.getLsbD_shiftLeft]
  rcases Nat.lt_or_ge i n with h | h
  · simp [h, Nat.not_le.mpr h]
  · simp [hi, h, Nat.not_lt.mpr h]
theorem b_ushr (n : Nat) (hn : n < 32) (x : Int32) (i : Nat) : bt ((x.toUInt32 >>> ((nI n).toUInt32 &&& Int32.toUInt32 31)).toInt32) i = bt x (n + i) := by
  show (x.toUInt32 >>> ((nI n).toUInt32 &&& Int32.toUInt32 31)).toBitVec.getLsbD i = x.toUInt32.toBitVec.getLsbD (n + i)
  rw [UInt32.toBitVec_shiftRight]
  show (x.toUInt32.toBitVec >>> (((nI n).toUInt32 &&& Int32.toUInt32 31).toBitVec % 32).toNat).getLsbD i = _
  rw [s_u n hn, BitVec.getLsbD_ushiftRight]
theorem b_1023 (i : Nat) : bt 1023 i = decide (i < 10) := by
  rcases Nat.lt_or_ge i 32 with h | h
  · exact (by decide +kernel : ∀ i, i < 32 → bt 1023 i = decide (i < 10)) i h
  · rw [b_big h, decide_eq_false (by omega)]
theorem b_not (x : Int32) {i : Nat} (hi : i < 32) : bt (x ^^^ (-1)) i = !bt x i := by rw [b_xor, b_m1 i hi, Bool.xor_true]
theorem b_lt {x : Int32} {i : Nat} (h : bt x i = true) : i < 32 := by
  rcases Nat.lt_or_ge i 32 with h1 | h1
  · exact h1
  · rw [b_big h1] at h; exact absurd h (by decide)
/-- the bits of 'a without b' -/
theorem b_diff (x y : Int32) (i : Nat) : bt (x &&& (y ^^^ (-1))) i = (bt x i && !bt y i) := by
  rcases Nat.lt_or_ge i 32 with h | h
  · rw [b_and, b_not y h]
  · rw [b_big h, b_big h, Bool.false_and]
theorem b_ne0 {x : Int32} : x ≠ 0 ↔ ∃ i, bt x i = true := by
  constructor
  · intro h
    apply Classical.byContradiction
    intro hn
    apply h
    apply b_ext
    intro i _
    rw [b_0]
    cases hb : bt x i with
    | false => rfl
    | true => exact absurd ⟨i, hb⟩ hn
  · rintro ⟨i, hi⟩ rfl
    rw [b_0] at hi
    exact absurd hi (by decide)
theorem b_eq0 {x : Int32} : x = 0 ↔ ∀ i, bt x i = false := by
  constructor
  · rintro rfl i; exact b_0 i
  · intro h; apply b_ext; intro i _; rw [h i, b_0]
/-- the other literal of the same variable -/
def cn (i : Nat) : Nat := if i < 10 then i + 10 else i - 10
theorem cn_lt {i : Nat} (h : i < 20) : cn i < 20 := by unfold cn; split <;> omega
theorem cn_cn {i : Nat} (h : i < 20) : cn (cn i) = i := by unfold cn; split <;> split <;> omega
theorem cn_ne {i : Nat} (h : i < 20) : cn i ≠ i := by unfold cn; split <;> omega
theorem cn_var {i : Nat} (h : i < 20) : cn i % 10 = i % 10 := by unfold cn; split <;> omega
theorem cn_inj {i j : Nat} (hi : i < 20) (hj : j < 20) (h : cn i = cn j) : i = j := by rw [← cn_cn hi, ← cn_cn hj, h]
theorem cn_same {i j : Nat} (hi : i < 20) (hj : j < 20) (h : i % 10 = j % 10) : i = j ∨ i = cn j := by unfold cn; split <;> omega
/-- Literals.opposite -/
def cc_neg (x : Int32) : Int32 := ((x &&& 1023) <<< ((10 : Int32) &&& 31)) ||| ((x.toUInt32 >>> ((10 : Int32).toUInt32 &&& Int32.toUInt32 31)).toInt32 &&& 1023)
theorem b_neg (x : Int32) (i : Nat) : bt (cc_neg x) i = (decide (i < 20) && bt x (cn i)) := by
  rcases Nat.lt_or_ge i 32 with h | h
  · unfold cc_neg
    have h1 : bt ((x &&& 1023) <<< ((10 : Int32) &&& 31)) i = (decide (10 ≤ i) && bt (x &&& 1023) (i - 10)) := b_shl 10 (by omega) _ h
    have h2 : bt ((x.toUInt32 >>> ((10 : Int32).toUInt32 &&& Int32.toUInt32 31)).toInt32) i = bt x (10 + i) := b_ushr 10 (by omega) x i
    rw [b_or, h1, b_and, b_and, h2, b_1023, b_1023]
    rcases Nat.lt_or_ge i 10 with h3 | h3
    · rw [show cn i = 10 + i from by unfold cn; rw [if_pos h3]; omega]
      rw [decide_eq_false (show ¬ 10 ≤ i by omega), decide_eq_true (show i < 20 by omega), decide_eq_true h3]
      simp
    · rw [show cn i = i - 10 from by unfold cn; rw [if_neg (by omega)]]
      rw [decide_eq_true h3, decide_eq_false (show ¬ i < 10 by omega)]
      rcases Nat.lt_or_ge i 20 with h4 | h4
      · rw [decide_eq_true h4, decide_eq_true (show i - 10 < 10 by omega)]; simp
      · rw [decide_eq_false (show ¬ i < 20 by omega), decide_eq_false (show ¬ i - 10 < 10 by omega)]; simp
  · rw [b_big h, decide_eq_false (by omega), Bool.false_and]
theorem b_negI {x : Int32} {i : Nat} : bt (cc_neg x) i = true ↔ i < 20 ∧ bt x (cn i) = true := by
  rw [b_neg, Bool.and_eq_true, decide_eq_true_eq]
/-- one literal alone -/
def sb (l : Nat) : Int32 := nI (2 ^ l)
theorem b_sb {l : Nat} (hl : l < 31) (i : Nat) : bt (sb l) i = decide (i = l) := by
  show (BitVec.ofNat 32 (2 ^ l)).getLsbD i = _
  rw [BitVec.getLsbD_ofNat, Nat.testBit_two_pow]
  rcases Nat.lt_or_ge i 32 with h | h
  · rw [decide_eq_true h, Bool.true_and]
    by_cases he : l = i
    · rw [decide_eq_true he, decide_eq_true he.symm]
    · rw [decide_eq_false he, decide_eq_false (fun h2 => he h2.symm)]
  · rw [decide_eq_false (by omega), Bool.false_and, decide_eq_false (by omega)]
theorem sb_of {x : Int32} {l : Nat} (hl : l < 31) (h : ∀ i, bt x i = true ↔ i = l) : x = sb l := by
  apply b_ext
  intro i _
  rw [b_sb hl]
  by_cases he : i = l
  · rw [decide_eq_true he]; exact (h i).2 he
  · rw [decide_eq_false he]
    cases hb : bt x i with
    | false => rfl
    | true => exact absurd ((h i).1 hb) he
theorem sb_inj {a b : Nat} (ha : a < 31) (hb : b < 31) (h : sb a = sb b) : a = b := by
  have h1 : bt (sb a) a = true := by rw [b_sb ha]; exact decide_eq_true rfl
  rw [h, b_sb hb] at h1
  exact of_decide_eq_true h1
theorem neg_sb {l : Nat} (hl : l < 20) : cc_neg (sb l) = sb (cn l) := by
  apply sb_of (by have := cn_lt hl; omega)
  intro i
  rw [b_negI, b_sb (by omega), decide_eq_true_eq]
  constructor
  · rintro ⟨h1, h2⟩; rw [← h2, cn_cn h1]
  · rintro rfl; exact ⟨cn_lt hl, cn_cn hl⟩
theorem p2_of : ∀ n : Nat, 0 < n → n &&& (n - 1) = 0 → ∃ k, n = 2 ^ k := by
  intro n
  induction n using Nat.strongRecOn with
  | ind n ih =>
    intro h0 h
    have h2 : (n &&& (n - 1)) >>> 1 = 0 := by rw [h]; rfl
    rw [Nat.shiftRight_and_distrib, Nat.shiftRight_eq_div_pow, Nat.shiftRight_eq_div_pow, Nat.pow_one] at h2
    rcases Nat.mod_two_eq_zero_or_one n with he | ho
    · have h3 : (n - 1) / 2 = n / 2 - 1 := by omega
      rw [h3] at h2
      obtain ⟨k, hk⟩ := ih (n / 2) (by omega) (by omega) h2
      exact ⟨k + 1, by rw [Nat.pow_succ]; omega⟩
    · have h3 : (n - 1) / 2 = n / 2 := by omega
      rw [h3, Nat.and_self] at h2
      exact ⟨0, by omega⟩
/-- Literals.isSingle -/
def cc_single (x : Int32) : Prop := x ≠ 0 ∧ x &&& (x - 1) = 0
theorem single_of {x : Int32} (h : cc_single x) : ∃ l, l < 32 ∧ ∀ i, bt x i = true ↔ i = l := by
  obtain ⟨h0, h1⟩ := h
  have e0 : 0 < x.toBitVec.toNat := by
    apply Nat.pos_of_ne_zero
    intro hz
    apply h0
    apply Int32.toBitVec_inj.mp
    apply BitVec.eq_of_toNat_eq
    rw [hz]; rfl
  have e1 : x.toBitVec &&& (x.toBitVec - 1#32) = 0#32 := by
    have h2 := congrArg Int32.toBitVec h1
    rw [Int32.toBitVec_and, Int32.toBitVec_sub] at h2
    exact h2
  have e2 : (x.toBitVec - 1#32).toNat = x.toBitVec.toNat - 1 := by
    have := x.toBitVec.isLt
    rw [BitVec.toNat_sub]
    show (2 ^ 32 - 1 + x.toBitVec.toNat) % 2 ^ 32 = _
    omega
  have e3 : x.toBitVec.toNat &&& (x.toBitVec.toNat - 1) = 0 := by
    have h2 := congrArg BitVec.toNat e1
    rw [BitVec.toNat_and, e2] at h2
    exact h2
  obtain ⟨k, hk⟩ := p2_of _ e0 e3
  have hb : ∀ i, bt x i = decide (k = i) := by
    intro i
    show x.toBitVec.getLsbD i = _
    rw [← BitVec.testBit_toNat, hk, Nat.testBit_two_pow]
  have hk32 : k < 32 := b_lt (x := x) (by rw [hb k]; exact decide_eq_true rfl)
  refine ⟨k, hk32, fun i => ?_⟩
  rw [hb i, decide_eq_true_eq]
  exact eq_comm
theorem single_sb {l : Nat} (hl : l < 31) : cc_single (sb l) :=
  (by decide +kernel : ∀ l, l < 31 → sb l ≠ 0 ∧ sb l &&& (sb l - 1) = 0) l hl
theorem single_iff {x : Int32} {l : Nat} (hl : l < 31) (h : ∀ i, bt x i = true ↔ i = l) : cc_single x := by
  rw [sb_of hl h]; exact single_sb hl
/-- the lowest bit -/
theorem low_bit {x : Int32} (hs : ∀ i, bt x i = true → i < 10) (h0 : x ≠ 0) : ∃ l, l < 10 ∧ x &&& (-x) = sb l ∧ bt x l = true ∧ ∀ j, j < l → bt x j = false := by
  have h1 : x.toBitVec.toNat < 2 ^ 10 := by
    apply Nat.lt_pow_two_of_testBit
    intro i hi
    rw [BitVec.testBit_toNat]
    cases hb : x.toBitVec.getLsbD i with
    | false => rfl
    | true => exact absurd (hs i hb) (by omega)
  have h2 : x = nI x.toBitVec.toNat := by
    apply Int32.toBitVec_inj.mp
    apply BitVec.eq_of_toNat_eq
    rw [pk_tn (by omega)]
  generalize x.toBitVec.toNat = k at h1 h2
  subst h2
  have h3 : ∀ k, k < 1024 → nI k ≠ 0 → ∃ l, l < 10 ∧ nI k &&& (-(nI k)) = sb l ∧ bt (nI k) l = true ∧ ∀ j, j < l → bt (nI k) j = false := by decide +kernel
  exact h3 k h1 h0
