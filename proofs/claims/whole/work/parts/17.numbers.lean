/-! Part 27: assignments as numbers, variable 1 the highest digit -/
def AS (x n : Nat) : Nat → Bool := fun j => decide (j < n) && x.testBit (n - 1 - j)
/-- the reference's values(x) -/
def rv (x : Nat) : Nat → Nat
  | 0 => 0
  | k + 1 => 2 * rv x k + (x / 2 ^ k) % 2
theorem two_bit {a b : Nat} (hb : b < 2) (j : Nat) : (2 * a + b).testBit (j + 1) = a.testBit j := by
  rw [Nat.testBit_succ, show (2 * a + b) / 2 = a from by omega]
theorem two_bit0 {a b : Nat} (hb : b < 2) : (2 * a + b).testBit 0 = decide (b = 1) := by
  rw [Nat.testBit_zero]
  congr 1
  exact propext ⟨fun h => by omega, fun h => by omega⟩
theorem rv_bit (x : Nat) : ∀ (n j : Nat), (rv x n).testBit j = AS x n j := by
  intro n
  induction n with
  | zero => intro j; show (0 : Nat).testBit j = _; unfold AS; rw [Nat.zero_testBit, decide_eq_false (by omega), Bool.false_and]
  | succ n ih =>
    intro j
    have hb : (x / 2 ^ n) % 2 < 2 := Nat.mod_lt _ (by omega)
    cases j with
    | zero =>
      show (2 * rv x n + (x / 2 ^ n) % 2).testBit 0 = _
      rw [two_bit0 hb]
      unfold AS
      rw [decide_eq_true (show 0 < n + 1 by omega), Bool.true_and, show n + 1 - 1 - 0 = n from by omega, Nat.testBit_eq_decide_div_mod_eq]
    | succ j =>
      show (2 * rv x n + (x / 2 ^ n) % 2).testBit (j + 1) = _
      rw [two_bit hb, ih]
      unfold AS
      rw [show n + 1 - 1 - (j + 1) = n - 1 - j from by omega]
      by_cases h : j < n
      · rw [decide_eq_true h, decide_eq_true (show j + 1 < n + 1 by omega)]
      · rw [decide_eq_false h, decide_eq_false (show ¬ j + 1 < n + 1 by omega)]
theorem rv_lt (x : Nat) : ∀ n, rv x n < 2 ^ n := by
  intro n
  induction n with
  | zero => exact Nat.zero_lt_one
  | succ n ih =>
    have hb : (x / 2 ^ n) % 2 < 2 := Nat.mod_lt _ (by omega)
    show 2 * rv x n + (x / 2 ^ n) % 2 < 2 ^ (n + 1)
    rw [Nat.pow_succ]
    omega
/-- the number of an assignment that is read off literals -/
def xo (h : Int32) : Nat → Nat
  | 0 => 0
  | k + 1 => 2 * xo h k + if bt h k = true then 1 else 0
theorem xo_bit (h : Int32) : ∀ (n i : Nat), (xo h n).testBit i = (decide (i < n) && bt h (n - 1 - i)) := by
  intro n
  induction n with
  | zero => intro j; show (0 : Nat).testBit j = _; rw [Nat.zero_testBit, decide_eq_false (by omega), Bool.false_and]
  | succ n ih =>
    intro j
    have hb : (if bt h n = true then 1 else 0) < 2 := by split <;> omega
    cases j with
    | zero =>
      show (2 * xo h n + if bt h n = true then 1 else 0).testBit 0 = _
      rw [two_bit0 hb, decide_eq_true (show 0 < n + 1 by omega), Bool.true_and, show n + 1 - 1 - 0 = n from by omega]
      cases hc : bt h n with
      | false => rfl
      | true => rfl
    | succ j =>
      show (2 * xo h n + if bt h n = true then 1 else 0).testBit (j + 1) = _
      rw [two_bit hb, ih, show n + 1 - 1 - (j + 1) = n - 1 - j from by omega]
      by_cases h : j < n
      · rw [decide_eq_true h, decide_eq_true (show j + 1 < n + 1 by omega)]
      · rw [decide_eq_false h, decide_eq_false (show ¬ j + 1 < n + 1 by omega)]
theorem xo_lt (h : Int32) : ∀ n, xo h n < 2 ^ n := by
  intro n
  induction n with
  | zero => exact Nat.zero_lt_one
  | succ n ih =>
    have hb : (if bt h n = true then 1 else 0) < 2 := by split <;> omega
    show 2 * xo h n + (if bt h n = true then 1 else 0) < 2 ^ (n + 1)
    rw [Nat.pow_succ]
    omega
theorem AS_xo {h : Int32} {n v : Nat} (hv : v < n) : AS (xo h n) n v = bt h v := by
  unfold AS
  rw [decide_eq_true hv, Bool.true_and, xo_bit, decide_eq_true (show n - 1 - v < n by omega), Bool.true_and, show n - 1 - (n - 1 - v) = v from by omega]
theorem lt_bit : ∀ (x y : Nat), y < x → ∃ i, y.testBit i = false ∧ x.testBit i = true ∧ ∀ j, i < j → y.testBit j = x.testBit j := by
  intro x
  induction x using Nat.strongRecOn with
  | ind x ih =>
    intro y h
    rcases Nat.lt_or_ge (y / 2) (x / 2) with h1 | h1
    · obtain ⟨i, a1, a2, a3⟩ := ih (x / 2) (by omega) (y / 2) h1
      refine ⟨i + 1, by rw [Nat.testBit_succ]; exact a1, by rw [Nat.testBit_succ]; exact a2, fun j hj => ?_⟩
      obtain ⟨j, rfl⟩ : ∃ k, j = k + 1 := ⟨j - 1, by omega⟩
      rw [Nat.testBit_succ, Nat.testBit_succ]
      exact a3 j (by omega)
    · have e : y / 2 = x / 2 := by omega
      refine ⟨0, ?_, ?_, fun j hj => ?_⟩
      · rw [Nat.testBit_zero]; exact decide_eq_false (by omega)
      · rw [Nat.testBit_zero]; exact decide_eq_true (by omega)
      · obtain ⟨j, rfl⟩ : ∃ k, j = k + 1 := ⟨j - 1, by omega⟩
        rw [Nat.testBit_succ, Nat.testBit_succ, e]
theorem sat_congr {n : Nat} {c : Int32} (hc : ∀ l, bt c l = true → l < 20 ∧ l % 10 < n) {M M' : Nat → Bool} (h : ∀ v, v < n → M v = M' v) : sat M c → sat M' c := by
  rintro ⟨i, hi, bi, mi⟩
  refine ⟨i, hi, bi, ?_⟩
  have h1 := (hc i bi).2
  rw [← mi]
  unfold mv
  split
  · rw [h i (by omega)]
  · rw [h (i - 10) (by omega)]
/-- the found one is the least number -/
theorem least_num {n : Nat} (hn : n ≤ 10) {C : Nat → Int32} {z : Nat} {T R : Nat → Int32} {h : Int32} {t : Nat → Nat} (H : TR n C z T R n h t) {y : Nat} (hM : ∀ j, j < z → sat (AS y n) (C j)) : xo h n ≤ y := by
  rcases Nat.lt_or_ge y (xo h n) with h1 | h1
  · exfalso
    obtain ⟨i, a1, a2, a3⟩ := lt_bit _ _ h1
    rw [xo_bit, Bool.and_eq_true, decide_eq_true_eq] at a2
    have h2 := least_ok H hM (v := n - 1 - i) (by omega) a2.2 (fun u hu => by
      unfold AS
      rw [decide_eq_true (show u < n by omega), Bool.true_and, a3 (n - 1 - u) (by omega), xo_bit, decide_eq_true (show n - 1 - u < n by omega), Bool.true_and, show n - 1 - (n - 1 - u) = u from by omega])
    unfold AS at h2
    rw [decide_eq_true (show n - 1 - i < n by omega), Bool.true_and, show n - 1 - (n - 1 - i) = i from by omega, a1] at h2
    exact absurd h2 (by decide)
  · exact h1
/-- the clause that shuts a found assignment out is false at its number alone -/
theorem block_num {n : Nat} (hn : n ≤ 10) {C : Nat → Int32} {z : Nat} {T R : Nat → Int32} {h : Int32} {t : Nat → Nat} (H : TR n C z T R n h t) {y : Nat} (hy : y < 2 ^ n) : sat (AS y n) (cc_neg h) ↔ y ≠ xo h n := by
  have hbit : ∀ v, v < n → (bt h (cn v) = true ↔ bt h v = false) := by
    intro v hv
    constructor
    · intro h1
      cases hb : bt h v with
      | false => rfl
      | true =>
        obtain ⟨k, hk, ek⟩ := (H.2.2.1 _).1 h1
        obtain ⟨j, hj, ej⟩ := (H.2.2.1 _).1 hb
        exact (TR_opp H hk hj (by rw [ek, ej])).elim
    · intro h1
      obtain ⟨k, hk, ek⟩ := (TR_len H).2 rfl v hv
      rcases cn_same (H.1 k hk).1 (show v < 20 by omega) (by omega) with h2 | h2
      · rw [(H.2.2.1 v).2 ⟨k, hk, h2⟩] at h1
        exact absurd h1 (by decide)
      · exact (H.2.2.1 _).2 ⟨k, hk, h2⟩
  have hlit : ∀ l, bt (cc_neg h) l = true → l < 20 ∧ l % 10 < n := by
    intro l hl
    obtain ⟨h20, h1⟩ := b_negI.1 hl
    obtain ⟨k, hk, ek⟩ := (H.2.2.1 _).1 h1
    have h2 := (H.1 k hk).2.1
    rw [ek, cn_var h20] at h2
    exact ⟨h20, h2⟩
  constructor
  · rintro ⟨l, hl, bl, ml⟩ rfl
    have h3 := (hlit l bl).2
    have h4 := (b_negI.1 bl).2
    unfold mv at ml
    by_cases c : l < 10
    · rw [if_pos c, AS_xo (by omega)] at ml
      have h5 := (hbit l (by omega)).1 h4
      rw [ml] at h5
      exact absurd h5 (by decide)
    · rw [if_neg c, AS_xo (by omega)] at ml
      have h6 : cn l = l - 10 := if_neg c
      rw [h6] at h4
      rw [h4] at ml
      exact absurd ml (by decide)
  · intro hne
    have h1 : ∃ v, v < n ∧ AS y n v ≠ bt h v := by
      apply Classical.byContradiction
      intro hno
      apply hne
      apply Nat.eq_of_testBit_eq
      intro i
      rw [xo_bit]
      by_cases hi : i < n
      · have h2 : AS y n (n - 1 - i) = bt h (n - 1 - i) := Classical.byContradiction (fun h3 => hno ⟨n - 1 - i, by omega, h3⟩)
        rw [decide_eq_true hi, Bool.true_and, ← h2]
        unfold AS
        rw [decide_eq_true (show n - 1 - i < n by omega), Bool.true_and, show n - 1 - (n - 1 - i) = i from by omega]
      · rw [decide_eq_false hi, Bool.false_and]
        exact Nat.testBit_lt_two_pow (Nat.lt_of_lt_of_le hy (Nat.pow_le_pow_right (by omega) (by omega)))
    obtain ⟨v, hv, hd⟩ := h1
    cases hb : bt h v with
    | false =>
      rw [hb] at hd
      refine ⟨v, by omega, b_negI.2 ⟨by omega, (hbit v hv).2 hb⟩, ?_⟩
      unfold mv
      rw [if_pos (by omega)]
      cases ha : AS y n v with
      | true => rfl
      | false => exact absurd ha hd
    | true =>
      rw [hb] at hd
      have ecn : cn v = v + 10 := if_pos (by omega)
      refine ⟨v + 10, by omega, b_negI.2 ⟨by omega, ?_⟩, ?_⟩
      · rw [← ecn, cn_cn (by omega)]; exact hb
      · unfold mv
        rw [if_neg (by omega), show v + 10 - 10 = v from by omega]
        cases ha : AS y n v with
        | true => exact absurd ha hd
        | false => rfl
