/-! Part 22: assignments, places, numbers -/
theorem php : ∀ (n len : Nat) (f : Nat → Nat), (∀ k, k < len → f k < n) → (∀ j k, j < len → k < len → f j = f k → j = k) → len ≤ n ∧ (len = n → ∀ v, v < n → ∃ k, k < len ∧ f k = v) := by
  intro n
  induction n with
  | zero =>
    intro len f h _
    have h9 : len = 0 := by
      rcases Nat.eq_zero_or_pos len with h0 | h0
      · exact h0
      · exact absurd (h 0 h0) (by omega)
    exact ⟨by omega, fun _ v hv => absurd hv (by omega)⟩
  | succ n ih =>
    intro len f h hi
    by_cases hx : ∃ k, k < len ∧ f k = n
    · obtain ⟨k0, hk0, e0⟩ := hx
      have hg : ∀ k, k < len - 1 → (fun k => if k < k0 then f k else f (k + 1)) k < n := by
        intro k hk
        show (if k < k0 then f k else f (k + 1)) < n
        split
        · have h1 := h k (by omega)
          have h2 : f k ≠ n := fun e => by
            have := hi k k0 (by omega) hk0 (by rw [e, e0])
            omega
          omega
        · have h1 := h (k + 1) (by omega)
          have h2 : f (k + 1) ≠ n := fun e => by
            have := hi (k + 1) k0 (by omega) hk0 (by rw [e, e0])
            omega
          omega
      have hgi : ∀ j k, j < len - 1 → k < len - 1 → (fun k => if k < k0 then f k else f (k + 1)) j = (fun k => if k < k0 then f k else f (k + 1)) k → j = k := by
        intro j k hj hk he
        have he : (if j < k0 then f j else f (j + 1)) = (if k < k0 then f k else f (k + 1)) := he
        split at he <;> split at he
        · exact hi _ _ (by omega) (by omega) he
        · have := hi _ _ (by omega) (by omega) he
          omega
        · have := hi _ _ (by omega) (by omega) he
          omega
        · have := hi _ _ (by omega) (by omega) he
          omega
      obtain ⟨h1, h2⟩ := ih (len - 1) _ hg hgi
      refine ⟨by omega, fun e v hv => ?_⟩
      rcases Nat.lt_or_ge v n with hv2 | hv2
      · obtain ⟨k, hk, ek⟩ := h2 (by omega) v hv2
        have ek : (if k < k0 then f k else f (k + 1)) = v := ek
        split at ek
        · exact ⟨k, by omega, ek⟩
        · exact ⟨k + 1, by omega, ek⟩
      · exact ⟨k0, hk0, by omega⟩
    · have h1 : ∀ k, k < len → f k < n := fun k hk => by
        have := h k hk
        have h2 : f k ≠ n := fun e => hx ⟨k, hk, e⟩
        omega
      obtain ⟨h2, _⟩ := ih len f h1 hi
      exact ⟨by omega, fun e => absurd h2 (by omega)⟩
theorem nI_nm1 {r : Nat} (h : r < 2 ^ 31) : nI r ≠ -1 := fun e => by
  have h1 := congrArg Int32.toInt e
  rw [nI_toInt h, show (-1 : Int32).toInt = -1 from by decide +kernel] at h1
  omega
/-- a literal under an assignment -/
def mv (M : Nat → Bool) (i : Nat) : Bool := if i < 10 then M i else !M (i - 10)
theorem mv_cn {M : Nat → Bool} {i : Nat} (h : i < 20) : mv M (cn i) = !mv M i := by
  unfold mv cn
  by_cases h1 : i < 10
  · rw [if_pos h1, if_pos h1, if_neg (by omega)]
    rw [show i + 10 - 10 = i from by omega]
  · rw [if_neg h1, if_neg h1, if_pos (by omega), Bool.not_not]
def sat (M : Nat → Bool) (c : Int32) : Prop := ∃ i, i < 20 ∧ bt c i = true ∧ mv M i = true
theorem sat_0 {M : Nat → Bool} : ¬ sat M 0 := by
  rintro ⟨i, _, h, _⟩
  rw [b_0] at h
  exact absurd h (by decide)
/-- a step of resolution -/
def rs_step (x c : Int32) (a : Nat) : Int32 := (x &&& (sb (cn a) ^^^ (-1))) ||| (c &&& (sb a ^^^ (-1)))
theorem b_step (x c : Int32) {a : Nat} (ha : a < 20) (i : Nat) : bt (rs_step x c a) i = true ↔ (bt x i = true ∧ i ≠ cn a) ∨ (bt c i = true ∧ i ≠ a) := by
  have h1 := cn_lt ha
  unfold rs_step
  rw [b_or, b_diff, b_diff, b_sb (by omega), b_sb (by omega)]
  simp
theorem sat_step {M : Nat → Bool} {x c : Int32} {a : Nat} (ha : a < 20) (h1 : sat M x) (h2 : sat M c) : sat M (rs_step x c a) := by
  obtain ⟨i, hi, bi, mi⟩ := h1
  by_cases he : i = cn a
  · obtain ⟨j, hj, bj, mj⟩ := h2
    refine ⟨j, hj, (b_step x c ha j).2 (Or.inr ⟨bj, ?_⟩), mj⟩
    rintro rfl
    rw [he, mv_cn ha, mj] at mi
    exact absurd mi (by decide)
  · exact ⟨i, hi, (b_step x c ha i).2 (Or.inl ⟨bi, he⟩), mi⟩
/-- the trail's number -/
def numT (R : Nat → Int32) : Nat → Nat
  | 0 => 0
  | k + 1 => numT R k + if R k = -1 then 0 else 2 ^ (9 - k)
theorem p10 {k : Nat} (h : k ≤ 9) : 2 ^ (10 - k) = 2 * 2 ^ (9 - k) := by
  rw [show 10 - k = (9 - k) + 1 from by omega, Nat.pow_succ]
  omega
theorem numT_le (R : Nat → Int32) : ∀ k, k ≤ 10 → numT R k + 2 ^ (10 - k) ≤ 1024 := by
  intro k
  induction k with
  | zero => intro _; show 0 + 2 ^ 10 ≤ 1024; decide
  | succ k ih =>
    intro h
    have h1 := ih (by omega)
    rw [p10 (show k ≤ 9 by omega)] at h1
    rw [show 10 - (k + 1) = 9 - k from by omega]
    show numT R k + (if R k = -1 then 0 else 2 ^ (9 - k)) + 2 ^ (9 - k) ≤ 1024
    split <;> omega
theorem numT_congr {R R' : Nat → Int32} : ∀ k, (∀ j, j < k → R j = R' j) → numT R k = numT R' k := by
  intro k
  induction k with
  | zero => intro _; rfl
  | succ k ih =>
    intro h
    show numT R k + (if R k = -1 then 0 else 2 ^ (9 - k)) = numT R' k + (if R' k = -1 then 0 else 2 ^ (9 - k))
    rw [ih (fun j hj => h j (by omega)), h k (by omega)]
theorem numT_mono (R : Nat → Int32) {a : Nat} : ∀ b, a ≤ b → numT R a ≤ numT R b := by
  intro b
  induction b with
  | zero => intro h; rw [show a = 0 from by omega]; exact Nat.le_refl _
  | succ b ih =>
    intro h
    rcases Nat.lt_or_ge b a with h1 | h1
    · rw [show a = b + 1 from by omega]; exact Nat.le_refl _
    · exact Nat.le_trans (ih h1) (Nat.le_add_right _ _)
theorem numT_dvd (R : Nat → Int32) : ∀ k, k ≤ 10 → ∃ A, A < 2 ^ k ∧ numT R k = A * 2 ^ (10 - k) := by
  intro k
  induction k with
  | zero => intro _; exact ⟨0, by decide, by show 0 = 0 * _; omega⟩
  | succ k ih =>
    intro h
    obtain ⟨A, hA, e⟩ := ih (by omega)
    rw [p10 (show k ≤ 9 by omega)] at e
    rw [show 10 - (k + 1) = 9 - k from by omega]
    have h2 : A * (2 * 2 ^ (9 - k)) = (2 * A) * 2 ^ (9 - k) := by rw [← Nat.mul_assoc, Nat.mul_comm A 2]
    rw [Nat.pow_succ]
    by_cases hR : R k = -1
    · refine ⟨2 * A, by omega, ?_⟩
      show numT R k + (if R k = -1 then 0 else 2 ^ (9 - k)) = _
      rw [if_pos hR, e, h2]; rfl
    · refine ⟨2 * A + 1, by omega, ?_⟩
      show numT R k + (if R k = -1 then 0 else 2 ^ (9 - k)) = _
      rw [if_neg hR, e, h2, Nat.add_mul, Nat.one_mul]
theorem numT_run (R : Nat → Int32) (a : Nat) : ∀ b, a ≤ b → b ≤ 10 → (∀ k, a ≤ k → k < b → R k ≠ -1) → numT R b + 2 ^ (10 - b) = numT R a + 2 ^ (10 - a) := by
  intro b
  induction b with
  | zero => intro h _ _; rw [show a = 0 from by omega]
  | succ b ih =>
    intro h hb hR
    rcases Nat.lt_or_ge b a with h1 | h1
    · rw [show a = b + 1 from by omega]
    · have h2 := ih h1 (by omega) (fun k hk hk2 => hR k hk (by omega))
      rw [p10 (show b ≤ 9 by omega)] at h2
      rw [show 10 - (b + 1) = 9 - b from by omega]
      show numT R b + (if R b = -1 then 0 else 2 ^ (9 - b)) + 2 ^ (9 - b) = _
      rw [if_neg (hR b h1 (by omega))]
      omega
def lr1 : Nat → Nat → Nat
  | 0, _ => 0
  | f + 1, x => if x % 2 = 1 then 1 + lr1 f (x / 2) else 0
def lr0 : Nat → Nat → Nat
  | 0, _ => 0
  | f + 1, x => if x % 2 = 1 then lr1 11 x else lr0 f (x / 2)
/-- what a question's conflicts may link, up to a number -/
def pS : Nat → Nat
  | 0 => 0
  | x + 1 => pS x + (1 + lr0 11 x)
theorem pS_mono {a : Nat} : ∀ b, a ≤ b → pS a ≤ pS b := by
  intro b
  induction b with
  | zero => intro h; rw [show a = 0 from by omega]; exact Nat.le_refl _
  | succ b ih =>
    intro h
    rcases Nat.lt_or_ge b a with h1 | h1
    · rw [show a = b + 1 from by omega]; exact Nat.le_refl _
    · exact Nat.le_trans (ih h1) (Nat.le_add_right _ _)
set_option maxRecDepth 100000 in
theorem pS_end : pS 1024 ≤ 3060 := by decide +kernel
set_option maxRecDepth 100000 in
theorem lr_fin : ∀ ld, ld < 11 → ∀ len, len < 11 → ld ≤ len → ∀ A, A < 2 ^ (ld - 1) → len - ld ≤ lr0 11 (A * 2 ^ (11 - ld) + 2 ^ (10 - ld) - 2 ^ (10 - len)) := by decide +kernel
theorem lr_run (R : Nat → Int32) {ld len : Nat} (h1 : ld ≤ len) (h2 : len ≤ 10) (hd : ld ≠ 0 → R (ld - 1) = -1) (hR : ∀ k, ld ≤ k → k < len → R k ≠ -1) : len - ld ≤ lr0 11 (numT R len) := by
  have e1 := numT_run R ld len h1 h2 hR
  have e2 : ∃ A, A < 2 ^ (ld - 1) ∧ numT R ld = A * 2 ^ (11 - ld) := by
    rcases Nat.eq_zero_or_pos ld with h0 | h0
    · subst h0
      exact ⟨0, by decide, by show 0 = 0 * _; omega⟩
    · obtain ⟨A, hA, e⟩ := numT_dvd R (ld - 1) (by omega)
      refine ⟨A, hA, ?_⟩
      have h3 : numT R ld = numT R (ld - 1) + (if R (ld - 1) = -1 then 0 else 2 ^ (9 - (ld - 1))) := by
        obtain ⟨k, rfl⟩ : ∃ k, ld = k + 1 := ⟨ld - 1, by omega⟩
        rfl
      rw [h3, if_pos (hd (by omega)), e, show 10 - (ld - 1) = 11 - ld from by omega]
      rfl
  obtain ⟨A, hA, e⟩ := e2
  have h3 := lr_fin ld (by omega) len (by omega) h1 A hA
  rw [show numT R len = A * 2 ^ (11 - ld) + 2 ^ (10 - ld) - 2 ^ (10 - len) from by omega]
  exact h3
