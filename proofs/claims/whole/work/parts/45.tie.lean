/-! Part 45: the class's state beside the reference's, as numbers -/
def lp (x : Int32) : Nat := if 0 < x then (x - 1).toNatClampNeg else (9 - x).toNatClampNeg
def kx (k : Nat) : Int32 := Int32.ofInt ((k : Int) - 10)
set_option maxRecDepth 100000 in
theorem lit_1 : ∀ k, k < 21 → ∀ vn, vn < 11 → LOK vn (kx k) → lp (kx k) < 20 ∧ lp (kx k) % 10 < vn := by decide +kernel
theorem lit_2 : ∀ k, k < 21 → ¬ kx k = 0 → cc_of (kx k) = sb (lp (kx k)) ∧ cc_of (-(kx k)) = sb (cn (lp (kx k))) := by decide +kernel
theorem lit_3 : ∀ k, k < 21 → ¬ kx k = 0 → 0 < kx k → lp (kx k) < 10 ∧ (1 : Int32) <<< ((kx k - 1) &&& 31) = sb (lp (kx k)) := by decide +kernel
theorem lit_4 : ∀ k, k < 21 → ¬ kx k = 0 → ¬ 0 < kx k → 10 ≤ lp (kx k) ∧ (1 : Int32) <<< ((-(kx k) - 1) &&& 31) = sb (lp (kx k) - 10) := by decide +kernel
set_option maxRecDepth 100000 in
theorem itv_all : ∀ k, k < 21 → ∀ v, v < 1024 → ¬ kx k = 0 → (itv (kx k) (nI v) = 0 ↔ mv (fun j => v.testBit j) (lp (kx k)) = false) := by decide +kernel
theorem kx_of {vn : Nat} (hv : vn ≤ 10) {x : Int32} (h : LOK vn x) : ∃ k, k < 21 ∧ x = kx k := by
  obtain ⟨_, h1, h2⟩ := h
  have e : (nI vn).toInt = vn := nI_toInt (by omega)
  have h1 := Int32.le_iff_toInt_le.mp h1
  have h2 := Int32.le_iff_toInt_le.mp h2
  have e2 : (-(nI vn)).toInt = -(vn : Int) := (by decide +kernel : ∀ n, n < 11 → (-(nI n)).toInt = -(n : Int)) vn (by omega)
  rw [e2] at h1
  rw [e] at h2
  refine ⟨(x.toInt + 10).toNat, by omega, ?_⟩
  unfold kx
  rw [show (((x.toInt + 10).toNat : Nat) : Int) - 10 = x.toInt from by omega, Int32.ofInt_toInt]
theorem lit_ok {vn : Nat} (hv : vn ≤ 10) {x : Int32} (h : LOK vn x) : lp x < 20 ∧ lp x % 10 < vn ∧ cc_of x = sb (lp x) ∧ cc_of (-x) = sb (cn (lp x)) ∧ (0 < x → lp x < 10 ∧ (1 : Int32) <<< ((x - 1) &&& 31) = sb (lp x)) ∧ (¬ 0 < x → 10 ≤ lp x ∧ (1 : Int32) <<< ((-x - 1) &&& 31) = sb (lp x - 10)) := by
  obtain ⟨k, hk, e⟩ := kx_of hv h
  subst e
  obtain ⟨a1, a2⟩ := lit_1 k hk vn (by omega) h
  obtain ⟨b1, b2⟩ := lit_2 k hk h.1
  exact ⟨a1, a2, b1, b2, lit_3 k hk h.1, lit_4 k hk h.1⟩
theorem itv_ok {vn : Nat} (hv : vn ≤ 10) {x : Int32} (h : LOK vn x) {v : Nat} (hv2 : v < 1024) : itv x (nI v) = 0 ↔ mv (fun j => v.testBit j) (lp x) = false := by
  obtain ⟨k, hk, e⟩ := kx_of hv h
  subst e
  exact itv_all k hk v hv2 h.1
theorem bt_nI {v : Nat} (h : v < 1024) (j : Nat) : bt (nI v) j = v.testBit j := by
  show (BitVec.ofNat 32 v).getLsbD j = _
  rw [BitVec.getLsbD_ofNat]
  by_cases hj : j < 32
  · rw [decide_eq_true hj, Bool.true_and]
  · rw [decide_eq_false hj, Bool.false_and]
    exact (Nat.testBit_lt_two_pow (Nat.lt_of_lt_of_le h (show 2 ^ 10 ≤ 2 ^ j from Nat.pow_le_pow_right (by omega) (by omega)))).symm
theorem sat_sb {M : Nat → Bool} {l : Nat} (hl : l < 20) : sat M (sb l) ↔ mv M l = true := by
  constructor
  · rintro ⟨i, hi, bi, mi⟩
    rw [b_sb (by omega), decide_eq_true_eq] at bi
    rw [← bi]; exact mi
  · intro h
    exact ⟨l, hl, by rw [b_sb (by omega), decide_eq_true_eq], h⟩
/-- the class's state and the reference's -/
def RL (am : Nat → Int32) (an vn kn : Nat) (tm : Int32) (tn : Nat) (hm mo f0 : Int32) (s : SS) (d : DS) (mo2 tt tf mt mf : Int32) (io : Nat → Int32) (mn : Nat) : Prop :=
  (an ≤ 10) ∧
  (vn ≤ 10) ∧
  (kn ≤ 500) ∧
  (tn ≤ 12) ∧
  (f0 = 0) ∧
  (sn s ≤ 10) ∧
  (dz d = kn) ∧
  (dl d = 0) ∧
  (dO d = 0) ∧
  (∀ i, i < kn → dF d i = -1) ∧
  (CLS vn (dC d) kn) ∧
  (∀ i, i < an → ∃ l, l < 20 ∧ l % 10 < vn ∧ am i = sb l) ∧
  (∀ l, bt tm l = true → l < 20 ∧ l % 10 < vn) ∧
  (∀ j, bt tt j = true ↔ j < 10 ∧ bt tm j = true) ∧
  (∀ j, bt tf j = true ↔ j < 10 ∧ bt tm (j + 10) = true) ∧
  (∀ j, bt mt j = true ↔ j < 10 ∧ ∃ i, i < an ∧ am i = sb j) ∧
  (∀ j, bt mf j = true ↔ j < 10 ∧ ∃ i, i < an ∧ am i = sb (j + 10)) ∧
  (∀ v, v < 1024 → (io v = 0 ↔ ∀ i, i < kn → sat (fun j => v.testBit j) (dC d i))) ∧
  (hm = 0 ↔ mo2 < 0) ∧
  (mn ≤ 10) ∧
  (¬ hm = 0 → mo2 = nI (xo mo mn) ∧ ∀ j, j < 10 → bt mo j = true → j < mn)
theorem RL.an10 {am : Nat → Int32} {an vn kn : Nat} {tm : Int32} {tn : Nat} {hm mo f0 : Int32} {s : SS} {d : DS} {mo2 tt tf mt mf : Int32} {io : Nat → Int32} {mn : Nat} (R : RL am an vn kn tm tn hm mo f0 s d mo2 tt tf mt mf io mn) : an ≤ 10 := R.1
theorem RL.vn10 {am : Nat → Int32} {an vn kn : Nat} {tm : Int32} {tn : Nat} {hm mo f0 : Int32} {s : SS} {d : DS} {mo2 tt tf mt mf : Int32} {io : Nat → Int32} {mn : Nat} (R : RL am an vn kn tm tn hm mo f0 s d mo2 tt tf mt mf io mn) : vn ≤ 10 := R.2.1
theorem RL.kn500 {am : Nat → Int32} {an vn kn : Nat} {tm : Int32} {tn : Nat} {hm mo f0 : Int32} {s : SS} {d : DS} {mo2 tt tf mt mf : Int32} {io : Nat → Int32} {mn : Nat} (R : RL am an vn kn tm tn hm mo f0 s d mo2 tt tf mt mf io mn) : kn ≤ 500 := R.2.2.1
theorem RL.tn12 {am : Nat → Int32} {an vn kn : Nat} {tm : Int32} {tn : Nat} {hm mo f0 : Int32} {s : SS} {d : DS} {mo2 tt tf mt mf : Int32} {io : Nat → Int32} {mn : Nat} (R : RL am an vn kn tm tn hm mo f0 s d mo2 tt tf mt mf io mn) : tn ≤ 12 := R.2.2.2.1
theorem RL.f00 {am : Nat → Int32} {an vn kn : Nat} {tm : Int32} {tn : Nat} {hm mo f0 : Int32} {s : SS} {d : DS} {mo2 tt tf mt mf : Int32} {io : Nat → Int32} {mn : Nat} (R : RL am an vn kn tm tn hm mo f0 s d mo2 tt tf mt mf io mn) : f0 = 0 := R.2.2.2.2.1
theorem RL.sn10 {am : Nat → Int32} {an vn kn : Nat} {tm : Int32} {tn : Nat} {hm mo f0 : Int32} {s : SS} {d : DS} {mo2 tt tf mt mf : Int32} {io : Nat → Int32} {mn : Nat} (R : RL am an vn kn tm tn hm mo f0 s d mo2 tt tf mt mf io mn) : sn s ≤ 10 := R.2.2.2.2.2.1
theorem RL.z {am : Nat → Int32} {an vn kn : Nat} {tm : Int32} {tn : Nat} {hm mo f0 : Int32} {s : SS} {d : DS} {mo2 tt tf mt mf : Int32} {io : Nat → Int32} {mn : Nat} (R : RL am an vn kn tm tn hm mo f0 s d mo2 tt tf mt mf io mn) : dz d = kn := R.2.2.2.2.2.2.1
theorem RL.l {am : Nat → Int32} {an vn kn : Nat} {tm : Int32} {tn : Nat} {hm mo f0 : Int32} {s : SS} {d : DS} {mo2 tt tf mt mf : Int32} {io : Nat → Int32} {mn : Nat} (R : RL am an vn kn tm tn hm mo f0 s d mo2 tt tf mt mf io mn) : dl d = 0 := R.2.2.2.2.2.2.2.1
theorem RL.o {am : Nat → Int32} {an vn kn : Nat} {tm : Int32} {tn : Nat} {hm mo f0 : Int32} {s : SS} {d : DS} {mo2 tt tf mt mf : Int32} {io : Nat → Int32} {mn : Nat} (R : RL am an vn kn tm tn hm mo f0 s d mo2 tt tf mt mf io mn) : dO d = 0 := R.2.2.2.2.2.2.2.2.1
theorem RL.F {am : Nat → Int32} {an vn kn : Nat} {tm : Int32} {tn : Nat} {hm mo f0 : Int32} {s : SS} {d : DS} {mo2 tt tf mt mf : Int32} {io : Nat → Int32} {mn : Nat} (R : RL am an vn kn tm tn hm mo f0 s d mo2 tt tf mt mf io mn) : ∀ i, i < kn → dF d i = -1 := R.2.2.2.2.2.2.2.2.2.1
theorem RL.C {am : Nat → Int32} {an vn kn : Nat} {tm : Int32} {tn : Nat} {hm mo f0 : Int32} {s : SS} {d : DS} {mo2 tt tf mt mf : Int32} {io : Nat → Int32} {mn : Nat} (R : RL am an vn kn tm tn hm mo f0 s d mo2 tt tf mt mf io mn) : CLS vn (dC d) kn := R.2.2.2.2.2.2.2.2.2.2.1
theorem RL.A {am : Nat → Int32} {an vn kn : Nat} {tm : Int32} {tn : Nat} {hm mo f0 : Int32} {s : SS} {d : DS} {mo2 tt tf mt mf : Int32} {io : Nat → Int32} {mn : Nat} (R : RL am an vn kn tm tn hm mo f0 s d mo2 tt tf mt mf io mn) : ∀ i, i < an → ∃ l, l < 20 ∧ l % 10 < vn ∧ am i = sb l := R.2.2.2.2.2.2.2.2.2.2.2.1
theorem RL.T {am : Nat → Int32} {an vn kn : Nat} {tm : Int32} {tn : Nat} {hm mo f0 : Int32} {s : SS} {d : DS} {mo2 tt tf mt mf : Int32} {io : Nat → Int32} {mn : Nat} (R : RL am an vn kn tm tn hm mo f0 s d mo2 tt tf mt mf io mn) : ∀ l, bt tm l = true → l < 20 ∧ l % 10 < vn := R.2.2.2.2.2.2.2.2.2.2.2.2.1
theorem RL.TT {am : Nat → Int32} {an vn kn : Nat} {tm : Int32} {tn : Nat} {hm mo f0 : Int32} {s : SS} {d : DS} {mo2 tt tf mt mf : Int32} {io : Nat → Int32} {mn : Nat} (R : RL am an vn kn tm tn hm mo f0 s d mo2 tt tf mt mf io mn) : ∀ j, bt tt j = true ↔ j < 10 ∧ bt tm j = true := R.2.2.2.2.2.2.2.2.2.2.2.2.2.1
theorem RL.TF {am : Nat → Int32} {an vn kn : Nat} {tm : Int32} {tn : Nat} {hm mo f0 : Int32} {s : SS} {d : DS} {mo2 tt tf mt mf : Int32} {io : Nat → Int32} {mn : Nat} (R : RL am an vn kn tm tn hm mo f0 s d mo2 tt tf mt mf io mn) : ∀ j, bt tf j = true ↔ j < 10 ∧ bt tm (j + 10) = true := R.2.2.2.2.2.2.2.2.2.2.2.2.2.2.1
theorem RL.MT {am : Nat → Int32} {an vn kn : Nat} {tm : Int32} {tn : Nat} {hm mo f0 : Int32} {s : SS} {d : DS} {mo2 tt tf mt mf : Int32} {io : Nat → Int32} {mn : Nat} (R : RL am an vn kn tm tn hm mo f0 s d mo2 tt tf mt mf io mn) : ∀ j, bt mt j = true ↔ j < 10 ∧ ∃ i, i < an ∧ am i = sb j := R.2.2.2.2.2.2.2.2.2.2.2.2.2.2.2.1
theorem RL.MF {am : Nat → Int32} {an vn kn : Nat} {tm : Int32} {tn : Nat} {hm mo f0 : Int32} {s : SS} {d : DS} {mo2 tt tf mt mf : Int32} {io : Nat → Int32} {mn : Nat} (R : RL am an vn kn tm tn hm mo f0 s d mo2 tt tf mt mf io mn) : ∀ j, bt mf j = true ↔ j < 10 ∧ ∃ i, i < an ∧ am i = sb (j + 10) := R.2.2.2.2.2.2.2.2.2.2.2.2.2.2.2.2.1
theorem RL.IO {am : Nat → Int32} {an vn kn : Nat} {tm : Int32} {tn : Nat} {hm mo f0 : Int32} {s : SS} {d : DS} {mo2 tt tf mt mf : Int32} {io : Nat → Int32} {mn : Nat} (R : RL am an vn kn tm tn hm mo f0 s d mo2 tt tf mt mf io mn) : ∀ v, v < 1024 → (io v = 0 ↔ ∀ i, i < kn → sat (fun j => v.testBit j) (dC d i)) := R.2.2.2.2.2.2.2.2.2.2.2.2.2.2.2.2.2.1
theorem RL.HM {am : Nat → Int32} {an vn kn : Nat} {tm : Int32} {tn : Nat} {hm mo f0 : Int32} {s : SS} {d : DS} {mo2 tt tf mt mf : Int32} {io : Nat → Int32} {mn : Nat} (R : RL am an vn kn tm tn hm mo f0 s d mo2 tt tf mt mf io mn) : hm = 0 ↔ mo2 < 0 := R.2.2.2.2.2.2.2.2.2.2.2.2.2.2.2.2.2.2.1
theorem RL.MN {am : Nat → Int32} {an vn kn : Nat} {tm : Int32} {tn : Nat} {hm mo f0 : Int32} {s : SS} {d : DS} {mo2 tt tf mt mf : Int32} {io : Nat → Int32} {mn : Nat} (R : RL am an vn kn tm tn hm mo f0 s d mo2 tt tf mt mf io mn) : mn ≤ 10 := R.2.2.2.2.2.2.2.2.2.2.2.2.2.2.2.2.2.2.2.1
theorem RL.MO {am : Nat → Int32} {an vn kn : Nat} {tm : Int32} {tn : Nat} {hm mo f0 : Int32} {s : SS} {d : DS} {mo2 tt tf mt mf : Int32} {io : Nat → Int32} {mn : Nat} (R : RL am an vn kn tm tn hm mo f0 s d mo2 tt tf mt mf io mn) : ¬ hm = 0 → mo2 = nI (xo mo mn) ∧ ∀ j, j < 10 → bt mo j = true → j < mn := R.2.2.2.2.2.2.2.2.2.2.2.2.2.2.2.2.2.2.2.2
theorem RL_mk {am : Nat → Int32} {an vn kn : Nat} {tm : Int32} {tn : Nat} {hm mo f0 : Int32} {s : SS} {d : DS} {mo2 tt tf mt mf : Int32} {io : Nat → Int32} {mn : Nat} (h_an10 : an ≤ 10) (h_vn10 : vn ≤ 10) (h_kn500 : kn ≤ 500) (h_tn12 : tn ≤ 12) (h_f00 : f0 = 0) (h_sn10 : sn s ≤ 10) (h_z : dz d = kn) (h_l : dl d = 0) (h_o : dO d = 0) (h_F : ∀ i, i < kn → dF d i = -1) (h_C : CLS vn (dC d) kn) (h_A : ∀ i, i < an → ∃ l, l < 20 ∧ l % 10 < vn ∧ am i = sb l) (h_T : ∀ l, bt tm l = true → l < 20 ∧ l % 10 < vn) (h_TT : ∀ j, bt tt j = true ↔ j < 10 ∧ bt tm j = true) (h_TF : ∀ j, bt tf j = true ↔ j < 10 ∧ bt tm (j + 10) = true) (h_MT : ∀ j, bt mt j = true ↔ j < 10 ∧ ∃ i, i < an ∧ am i = sb j) (h_MF : ∀ j, bt mf j = true ↔ j < 10 ∧ ∃ i, i < an ∧ am i = sb (j + 10)) (h_IO : ∀ v, v < 1024 → (io v = 0 ↔ ∀ i, i < kn → sat (fun j => v.testBit j) (dC d i))) (h_HM : hm = 0 ↔ mo2 < 0) (h_MN : mn ≤ 10) (h_MO : ¬ hm = 0 → mo2 = nI (xo mo mn) ∧ ∀ j, j < 10 → bt mo j = true → j < mn) : RL am an vn kn tm tn hm mo f0 s d mo2 tt tf mt mf io mn := ⟨h_an10, h_vn10, h_kn500, h_tn12, h_f00, h_sn10, h_z, h_l, h_o, h_F, h_C, h_A, h_T, h_TT, h_TF, h_MT, h_MF, h_IO, h_HM, h_MN, h_MO⟩
theorem RL_0 : RL (fun _ => 0) 0 0 0 0 0 0 0 0 (fun _ => 0, fun _ => 0, 0, 0) (fun _ => 0, fun _ => 0, fun _ => 0, fun _ => 0, 0, 0, 0) (-1) 0 0 0 0 (fun _ => 0) 0 :=
  RL_mk (h_an10 := by omega)
    (h_vn10 := by omega)
    (h_kn500 := by omega)
    (h_tn12 := by omega)
    (h_f00 := rfl)
    (h_sn10 := Nat.zero_le _)
    (h_z := rfl)
    (h_l := rfl)
    (h_o := rfl)
    (h_F := fun i h => absurd h (by omega))
    (h_C := fun i h => absurd h (by omega))
    (h_A := fun i h => absurd h (by omega))
    (h_T := fun l h => by rw [b_0] at h; exact Bool.noConfusion h)
    (h_TT := fun j => by rw [b_0]; simp)
    (h_TF := fun j => by rw [b_0, b_0]; simp)
    (h_MT := fun j => by
    rw [b_0]
    constructor
    · intro h; exact Bool.noConfusion h
    · rintro ⟨_, i, hi, _⟩; exact absurd hi (by omega))
    (h_MF := fun j => by
    rw [b_0]
    constructor
    · intro h; exact Bool.noConfusion h
    · rintro ⟨_, i, hi, _⟩; exact absurd hi (by omega))
    (h_IO := fun v hv => ⟨fun _ i hi => absurd hi (by omega), fun _ => rfl⟩)
    (h_HM := ⟨fun _ => by decide +kernel, fun _ => rfl⟩)
    (h_MN := by omega)
    (h_MO := fun h => absurd rfl h)
section
variable {am : Nat → Int32} {an vn kn : Nat} {tm : Int32} {tn : Nat} {hm mo f0 : Int32} {s : SS} {d : DS} {mo2 tt tf mt mf : Int32} {io : Nat → Int32} {mn : Nat}
theorem RL.qw (R : RL am an vn kn tm tn hm mo f0 s d mo2 tt tf mt mf io mn) : DW d := by
  have h1 := R.z
  have h2 := R.l
  have h3 := R.kn500
  exact ⟨by omega, by omega⟩
theorem RL_variable (R : RL am an vn kn tm tn hm mo f0 s d mo2 tt tf mt mf io mn) (h : vn < 10) : RL am an (vn + 1) kn tm tn hm mo f0 s d mo2 tt tf mt mf io mn :=
  RL_mk (h_an10 := R.an10) (h_vn10 := by omega) (h_kn500 := R.kn500) (h_tn12 := R.tn12) (h_f00 := R.f00) (h_sn10 := R.sn10) (h_z := R.z) (h_l := R.l) (h_o := R.o) (h_F := R.F) (h_C := fun i hi l hl => by have := R.C i hi l hl; omega) (h_A := fun i hi => by
      obtain ⟨l, h1, h2, h3⟩ := R.A i hi
      exact ⟨l, h1, by omega, h3⟩) (h_T := fun l hl => by have := R.T l hl; omega) (h_TT := R.TT) (h_TF := R.TF) (h_MT := R.MT) (h_MF := R.MF) (h_IO := R.IO) (h_HM := R.HM) (h_MN := R.MN) (h_MO := R.MO)
theorem RL_literal (R : RL am an vn kn tm tn hm mo f0 s d mo2 tt tf mt mf io mn) {x : Int32} (hx : LOK vn x) (ht : tn < 12) : RL am an vn kn (tm ||| cc_of x) (tn + 1) hm mo f0 s d mo2 (if 0 < x then tt ||| (1 <<< ((x - 1) &&& 31)) else tt) (if 0 < x then tf else tf ||| (1 <<< ((-x - 1) &&& 31))) mt mf io mn := by
  obtain ⟨h1, h2, h3, _, h5, h6⟩ := lit_ok R.vn10 hx
  have hb : ∀ j, bt (tm ||| cc_of x) j = true ↔ bt tm j = true ∨ j = lp x := by
    intro j
    rw [h3, b_or, Bool.or_eq_true, b_sb (by omega), decide_eq_true_eq]
  refine RL_mk (h_an10 := R.an10) (h_vn10 := R.vn10) (h_kn500 := R.kn500) (h_tn12 := by omega) (h_f00 := R.f00) (h_sn10 := R.sn10) (h_z := R.z) (h_l := R.l) (h_o := R.o) (h_F := R.F) (h_C := R.C) (h_A := R.A) (h_T := ?_) (h_TT := ?_) (h_TF := ?_) (h_MT := R.MT) (h_MF := R.MF) (h_IO := R.IO) (h_HM := R.HM) (h_MN := R.MN) (h_MO := R.MO)
  · intro l hl
    rcases (hb l).1 hl with h | h
    · exact R.T l h
    · rw [h]; exact ⟨h1, h2⟩
  · intro j
    rw [hb]
    by_cases c : 0 < x
    · obtain ⟨c1, c2⟩ := h5 c
      rw [if_pos c, c2, b_or, Bool.or_eq_true, b_sb (by omega), decide_eq_true_eq, R.TT]
      constructor
      · rintro (⟨a, b⟩ | a)
        · exact ⟨a, Or.inl b⟩
        · exact ⟨by omega, Or.inr a⟩
      · rintro ⟨a, b | b⟩
        · exact Or.inl ⟨a, b⟩
        · exact Or.inr b
    · obtain ⟨c1, c2⟩ := h6 c
      rw [if_neg c, R.TT]
      constructor
      · rintro ⟨a, b⟩; exact ⟨a, Or.inl b⟩
      · rintro ⟨a, b | b⟩
        · exact ⟨a, b⟩
        · exact absurd b (by omega)
  · intro j
    rw [hb]
    by_cases c : 0 < x
    · obtain ⟨c1, c2⟩ := h5 c
      rw [if_pos c, R.TF]
      constructor
      · rintro ⟨a, b⟩; exact ⟨a, Or.inl b⟩
      · rintro ⟨a, b | b⟩
        · exact ⟨a, b⟩
        · exact absurd b (by omega)
    · obtain ⟨c1, c2⟩ := h6 c
      rw [if_neg c, c2, b_or, Bool.or_eq_true, b_sb (by omega), decide_eq_true_eq, R.TF]
      constructor
      · rintro (⟨a, b⟩ | a)
        · exact ⟨a, Or.inl b⟩
        · exact ⟨by omega, Or.inr (by omega)⟩
      · rintro ⟨a, b | b⟩
        · exact Or.inl ⟨a, b⟩
        · exact Or.inr (by omega)
theorem RL_assume (R : RL am an vn kn tm tn hm mo f0 s d mo2 tt tf mt mf io mn) {x : Int32} (hx : LOK vn x) (ht : an < 10) : RL (upd am an (cc_of x)) (an + 1) vn kn tm tn hm mo f0 s d mo2 tt tf (if 0 < x then mt ||| (1 <<< ((x - 1) &&& 31)) else mt) (if 0 < x then mf else mf ||| (1 <<< ((-x - 1) &&& 31))) io mn := by
  obtain ⟨h1, h2, h3, _, h5, h6⟩ := lit_ok R.vn10 hx
  have hb : ∀ j, j < 20 → ((∃ i, i < an + 1 ∧ upd am an (cc_of x) i = sb j) ↔ (∃ i, i < an ∧ am i = sb j) ∨ j = lp x) := by
    intro j hj
    constructor
    · rintro ⟨i, hi, e⟩
      by_cases c : i = an
      · subst c
        rw [pk_us, h3] at e
        exact Or.inr (sb_inj (by omega) (by omega) e).symm
      · rw [pk_un c] at e
        exact Or.inl ⟨i, by omega, e⟩
    · rintro (⟨i, hi, e⟩ | e)
      · exact ⟨i, by omega, by rw [pk_un (by omega)]; exact e⟩
      · exact ⟨an, by omega, by rw [pk_us, h3, e]⟩
  refine RL_mk (h_an10 := by omega) (h_vn10 := R.vn10) (h_kn500 := R.kn500) (h_tn12 := R.tn12) (h_f00 := R.f00) (h_sn10 := R.sn10) (h_z := R.z) (h_l := R.l) (h_o := R.o) (h_F := R.F) (h_C := R.C) (h_A := ?_) (h_T := R.T) (h_TT := R.TT) (h_TF := R.TF) (h_MT := ?_) (h_MF := ?_) (h_IO := R.IO) (h_HM := R.HM) (h_MN := R.MN) (h_MO := R.MO)
  · intro i hi
    by_cases c : i = an
    · subst c
      exact ⟨lp x, h1, h2, by rw [pk_us, h3]⟩
    · rw [pk_un c]; exact R.A i (by omega)
  · intro j
    by_cases hj : j < 10
    · rw [hb j (by omega)]
      by_cases c : 0 < x
      · obtain ⟨c1, c2⟩ := h5 c
        rw [if_pos c, c2, b_or, Bool.or_eq_true, b_sb (by omega), decide_eq_true_eq, R.MT]
        constructor
        · rintro (⟨a, b⟩ | a)
          · exact ⟨a, Or.inl b⟩
          · exact ⟨by omega, Or.inr a⟩
        · rintro ⟨a, b | b⟩
          · exact Or.inl ⟨a, b⟩
          · exact Or.inr b
      · obtain ⟨c1, c2⟩ := h6 c
        rw [if_neg c, R.MT]
        constructor
        · rintro ⟨a, b⟩; exact ⟨a, Or.inl b⟩
        · rintro ⟨a, b | b⟩
          · exact ⟨a, b⟩
          · exact absurd b (by omega)
    · constructor
      · intro h
        exfalso
        by_cases c : 0 < x
        · obtain ⟨c1, c2⟩ := h5 c
          rw [if_pos c, c2, b_or, Bool.or_eq_true, b_sb (by omega), decide_eq_true_eq, R.MT] at h
          rcases h with h | h
          · exact hj h.1
          · omega
        · rw [if_neg c, R.MT] at h
          exact hj h.1
      · intro h; exact absurd h.1 hj
  · intro j
    by_cases hj : j < 10
    · rw [hb (j + 10) (by omega)]
      by_cases c : 0 < x
      · obtain ⟨c1, c2⟩ := h5 c
        rw [if_pos c, R.MF]
        constructor
        · rintro ⟨a, b⟩; exact ⟨a, Or.inl b⟩
        · rintro ⟨a, b | b⟩
          · exact ⟨a, b⟩
          · exact absurd b (by omega)
      · obtain ⟨c1, c2⟩ := h6 c
        rw [if_neg c, c2, b_or, Bool.or_eq_true, b_sb (by omega), decide_eq_true_eq, R.MF]
        constructor
        · rintro (⟨a, b⟩ | a)
          · exact ⟨a, Or.inl b⟩
          · exact ⟨by omega, Or.inr (by omega)⟩
        · rintro ⟨a, b | b⟩
          · exact Or.inl ⟨a, b⟩
          · exact Or.inr (by omega)
    · constructor
      · intro h
        exfalso
        by_cases c : 0 < x
        · rw [if_pos c, R.MF] at h
          exact hj h.1
        · obtain ⟨c1, c2⟩ := h6 c
          rw [if_neg c, c2, b_or, Bool.or_eq_true, b_sb (by omega), decide_eq_true_eq, R.MF] at h
          rcases h with h | h
          · exact hj h.1
          · omega
      · intro h; exact absurd h.1 hj
theorem RL_close (R : RL am an vn kn tm tn hm mo f0 s d mo2 tt tf mt mf io mn) (hk : kn < 500) : RL am an vn (kn + 1) 0 0 hm mo f0 s (dk_give d tm) mo2 0 0 mt mf (clo io tt tf 1024) mn := by
  have hz := R.z
  have e := give_eq (d := d) (by omega) tm
  have eC : ∀ i, dC (dk_give d tm) i = if i = kn then tm else dC d i := by
    intro i
    rw [e, ← hz]
    show upd (dC d) (dz d) tm i = _
    by_cases c : i = dz d
    · subst c; rw [pk_us, if_pos rfl]
    · rw [pk_un c, if_neg c]
  refine RL_mk (h_an10 := R.an10) (h_vn10 := R.vn10) (h_kn500 := by omega) (h_tn12 := by omega) (h_f00 := R.f00) (h_sn10 := R.sn10) (h_z := by rw [e]; show dz d + 1 = kn + 1; omega) (h_l := by rw [e]; exact R.l) (h_o := by rw [e]; exact R.o) (h_F := ?_) (h_C := ?_) (h_A := R.A) (h_T := fun l h => by rw [b_0] at h; exact Bool.noConfusion h) (h_TT := fun j => by rw [b_0]; simp) (h_TF := fun j => by rw [b_0, b_0]; simp) (h_MT := R.MT) (h_MF := R.MF) (h_IO := ?_) (h_HM := R.HM) (h_MN := R.MN) (h_MO := R.MO)
  · intro i hi
    rw [e]
    show upd (dF d) (dz d) (-1) i = -1
    by_cases c : i = dz d
    · subst c; exact pk_us
    · rw [pk_un c]; exact R.F i (by omega)
  · intro i hi l hl
    rw [eC] at hl
    by_cases c : i = kn
    · rw [if_pos c] at hl; exact R.T l hl
    · rw [if_neg c] at hl; exact R.C i (by omega) l hl
  · intro v hv
    have hc : (nI v &&& tt = 0 ∧ (nI v ^^^ (-1)) &&& tf = 0) ↔ ¬ sat (fun j => v.testBit j) tm := by
      rw [b_eq0, b_eq0]
      constructor
      · rintro ⟨h1, h2⟩ ⟨i, hi, bi, mi⟩
        unfold mv at mi
        by_cases c : i < 10
        · rw [if_pos c] at mi
          have h3 := h1 i
          rw [b_and, bt_nI hv, (R.TT i).2 ⟨c, bi⟩, Bool.and_true] at h3
          have mi : v.testBit i = true := mi
          rw [mi] at h3
          exact Bool.noConfusion h3
        · rw [if_neg c] at mi
          have h3 := h2 (i - 10)
          rw [b_and, b_not _ (by omega), bt_nI hv, (R.TF (i - 10)).2 ⟨by omega, by rw [show i - 10 + 10 = i from by omega]; exact bi⟩, Bool.and_true] at h3
          have mi : (!v.testBit (i - 10)) = true := mi
          rw [mi] at h3
          exact Bool.noConfusion h3
      · intro hno
        constructor
        · intro i
          rw [b_and, bt_nI hv]
          cases h1 : bt tt i with
          | false => rw [Bool.and_false]
          | true =>
            obtain ⟨a, b⟩ := (R.TT i).1 h1
            cases h2 : v.testBit i with
            | false => rfl
            | true => exact (hno ⟨i, by omega, b, by unfold mv; rw [if_pos a]; exact h2⟩).elim
        · intro i
          rw [b_and]
          cases h1 : bt tf i with
          | false => rw [Bool.and_false]
          | true =>
            obtain ⟨a, b⟩ := (R.TF i).1 h1
            rw [b_not _ (by omega), bt_nI hv]
            cases h2 : v.testBit i with
            | true => rfl
            | false => exact (hno ⟨i + 10, by omega, b, by unfold mv; rw [if_neg (by omega), show i + 10 - 10 = i from by omega]; show (!v.testBit i) = true; rw [h2]; rfl⟩).elim
    have hall : (∀ i, i < kn + 1 → sat (fun j => v.testBit j) (dC (dk_give d tm) i)) ↔ sat (fun j => v.testBit j) tm ∧ ∀ i, i < kn → sat (fun j => v.testBit j) (dC d i) := by
      constructor
      · intro h
        refine ⟨?_, fun i hi => ?_⟩
        · have := h kn (by omega)
          rw [eC, if_pos rfl] at this
          exact this
        · have := h i (by omega)
          rw [eC, if_neg (by omega)] at this
          exact this
      · rintro ⟨h1, h2⟩ i hi
        rw [eC]
        by_cases c : i = kn
        · rw [if_pos c]; exact h1
        · rw [if_neg c]; exact h2 i (by omega)
    rw [hall]
    unfold clo
    by_cases c : nI v &&& tt = 0 ∧ (nI v ^^^ (-1)) &&& tf = 0
    · rw [if_pos ⟨hv, c⟩]
      constructor
      · intro h; exact absurd h (by decide +kernel)
      · intro h; exact absurd h.1 (hc.1 c)
    · rw [if_neg (fun h => c h.2), R.IO v hv]
      constructor
      · intro h; exact ⟨Classical.byContradiction (fun h2 => c (hc.2 h2)), h⟩
      · intro h; exact h.2
/-- the given clauses hold at a number -/
def SG (d : DS) (n y : Nat) : Prop := ∀ i, i < dz d → dF d i = -1 → sat (AS y n) (dC d i)
/-- the first k clauses stand -/
def PRE (k : Nat) (d d' : DS) : Prop := k ≤ dz d' ∧ ∀ i, i < k → dC d' i = dC d i ∧ dF d' i = dF d i
theorem PRE_give {k : Nat} {d d' : DS} (h : PRE k d d') (c : Int32) : PRE k d (dk_give d' c) := by
  obtain ⟨h1, h2⟩ := h
  unfold dk_give dk_append
  split
  · refine ⟨by show k ≤ dz d' + 1; omega, fun i hi => ?_⟩
    show upd (dC d') (dz d') c i = dC d i ∧ upd (dF d') (dz d') (-1) i = dF d i
    rw [pk_un (by omega), pk_un (by omega)]
    exact h2 i hi
  · exact ⟨h1, h2⟩
theorem PRE_ext {k : Nat} {d d' e : DS} (h : PRE k d d') (hx : EXT d' e) : PRE k d e := by
  obtain ⟨h1, h2⟩ := h
  obtain ⟨x1, x2, _⟩ := hx
  refine ⟨by omega, fun i hi => ?_⟩
  have h3 := x2 i (by omega)
  have h4 := h2 i hi
  exact ⟨h3.1.trans h4.1, h3.2.trans h4.2⟩
theorem PRE_gv (am : Nat → Int32) {k : Nat} {d : DS} : ∀ (m i : Nat) (d' : DS), PRE k d d' → PRE k d (gv am m i d') := by
  intro m
  induction m with
  | zero => intro i d' h; exact h
  | succ m ih => intro i d' h; exact ih (i + 1) _ (PRE_give h _)
theorem gv_ok (am : Nat → Int32) : ∀ (m i : Nat) (d : DS), dz d + m ≤ 1575 → dz (gv am m i d) = dz d + m ∧ dl (gv am m i d) = dl d ∧ dO (gv am m i d) = dO d ∧ (∀ j, j < dz d → dC (gv am m i d) j = dC d j ∧ dF (gv am m i d) j = dF d j) ∧ ∀ j, j < m → dC (gv am m i d) (dz d + j) = am (i + j) ∧ dF (gv am m i d) (dz d + j) = -1 := by
  intro m
  induction m with
  | zero => intro i d h; exact ⟨rfl, rfl, rfl, fun _ _ => ⟨rfl, rfl⟩, fun j hj => absurd hj (by omega)⟩
  | succ m ih =>
    intro i d h
    have e := give_eq (d := d) (by omega) (am i)
    show dz (gv am m (i + 1) (dk_give d (am i))) = _ ∧ dl (gv am m (i + 1) (dk_give d (am i))) = _ ∧ dO (gv am m (i + 1) (dk_give d (am i))) = _ ∧ (∀ j, j < dz d → dC (gv am m (i + 1) (dk_give d (am i))) j = _ ∧ dF (gv am m (i + 1) (dk_give d (am i))) j = _) ∧ ∀ j, j < m + 1 → dC (gv am m (i + 1) (dk_give d (am i))) (dz d + j) = _ ∧ dF (gv am m (i + 1) (dk_give d (am i))) (dz d + j) = _
    have hI := ih (i + 1) (dk_give d (am i)) (by rw [e]; show dz d + 1 + m ≤ 1575; omega)
    generalize gv am m (i + 1) (dk_give d (am i)) = G at hI ⊢
    rw [e] at hI
    obtain ⟨i1, i2, i3, i4, i5⟩ := hI
    have i1 : dz G = dz d + 1 + m := i1
    refine ⟨by omega, i2, i3, fun j hj => ?_, fun j hj => ?_⟩
    · have h1 := i4 j (by show j < dz d + 1; omega)
      have a1 : dC G j = upd (dC d) (dz d) (am i) j := h1.1
      have a2 : dF G j = upd (dF d) (dz d) (-1) j := h1.2
      rw [pk_un (by omega)] at a1 a2
      exact ⟨a1, a2⟩
    · rcases Nat.eq_zero_or_pos j with h0 | h0
      · subst h0
        have h1 := i4 (dz d) (by show dz d < dz d + 1; omega)
        have a1 : dC G (dz d) = upd (dC d) (dz d) (am i) (dz d) := h1.1
        have a2 : dF G (dz d) = upd (dF d) (dz d) (-1) (dz d) := h1.2
        rw [pk_us] at a1 a2
        exact ⟨a1, a2⟩
      · have h1 := i5 (j - 1) (by omega)
        have a1 : dC G (dz d + 1 + (j - 1)) = am (i + 1 + (j - 1)) := h1.1
        have a2 : dF G (dz d + 1 + (j - 1)) = -1 := h1.2
        rw [show dz d + 1 + (j - 1) = dz d + j from by omega] at a1 a2
        rw [show i + 1 + (j - 1) = i + j from by omega] at a1
        exact ⟨a1, a2⟩
/-- a question begins -/
theorem FI_start {n : Nat} {d : DS} {T R : Nat → Int32} {g : Nat} (hC : CLS n (dC d) (dz d)) (hg : dz d ≤ g) (hl : dl d = 0) (ho : dO d = 0) (hF : ∀ i, i < dz d → dF d i = -1) : FI n d (T, R, 0, 0) (fun _ => 0) 0 g := by
  refine ⟨⟨hC, by omega, by rw [hl]; exact Nat.zero_le _, by rw [hl, ho], fun i hi => Or.inl (hF i hi), fun M hM i hi => hM i hi (hF i hi)⟩, ⟨fun k hk => absurd hk (Nat.not_lt_zero _), fun j k hj => absurd hj (Nat.not_lt_zero _), fun i => ?_, fun k hk => absurd hk (Nat.not_lt_zero _), fun k hk => absurd hk (Nat.not_lt_zero _)⟩, fun k hk => absurd hk (Nat.not_lt_zero _), Or.inl (Nat.zero_le _), by omega⟩
  show bt 0 i = true ↔ _
  rw [b_0]
  constructor
  · intro h; exact Bool.noConfusion h
  · rintro ⟨k, hk, _⟩; exact absurd hk (Nat.not_lt_zero _)
theorem RL.qg (R : RL am an vn kn tm tn hm mo f0 s d mo2 tt tf mt mf io mn) : dz (gv am an 0 d) = kn + an ∧ dl (gv am an 0 d) = 0 ∧ dO (gv am an 0 d) = 0 ∧ (∀ i, i < kn + an → dF (gv am an 0 d) i = -1) ∧ CLS vn (dC (gv am an 0 d)) (kn + an) ∧ PRE kn d (gv am an 0 d) := by
  have h1 := R.z
  have h2 := R.kn500
  have h3 := R.an10
  obtain ⟨g1, g2, g3, g4, g5⟩ := gv_ok am an 0 d (by omega)
  rw [h1] at g1 g4 g5
  refine ⟨g1, by rw [g2]; exact R.l, by rw [g3]; exact R.o, fun i hi => ?_, fun i hi l hl => ?_, ⟨by omega, g4⟩⟩
  · rcases Nat.lt_or_ge i kn with h | h
    · rw [(g4 i h).2]; exact R.F i h
    · have := (g5 (i - kn) (by omega)).2
      rw [show kn + (i - kn) = i from by omega] at this
      exact this
  · rcases Nat.lt_or_ge i kn with h | h
    · rw [(g4 i h).1] at hl; exact R.C i h l hl
    · have := (g5 (i - kn) (by omega)).1
      rw [show kn + (i - kn) = i from by omega, show 0 + (i - kn) = i - kn from by omega] at this
      rw [this] at hl
      obtain ⟨m, m1, m2, m3⟩ := R.A (i - kn) (by omega)
      rw [m3, b_sb (by omega), decide_eq_true_eq] at hl
      subst hl
      exact ⟨m1, m2⟩
theorem RL.qf (R : RL am an vn kn tm tn hm mo f0 s d mo2 tt tf mt mf io mn) : FI vn (gv am an 0 d) (sT s, sR s, 0, 0) (fun _ => 0) 0 510 := by
  obtain ⟨g1, g2, g3, g4, g5, _⟩ := R.qg
  have h2 := R.kn500
  have h3 := R.an10
  exact FI_start (by rw [g1]; exact g5) (by omega) g2 g3 (by rw [g1]; exact g4)
theorem rv_AS (x n : Nat) : (fun j => (rv x n).testBit j) = AS x n := funext fun j => rv_bit x n j
theorem RL.qp (R : RL am an vn kn tm tn hm mo f0 s d mo2 tt tf mt mf io mn) (y : Nat) : rmB io mt mf (rv y vn) = true ↔ SG (gv am an 0 d) vn y := by
  have h1 := R.z
  have h2 := R.kn500
  have h3 := R.an10
  have hv : rv y vn < 1024 := rv_1024 R.vn10
  obtain ⟨g1, g2, g3, g4, g5⟩ := gv_ok am an 0 d (by omega)
  rw [h1] at g1 g4 g5
  rw [rmB_iff, R.IO _ hv, rv_AS]
  have hbit : ∀ j, bt (nI (rv y vn)) j = AS y vn j := fun j => by rw [bt_nI hv, rv_bit]
  constructor
  · rintro ⟨p1, p2, p3⟩ i hi _
    rw [g1] at hi
    rcases Nat.lt_or_ge i kn with h | h
    · rw [(g4 i h).1]; exact p1 i h
    · have e := (g5 (i - kn) (by omega)).1
      rw [show kn + (i - kn) = i from by omega, show 0 + (i - kn) = i - kn from by omega] at e
      obtain ⟨m, m1, m2, m3⟩ := R.A (i - kn) (by omega)
      rw [e, m3, sat_sb m1]
      unfold mv
      by_cases c : m < 10
      · rw [if_pos c]
        have h4 := (R.MT m).2 ⟨c, i - kn, by omega, m3⟩
        have h5 : bt (nI (rv y vn) &&& mt) m = true := by rw [p2]; exact h4
        rw [b_and, Bool.and_eq_true, hbit] at h5
        exact h5.1
      · rw [if_neg c]
        have h4 := (R.MF (m - 10)).2 ⟨by omega, i - kn, by omega, by rw [show m - 10 + 10 = m from by omega]; exact m3⟩
        have h5 := b_eq0.1 p3 (m - 10)
        rw [b_and, h4, Bool.and_true, hbit] at h5
        rw [h5]; rfl
  · intro h
    refine ⟨fun i hi => ?_, ?_, ?_⟩
    · have := h i (by omega) (by rw [(g4 i hi).2]; exact R.F i hi)
      rw [(g4 i hi).1] at this
      exact this
    · apply b_ext
      intro j hj
      rw [b_and, hbit]
      cases hb : bt mt j with
      | false => rw [Bool.and_false]
      | true =>
        obtain ⟨c, i, hi, e⟩ := (R.MT j).1 hb
        have h4 := h (kn + i) (by omega) (g5 i hi).2
        rw [(g5 i hi).1, Nat.zero_add, e, sat_sb (by omega)] at h4
        unfold mv at h4
        rw [if_pos c] at h4
        rw [h4]; rfl
    · rw [b_eq0]
      intro j
      rw [b_and, hbit]
      cases hb : bt mf j with
      | false => rw [Bool.and_false]
      | true =>
        obtain ⟨c, i, hi, e⟩ := (R.MF j).1 hb
        have h4 := h (kn + i) (by omega) (g5 i hi).2
        rw [(g5 i hi).1, Nat.zero_add, e, sat_sb (by omega)] at h4
        unfold mv at h4
        rw [if_neg (by omega), show j + 10 - 10 = j from by omega] at h4
        cases ha : AS y vn j with
        | false => rfl
        | true => rw [ha] at h4; exact Bool.noConfusion h4
end
/-- what a search answers, as numbers -/
theorem find_num {n g : Nat} {d : DS} {s : SS} {t : Nat → Nat} {L : Nat} (hn : n ≤ 10) (hg : g ≤ 551) (h : FI n d s t L g) {r : Bool} {d2 : DS} {s2 : SS} (e : sr_find n 100000 d s = (r, d2, s2)) :
    EXT d d2 ∧ (r = true → SG d n (xo (sh s2) n) ∧ (∀ y, SG d n y → xo (sh s2) n ≤ y) ∧ (∀ j, j < 10 → bt (sh s2) j = true → j < n) ∧ (g ≤ 550 → (∃ t2 L2, FI n (dk_give d2 (cc_neg (sh s2))) s2 t2 L2 (g + 1)) ∧ ∀ y, y < 2 ^ n → (SG (dk_give d2 (cc_neg (sh s2))) n y ↔ SG d n y ∧ y ≠ xo (sh s2) n))) ∧ (r = false → ∀ y, ¬ SG d n y) := by
  obtain ⟨hE, hr⟩ := find_ok hn hg 100000 d s t L h (by omega)
  rw [e] at hE hr
  have hE : EXT d d2 := hE
  obtain ⟨x1, x2, x3⟩ := hE
  have hgiv : ∀ y, SG d n y ↔ SG d2 n y := by
    intro y
    constructor
    · intro hy i hi hf
      rcases Nat.lt_or_ge i (dz d) with h1 | h1
      · have h2 := x2 i h1
        rw [h2.1]; exact hy i h1 (by rw [← h2.2]; exact hf)
      · exact absurd hf (x3 i h1 hi)
    · intro hy i hi hf
      have h2 := x2 i hi
      rw [← h2.1]
      exact hy i (by omega) (by rw [h2.2]; exact hf)
  refine ⟨⟨x1, x2, x3⟩, fun hT => ?_, fun hT => ?_⟩
  · rcases hr with ⟨_, t2, L2, hF⟩ | ⟨e2, _⟩
    · have hF : FT n d2 s2 t2 L2 g := hF
      have hF0 := hF
      obtain ⟨D, H, hN, hL, hL2, hful, hnb⟩ := hF
      have H2 := H
      rw [hful] at H2
      have hnum : ∀ v, v < n → mOf (sh s2) v = AS (xo (sh s2) n) n v := fun v hv => (AS_xo hv).symm
      refine ⟨?_, ?_, ?_, ?_⟩
      · rw [hgiv]
        intro i hi _
        have h1 := (model_ok H2 D.1 hi (by have := hnb i hi; rw [hful] at this; exact this)).1
        exact sat_congr (D.1 i hi) hnum h1
      · intro y hy
        rw [hgiv] at hy
        exact least_num hn H2 (fun j hj => D.2.2.2.2.2 (AS y n) (fun i hi hf => hy i hi hf) j hj)
      · intro j hj hb
        obtain ⟨k, hk, ek⟩ := (H.2.2.1 j).1 hb
        have := (H.1 k hk).2.1
        omega
      · intro hg5
        obtain ⟨b1, b2⟩ := block_ok hg5 hn hF0
        refine ⟨⟨t2, L2, b1⟩, fun y hy => ?_⟩
        rw [← block_num hn H2 hy, hgiv]
        rw [b2]
        constructor
        · intro hs
          have hs : ∀ i, i < dz d2 + 1 → upd (dF d2) (dz d2) (-1) i = -1 → sat (AS y n) (upd (dC d2) (dz d2) (cc_neg (sh s2)) i) := hs
          refine ⟨fun i hi hf => ?_, ?_⟩
          · have h1 := hs i (by omega) (by rw [pk_un (by omega)]; exact hf)
            rw [pk_un (by omega)] at h1
            exact h1
          · have h1 := hs (dz d2) (by omega) pk_us
            rw [pk_us] at h1
            exact h1
        · rintro ⟨h1, h2⟩
          show ∀ i, i < dz d2 + 1 → upd (dF d2) (dz d2) (-1) i = -1 → sat (AS y n) (upd (dC d2) (dz d2) (cc_neg (sh s2)) i)
          intro i hi hf
          by_cases c : i = dz d2
          · subst c; rw [pk_us]; exact h2
          · rw [pk_un c] at hf ⊢
            exact h1 i (by omega) hf
    · have e2 : r = false := e2
      rw [hT] at e2; exact Bool.noConfusion e2
  · rcases hr with ⟨e2, _⟩ | ⟨_, L2, hF⟩
    · have e2 : r = true := e2
      rw [hT] at e2; exact Bool.noConfusion e2
    · intro y hy
      rw [hgiv] at hy
      exact none_ok hF (M := AS y n) (fun i hi hf => hy i hi hf)
theorem slv_at {P : Nat → Bool} {y : Nat} : ∀ (m x : Nat), x ≤ y → y < x + m → P y = true → (∀ z, x ≤ z → z < y → P z ≠ true) → slv P m x = nI y := by
  intro m
  induction m with
  | zero => intro x h1 h2; exact absurd h2 (by omega)
  | succ m ih =>
    intro x h1 h2 h3 h4
    rw [slv_s]
    by_cases c : x = y
    · subst c; rw [if_pos h3]
    · rw [if_neg (h4 x (Nat.le_refl _) (by omega))]
      exact ih (x + 1) (by omega) (by omega) h3 (fun z hz => h4 z (by omega))
theorem slv_no {P : Nat → Bool} : ∀ (m x : Nat), (∀ z, x ≤ z → z < x + m → P z ≠ true) → slv P m x = -1 := by
  intro m
  induction m with
  | zero => intro x _; rfl
  | succ m ih =>
    intro x h
    rw [slv_s, if_neg (h x (Nat.le_refl _) (by omega))]
    exact ih (x + 1) (fun z h1 h2 => h z (by omega) (by omega))
theorem fol_0 {P : Nat → Bool} {T : Nat → Int32} : ∀ (m x : Nat), fol P T m x 0 = 0 := by
  intro m
  induction m with
  | zero => intro x; rfl
  | succ m ih =>
    intro x
    rw [fol_s, show (if P x = true ∧ T x = 0 then (0 : Int32) else 0) = 0 from by split <;> rfl]
    exact ih (x + 1)
theorem fol_at {P : Nat → Bool} {T : Nat → Int32} {y : Nat} : ∀ (m x : Nat) (a : Int32), x ≤ y → y < x + m → P y = true ∧ T y = 0 → fol P T m x a = 0 := by
  intro m
  induction m with
  | zero => intro x a h1 h2; exact absurd h2 (by omega)
  | succ m ih =>
    intro x a h1 h2 h3
    rw [fol_s]
    by_cases c : x = y
    · subst c; rw [if_pos h3]; exact fol_0 _ _
    · exact ih (x + 1) _ (by omega) (by omega) h3
theorem fol_no {P : Nat → Bool} {T : Nat → Int32} : ∀ (m x : Nat) (a : Int32), (∀ z, x ≤ z → z < x + m → ¬ (P z = true ∧ T z = 0)) → fol P T m x a = a := by
  intro m
  induction m with
  | zero => intro x a _; rfl
  | succ m ih =>
    intro x a h
    rw [fol_s, if_neg (h x (Nat.le_refl _) (by omega))]
    exact ih (x + 1) a (fun z h1 h2 => h z (by omega) (by omega))
theorem mol_40 {P : Nat → Bool} : ∀ (m x : Nat), mol P m x 40 = 40 := by
  intro m x
  cases m with
  | zero => rfl
  | succ m => rw [mol_s, if_pos (Nat.le_refl _)]
theorem mol_no {P : Nat → Bool} : ∀ (m x c : Nat), (∀ z, x ≤ z → z < x + m → P z ≠ true) → mol P m x c = c := by
  intro m
  induction m with
  | zero => intro x c _; rfl
  | succ m ih =>
    intro x c h
    rw [mol_s]
    split
    · rfl
    · rw [if_neg (h x (Nat.le_refl _) (by omega))]
      exact ih (x + 1) c (fun z h1 h2 => h z (by omega) (by omega))
theorem mol_at {P : Nat → Bool} {y : Nat} : ∀ (m x c : Nat), c < 40 → x ≤ y → y < x + m → P y = true → (∀ z, x ≤ z → z < y → P z ≠ true) → mol P m x c = mol P (x + m - (y + 1)) (y + 1) (c + 1) := by
  intro m
  induction m with
  | zero => intro x c _ h1 h2; exact absurd h2 (by omega)
  | succ m ih =>
    intro x c hc h1 h2 h3 h4
    rw [mol_s, if_neg (by omega)]
    by_cases e : x = y
    · subst e
      rw [if_pos h3, show x + (m + 1) - (x + 1) = m from by omega]
    · rw [if_neg (h4 x (Nat.le_refl _) (by omega)), ih (x + 1) c hc (by omega) (by omega) h3 (fun z hz => h4 z (by omega)), show x + 1 + m - (y + 1) = x + (m + 1) - (y + 1) from by omega]
theorem md_num {n : Nat} (hn : n ≤ 10) {k0 : Nat} {d0 : DS} {P : Nat → Bool} : ∀ (k c : Nat) (d : DS) (s : SS) (t : Nat → Nat) (L g x : Nat), c + k = 40 → g + k ≤ 551 → FI n d s t L g → PRE k0 d0 d → sn s ≤ 10 → x ≤ 2 ^ n → (∀ y, y < 2 ^ n → (SG d n y ↔ P y = true ∧ x ≤ y)) →
    (md n k c d s).1 = mol P (2 ^ n - x) x c ∧ PRE k0 d0 (md n k c d s).2.1 ∧ sn (md n k c d s).2.2 ≤ 10 := by
  intro k
  induction k with
  | zero =>
    intro c d s t L g x hc _ _ hp hs _ _
    have hc : c = 40 := by omega
    subst hc
    exact ⟨(mol_40 _ _).symm, hp, hs⟩
  | succ k ih =>
    intro c d s t L g x hc hg hF hp hs hx hS
    have hle := find_le (n := n) 100000 d hs
    rw [md_s]
    generalize e : sr_find n 100000 d s = F at hle ⊢
    obtain ⟨r, d2, s2⟩ := F
    obtain ⟨hE, hT, hN⟩ := find_num hn (by omega) hF e
    cases r with
    | true =>
      rw [if_pos rfl]
      obtain ⟨h1, h2, _, h4⟩ := hT rfl
      obtain ⟨⟨t2, L2, hF2⟩, hS2⟩ := h4 (by omega)
      have hlt := xo_lt (sh s2) n
      obtain ⟨p1, p2⟩ := (hS _ hlt).1 h1
      rw [mol_at (y := xo (sh s2) n) (2 ^ n - x) x c (by omega) p2 (by omega) p1 (fun z hz1 hz2 hz3 => by
        have := h2 z ((hS z (by omega)).2 ⟨hz3, hz1⟩)
        omega), show x + (2 ^ n - x) - (xo (sh s2) n + 1) = 2 ^ n - (xo (sh s2) n + 1) from by omega]
      refine ih (c + 1) _ s2 t2 L2 (g + 1) (xo (sh s2) n + 1) (by omega) (by omega) hF2 (PRE_give (PRE_ext hp hE) _) hle (by omega) (fun y hy => ?_)
      rw [hS2 y hy]
      constructor
      · rintro ⟨q1, q2⟩
        have := h2 y q1
        exact ⟨((hS y hy).1 q1).1, by omega⟩
      · rintro ⟨q1, q2⟩
        exact ⟨(hS y hy).2 ⟨q1, by omega⟩, by omega⟩
    | false =>
      rw [if_neg (fun h : (false, d2, s2).1 = true => Bool.noConfusion h)]
      refine ⟨(mol_no _ _ _ (fun z h1 h2 h3 => hN rfl z ((hS z (by omega)).2 ⟨h3, h1⟩))).symm, PRE_ext hp hE, hle⟩
section
variable {am : Nat → Int32} {an vn kn : Nat} {tm : Int32} {tn : Nat} {hm mo f0 : Int32} {s : SS} {d : DS} {mo2 tt tf mt mf : Int32} {io : Nat → Int32} {mn : Nat}
/-- a question ends -/
theorem RL_end (R : RL am an vn kn tm tn hm mo f0 s d mo2 tt tf mt mf io mn) {d2 : DS} {s2 : SS} (hp : PRE kn d d2) (hs : sn s2 ≤ 10) {hm' mo' mo2' : Int32} {mn' : Nat} (h1 : hm' = 0 ↔ mo2' < 0) (h2 : mn' ≤ 10) (h3 : ¬ hm' = 0 → mo2' = nI (xo mo' mn') ∧ ∀ j, j < 10 → bt mo' j = true → j < mn') :
    RL am 0 vn kn tm tn hm' mo' f0 s2 (dk_keep d2 kn) mo2' tt tf 0 0 io mn' := by
  obtain ⟨p1, p2⟩ := hp
  have eC : ∀ i, i < kn → dC (dk_keep d2 kn) i = dC d i := fun i hi => (p2 i hi).1
  have eF : ∀ i, i < kn → dF (dk_keep d2 kn) i = dF d i := fun i hi => (p2 i hi).2
  refine RL_mk (h_an10 := by omega) (h_vn10 := R.vn10) (h_kn500 := R.kn500) (h_tn12 := R.tn12) (h_f00 := R.f00) (h_sn10 := hs) (h_z := ?_) (h_l := rfl) (h_o := rfl) (h_F := fun i hi => by rw [eF i hi]; exact R.F i hi) (h_C := fun i hi l hl => by rw [eC i hi] at hl; exact R.C i hi l hl) (h_A := fun i h => absurd h (by omega)) (h_T := R.T) (h_TT := R.TT) (h_TF := R.TF) (h_MT := fun j => ?_) (h_MF := fun j => ?_) (h_IO := fun v hv => ?_) (h_HM := h1) (h_MN := h2) (h_MO := h3)
  · show (if dz d2 ≤ kn then dz d2 else kn) = kn
    split <;> omega
  · rw [b_0]
    constructor
    · intro h; exact Bool.noConfusion h
    · rintro ⟨_, i, hi, _⟩; exact absurd hi (by omega)
  · rw [b_0]
    constructor
    · intro h; exact Bool.noConfusion h
    · rintro ⟨_, i, hi, _⟩; exact absurd hi (by omega)
  · rw [R.IO v hv]
    constructor
    · intro h i hi; rw [eC i hi]; exact h i hi
    · intro h i hi; have := h i hi; rw [eC i hi] at this; exact this
theorem nI_nn {y : Nat} (h : y < 1024) : ¬ nI y < 0 := fun hl => by
  have := Int32.lt_iff_toInt_lt.mp hl
  rw [nI_toInt (by omega), show (0 : Int32).toInt = 0 from by decide +kernel] at this
  omega
theorem RL_solve (R : RL am an vn kn tm tn hm mo f0 s d mo2 tt tf mt mf io mn) :
    (if (sr_find vn 100000 (gv am an 0 d) (sT s, sR s, 0, 0)).1 = true then (1 : Int32) else 0) = (if slv (fun x => rmB io mt mf (rv x vn)) (2 ^ vn) 0 < 0 then 0 else 1) ∧
    RL am 0 vn kn tm tn (if (sr_find vn 100000 (gv am an 0 d) (sT s, sR s, 0, 0)).1 = true then 1 else 0) (if (sr_find vn 100000 (gv am an 0 d) (sT s, sR s, 0, 0)).1 = true then sh (sr_find vn 100000 (gv am an 0 d) (sT s, sR s, 0, 0)).2.2 else 0) f0 (sr_find vn 100000 (gv am an 0 d) (sT s, sR s, 0, 0)).2.2 (dk_keep (sr_find vn 100000 (gv am an 0 d) (sT s, sR s, 0, 0)).2.1 kn) (slv (fun x => rmB io mt mf (rv x vn)) (2 ^ vn) 0) tt tf 0 0 io vn := by
  have hn := R.vn10
  have hle := find_le (n := vn) 100000 (gv am an 0 d) (s := (sT s, sR s, 0, 0)) (Nat.zero_le _)
  have hp := R.qg.2.2.2.2.2
  have hP := R.qp
  have hF := R.qf
  generalize e : sr_find vn 100000 (gv am an 0 d) (sT s, sR s, 0, 0) = F at hle ⊢
  obtain ⟨r, d2, s2⟩ := F
  obtain ⟨hE, hT, hN⟩ := find_num hn (by omega) hF e
  cases r with
  | true =>
    obtain ⟨h1, h2, h3, _⟩ := hT rfl
    have hlt := xo_lt (sh s2) vn
    have hpw := pw_le hn
    have es : slv (fun x => rmB io mt mf (rv x vn)) (2 ^ vn) 0 = nI (xo (sh s2) vn) := by
      refine slv_at (2 ^ vn) 0 (Nat.zero_le _) (by omega) ((hP _).2 h1) (fun z _ hz hc => ?_)
      have := h2 z ((hP z).1 hc)
      omega
    rw [es, if_pos rfl, if_pos rfl, if_neg (nI_nn (by omega))]
    refine ⟨rfl, RL_end R (PRE_ext hp hE) hle ⟨fun h => absurd h (by decide +kernel), fun h => absurd h (nI_nn (by omega))⟩ hn (fun _ => ⟨rfl, h3⟩)⟩
  | false =>
    have es : slv (fun x => rmB io mt mf (rv x vn)) (2 ^ vn) 0 = -1 := slv_no (2 ^ vn) 0 (fun z _ _ hc => hN rfl z ((hP z).1 hc))
    rw [es, if_neg (fun h : (false, d2, s2).1 = true => Bool.noConfusion h), if_pos (show (-1 : Int32) < 0 from by decide +kernel), if_neg (fun h : (false, d2, s2).1 = true => Bool.noConfusion h)]
    exact ⟨rfl, RL_end R (PRE_ext hp hE) hle ⟨fun _ => by decide +kernel, fun _ => rfl⟩ hn (fun h => absurd rfl h)⟩
theorem RL_models (R : RL am an vn kn tm tn hm mo f0 s d mo2 tt tf mt mf io mn) :
    (md vn 40 0 (gv am an 0 d) (sT s, sR s, 0, 0)).1 = mol (fun z => rmB io mt mf (rv z vn)) (2 ^ vn) 0 0 ∧
    RL am 0 vn kn tm tn 0 0 f0 (md vn 40 0 (gv am an 0 d) (sT s, sR s, 0, 0)).2.2 (dk_keep (md vn 40 0 (gv am an 0 d) (sT s, sR s, 0, 0)).2.1 kn) (-1) tt tf 0 0 io mn := by
  obtain ⟨h1, h2, h3⟩ := md_num R.vn10 (k0 := kn) (d0 := d) (P := fun z => rmB io mt mf (rv z vn)) 40 0 (gv am an 0 d) (sT s, sR s, 0, 0) _ 0 510 0 (by omega) (by omega) R.qf R.qg.2.2.2.2.2 (Nat.zero_le _) (Nat.zero_le _) (fun y _ => ⟨fun h => ⟨(R.qp y).2 h, Nat.zero_le _⟩, fun h => (R.qp y).1 h.1⟩)
  exact ⟨h1, RL_end R h2 h3 ⟨fun _ => by decide +kernel, fun _ => rfl⟩ R.MN (fun h => absurd rfl h)⟩
theorem RL.qh (R : RL am an vn kn tm tn hm mo f0 s d mo2 tt tf mt mf io mn) {x : Int32} (hx : LOK vn x) : FI vn (dk_give (gv am an 0 d) (cc_of (-x))) (sT s, sR s, 0, 0) (fun _ => 0) 0 511 ∧ ∀ y, SG (dk_give (gv am an 0 d) (cc_of (-x))) vn y ↔ SG (gv am an 0 d) vn y ∧ mv (AS y vn) (lp x) = false := by
  obtain ⟨g1, g2, g3, g4, g5, _⟩ := R.qg
  have h2 := R.kn500
  have h3 := R.an10
  obtain ⟨l1, l2, _, l4, _⟩ := lit_ok R.vn10 hx
  generalize gv am an 0 d = G at *
  have e := give_eq (d := G) (by omega) (cc_of (-x))
  have hcn := cn_lt l1
  rw [e, l4]
  refine ⟨FI_start ?_ ?_ g2 g3 ?_, fun y => ?_⟩
  · intro i hi l hl
    have hi : i < dz G + 1 := hi
    have hl : bt (upd (dC G) (dz G) (sb (cn (lp x))) i) l = true := hl
    by_cases c : i = dz G
    · subst c
      rw [pk_us, b_sb (by omega), decide_eq_true_eq] at hl
      subst hl
      exact ⟨hcn, by rw [cn_var l1]; exact l2⟩
    · rw [pk_un c] at hl
      exact g5 i (by omega) l hl
  · show dz G + 1 ≤ 511
    omega
  · intro i hi
    have hi : i < dz G + 1 := hi
    show upd (dF G) (dz G) (-1) i = -1
    by_cases c : i = dz G
    · subst c; exact pk_us
    · rw [pk_un c]; exact g4 i (by omega)
  · have hq : mv (AS y vn) (lp x) = false ↔ sat (AS y vn) (sb (cn (lp x))) := by
      rw [sat_sb hcn, mv_cn l1]
      cases mv (AS y vn) (lp x) <;> simp
    rw [hq]
    constructor
    · intro hs
      have hs : ∀ i, i < dz G + 1 → upd (dF G) (dz G) (-1) i = -1 → sat (AS y vn) (upd (dC G) (dz G) (sb (cn (lp x))) i) := hs
      refine ⟨fun i hi hf => ?_, ?_⟩
      · have h1 := hs i (by omega) (by rw [pk_un (by omega)]; exact hf)
        rw [pk_un (by omega)] at h1
        exact h1
      · have h1 := hs (dz G) (by omega) pk_us
        rw [pk_us] at h1
        exact h1
    · rintro ⟨h1, h2⟩
      show ∀ i, i < dz G + 1 → upd (dF G) (dz G) (-1) i = -1 → sat (AS y vn) (upd (dC G) (dz G) (sb (cn (lp x))) i)
      intro i hi hf
      by_cases c : i = dz G
      · subst c; rw [pk_us]; exact h2
      · rw [pk_un c] at hf ⊢
        exact h1 i (by omega) hf
theorem RL_follows (R : RL am an vn kn tm tn hm mo f0 s d mo2 tt tf mt mf io mn) {x : Int32} (hx : LOK vn x) :
    (if (sr_find vn 100000 (dk_give (gv am an 0 d) (cc_of (-x))) (sT s, sR s, 0, 0)).1 = true then (0 : Int32) else 1) = fol (fun z => rmB io mt mf (rv z vn)) (fun z => itv x (nI (rv z vn))) (2 ^ vn) 0 1 ∧
    RL am 0 vn kn tm tn 0 0 f0 (sr_find vn 100000 (dk_give (gv am an 0 d) (cc_of (-x))) (sT s, sR s, 0, 0)).2.2 (dk_keep (sr_find vn 100000 (dk_give (gv am an 0 d) (cc_of (-x))) (sT s, sR s, 0, 0)).2.1 kn) (-1) tt tf 0 0 io mn := by
  have hn := R.vn10
  have hle := find_le (n := vn) 100000 (dk_give (gv am an 0 d) (cc_of (-x))) (s := (sT s, sR s, 0, 0)) (Nat.zero_le _)
  have hp := PRE_give R.qg.2.2.2.2.2 (cc_of (-x))
  have hP := R.qp
  obtain ⟨hF, hS⟩ := R.qh hx
  have hI : ∀ y, itv x (nI (rv y vn)) = 0 ↔ mv (AS y vn) (lp x) = false := fun y => by
    rw [itv_ok hn hx (rv_1024 hn), rv_AS]
  generalize e : sr_find vn 100000 (dk_give (gv am an 0 d) (cc_of (-x))) (sT s, sR s, 0, 0) = F at hle ⊢
  obtain ⟨r, d2, s2⟩ := F
  obtain ⟨hE, hT, hN⟩ := find_num hn (by omega) hF e
  have hend : RL am 0 vn kn tm tn 0 0 f0 s2 (dk_keep d2 kn) (-1) tt tf 0 0 io mn := RL_end R (PRE_ext hp hE) hle ⟨fun _ => by decide +kernel, fun _ => rfl⟩ R.MN (fun h => absurd rfl h)
  cases r with
  | true =>
    obtain ⟨h1, _⟩ := hT rfl
    have hlt := xo_lt (sh s2) vn
    obtain ⟨q1, q2⟩ := (hS _).1 h1
    rw [if_pos rfl, fol_at (y := xo (sh s2) vn) (2 ^ vn) 0 1 (Nat.zero_le _) (by omega) ⟨(hP _).2 q1, (hI _).2 q2⟩]
    exact ⟨rfl, hend⟩
  | false =>
    rw [if_neg (fun h : (false, d2, s2).1 = true => Bool.noConfusion h), fol_no (2 ^ vn) 0 1 (fun z _ _ hc => hN rfl z ((hS z).2 ⟨(hP z).1 hc.1, (hI z).1 hc.2⟩))]
    exact ⟨rfl, hend⟩
theorem RL_value (R : RL am an vn kn tm tn hm mo f0 s d mo2 tt tf mt mf io mn) {x : Int32} (h1 : ¬ x < 1) (h2 : x ≤ nI vn) (h3 : ¬ hm = 0) :
    (if mo &&& cc_of x = 0 then (0 : Int32) else 1) = (if x ≤ nI mn ∧ ¬ (mo2 >>> ((nI mn - x) &&& 31)) &&& 1 = 0 then 1 else 0) := by
  have hn := R.vn10
  have hmn := R.MN
  obtain ⟨e2, hb⟩ := R.MO h3
  have hk : ∃ k, 1 ≤ k ∧ k ≤ 10 ∧ x = nI k := by
    have a1 : (1 : Int) ≤ x.toInt := by
      have : ¬ x.toInt < (1 : Int32).toInt := fun h => h1 (Int32.lt_iff_toInt_lt.mpr h)
      rw [show (1 : Int32).toInt = 1 from by decide +kernel] at this
      omega
    have a2 := Int32.le_iff_toInt_le.mp h2
    rw [nI_toInt (by omega)] at a2
    refine ⟨x.toInt.toNat, by omega, by omega, ?_⟩
    apply Int32.toInt_inj.mp
    rw [nI_toInt (by omega)]
    omega
  obtain ⟨k, k1, k2, ex⟩ := hk
  have hcc : cc_of x = sb (k - 1) := by
    rw [ex]
    exact (by decide +kernel : ∀ k, k < 11 → 1 ≤ k → cc_of (nI k) = sb (k - 1)) k (by omega) k1
  have hand : mo &&& cc_of x = 0 ↔ bt mo (k - 1) = false := by
    rw [hcc, b_eq0]
    constructor
    · intro h
      have := h (k - 1)
      rw [b_and, b_sb (by omega), decide_eq_true rfl, Bool.and_true] at this
      exact this
    · intro h i
      rw [b_and, b_sb (by omega)]
      by_cases c : i = k - 1
      · rw [c, h, Bool.false_and]
      · rw [decide_eq_false c, Bool.and_false]
  have hle : x ≤ nI mn ↔ k ≤ mn := by
    rw [ex, Int32.le_iff_toInt_le, nI_toInt (by omega), nI_toInt (by omega)]
    omega
  by_cases c : k ≤ mn
  · have hpw := pw_le hmn
    have hlt := xo_lt mo mn
    have e3 : nI mn - x = nI (mn - k) := by
      rw [ex]
      exact (by decide +kernel : ∀ m, m < 11 → ∀ k, k < 11 → k ≤ m → nI m - nI k = nI (m - k)) mn (by omega) k (by omega) c
    have e4 : (mo2 >>> ((nI mn - x) &&& 31)) &&& 1 = nI (xo mo mn / 2 ^ (mn - k) % 2 ^ 1) := by
      rw [e3, e2, pk_shrN (by omega) _ (mn - k) (s_l (mn - k) (by omega))]
      have := Nat.div_le_self (xo mo mn) (2 ^ (mn - k))
      exact pk_andN (by omega) 1 (by decide +kernel)
    have e5 : (xo mo mn).testBit (mn - k) = bt mo (k - 1) := by
      rw [xo_bit, decide_eq_true (by omega), Bool.true_and, show mn - 1 - (mn - k) = k - 1 from by omega]
    rw [Nat.testBit_eq_decide_div_mod_eq] at e5
    have h2l : xo mo mn / 2 ^ (mn - k) % 2 ^ 1 < 2 := Nat.mod_lt _ (by decide)
    cases hbb : bt mo (k - 1) with
    | false =>
      rw [hbb, decide_eq_false_iff_not] at e5
      have e6 : xo mo mn / 2 ^ (mn - k) % 2 ^ 1 = 0 := by
        have : xo mo mn / 2 ^ (mn - k) % 2 ^ 1 ≠ 1 := e5
        omega
      rw [if_pos (hand.2 hbb), if_neg]
      rintro ⟨_, h⟩
      apply h
      rw [e4, e6]
      rfl
    | true =>
      rw [hbb, decide_eq_true_eq] at e5
      have e6 : xo mo mn / 2 ^ (mn - k) % 2 ^ 1 = 1 := e5
      rw [if_neg (fun h => by have := hand.1 h; rw [hbb] at this; exact Bool.noConfusion this), if_pos]
      refine ⟨hle.2 c, ?_⟩
      rw [e4, e6]
      decide +kernel
  · have hbb : bt mo (k - 1) = false := by
      cases h : bt mo (k - 1) with
      | false => rfl
      | true => exact absurd (hb (k - 1) (by omega) h) (by omega)
    rw [if_pos (hand.2 hbb), if_neg (fun h => c (hle.1 h.1))]
theorem RL_count (R : RL am an vn kn tm tn hm mo f0 s d mo2 tt tf mt mf io mn) (x : Int32) : cnt an vn kn tn hm f0 x = cntm an vn kn tn mo2 x := by
  have h := R.HM
  unfold cnt cntm
  rw [R.f00]
  by_cases c : hm = 0
  · rw [if_pos c, if_pos (h.1 c)]
  · rw [if_neg c, if_neg (fun hc => c (h.2 hc))]
end
