/-! Part 23: the trail, and what a sweep keeps. t k: the literal at place k -/
def tu (t : Nat → Nat) (k l : Nat) : Nat → Nat := fun j => if j = k then l else t j
theorem tu_s {t : Nat → Nat} {k l : Nat} : tu t k l k = l := if_pos rfl
theorem tu_n {t : Nat → Nat} {k l j : Nat} (h : j ≠ k) : tu t k l j = t j := if_neg h
def TR (n : Nat) (C : Nat → Int32) (z : Nat) (T R : Nat → Int32) (len : Nat) (h : Int32) (t : Nat → Nat) : Prop :=
  (∀ k, k < len → t k < 20 ∧ t k % 10 < n ∧ T k = sb (t k)) ∧
  (∀ j k, j < len → k < len → t j % 10 = t k % 10 → j = k) ∧
  (∀ i, bt h i = true ↔ ∃ k, k < len ∧ t k = i) ∧
  (∀ k, k < len → R k = -1 → 10 ≤ t k ∧ ∀ v, v < t k - 10 → ∃ j, j < k ∧ t j % 10 = v) ∧
  (∀ k, k < len → R k ≠ -1 → ∃ r, R k = nI r ∧ r < z ∧ bt (C r) (t k) = true ∧ ∀ i, bt (C r) i = true → i ≠ t k → ∃ j, j < k ∧ t j = cn i)
/-- every literal of clause i is denied before place k -/
def BRK (C : Nat → Int32) (t : Nat → Nat) (k i : Nat) : Prop := ∀ l, bt (C i) l = true → ∃ j, j < k ∧ t j = cn l
/-- ahead of a decision nothing was broken -/
def NBR (C : Nat → Int32) (z : Nat) (R : Nat → Int32) (len : Nat) (t : Nat → Nat) : Prop := ∀ k, k < len → R k = -1 → ∀ i, i < z → ¬ BRK C t k i
def CLS (n : Nat) (C : Nat → Int32) (z : Nat) : Prop := ∀ i, i < z → ∀ l, bt (C i) l = true → l < 20 ∧ l % 10 < n
def UNIT (C : Nat → Int32) (t : Nat → Nat) (k u : Nat) : Prop := ∃ l, l < 20 ∧ bt (C u) l = true ∧ (∀ j, j < k → t j % 10 ≠ l % 10) ∧ ∀ i, bt (C u) i = true → i ≠ l → ∃ j, j < k ∧ t j = cn i
def PND (C : Nat → Int32) (z i L : Nat) (R : Nat → Int32) (len : Nat) (t : Nat → Nat) : Prop :=
  L ≤ numT R len ∨ (len ≤ 9 ∧ L ≤ numT R len + 2 ^ (9 - len) ∧ (∀ j, j < z → ¬ BRK C t len j) ∧ ∃ u, i ≤ u ∧ u < z ∧ UNIT C t len u)
theorem TR_len {n : Nat} {C : Nat → Int32} {z : Nat} {T R : Nat → Int32} {len : Nat} {h : Int32} {t : Nat → Nat} (H : TR n C z T R len h t) : len ≤ n ∧ (len = n → ∀ v, v < n → ∃ k, k < len ∧ t k % 10 = v) :=
  php n len (fun k => t k % 10) (fun k hk => (H.1 k hk).2.1) (fun j k hj hk e => H.2.1 j k hj hk e)
/-- two places of one variable, one literal the other's opposite: never -/
theorem TR_opp {n : Nat} {C : Nat → Int32} {z : Nat} {T R : Nat → Int32} {len : Nat} {h : Int32} {t : Nat → Nat} (H : TR n C z T R len h t) {j k : Nat} (hj : j < len) (hk : k < len) (e : t j = cn (t k)) : False := by
  have h1 := (H.1 k hk).1
  have h2 := H.2.1 j k hj hk (by rw [e, cn_var h1])
  subst h2
  exact cn_ne h1 e.symm
theorem TR_hold {n : Nat} {C : Nat → Int32} {z : Nat} {T R : Nat → Int32} {len : Nat} {h : Int32} {t : Nat → Nat} (H : TR n C z T R len h t) {l : Nat} {r : Int32} (hl : l < 20) (hv : l % 10 < n) (hf : ∀ k, k < len → t k % 10 ≠ l % 10)
    (hr : (r = -1 ∧ 10 ≤ l ∧ ∀ v, v < l - 10 → ∃ j, j < len ∧ t j % 10 = v) ∨ (r ≠ -1 ∧ ∃ q, r = nI q ∧ q < z ∧ bt (C q) l = true ∧ ∀ i, bt (C q) i = true → i ≠ l → ∃ j, j < len ∧ t j = cn i)) :
    len < n ∧ TR n C z (upd T len (sb l)) (upd R len r) (len + 1) (h ||| sb l) (tu t len l) := by
  obtain ⟨H1, H2, H3, H4, H5⟩ := H
  have A1 : ∀ k, k < len + 1 → tu t len l k < 20 ∧ tu t len l k % 10 < n ∧ upd T len (sb l) k = sb (tu t len l k) := by
    intro k hk
    by_cases e : k = len
    · subst e; rw [tu_s, pk_us]; exact ⟨hl, hv, rfl⟩
    · rw [tu_n e, pk_un e]; exact H1 k (by omega)
  have A2 : ∀ j k, j < len + 1 → k < len + 1 → tu t len l j % 10 = tu t len l k % 10 → j = k := by
    intro j k hj hk e
    by_cases ej : j = len <;> by_cases ek : k = len
    · omega
    · subst ej; rw [tu_s, tu_n ek] at e; exact absurd e.symm (hf k (by omega))
    · subst ek; rw [tu_s, tu_n ej] at e; exact absurd e (hf j (by omega))
    · rw [tu_n ej, tu_n ek] at e; exact H2 j k (by omega) (by omega) e
  have hp := (php n (len + 1) (fun k => tu t len l k % 10) (fun k hk => (A1 k hk).2.1) (fun j k hj hk e => A2 j k hj hk e)).1
  refine ⟨by omega, A1, A2, ?_, ?_, ?_⟩
  · intro i
    rw [b_or, Bool.or_eq_true, H3 i, b_sb (by omega), decide_eq_true_eq]
    constructor
    · rintro (⟨k, hk, e⟩ | e)
      · exact ⟨k, by omega, by rw [tu_n (by omega)]; exact e⟩
      · exact ⟨len, by omega, by rw [tu_s]; exact e.symm⟩
    · rintro ⟨k, hk, e⟩
      by_cases ek : k = len
      · subst ek; rw [tu_s] at e; exact Or.inr e.symm
      · rw [tu_n ek] at e; exact Or.inl ⟨k, by omega, e⟩
  · intro k hk e
    by_cases ek : k = len
    · subst ek
      rw [pk_us] at e
      rw [tu_s]
      rcases hr with ⟨_, h1, h2⟩ | ⟨h1, _⟩
      · refine ⟨h1, fun v hv2 => ?_⟩
        obtain ⟨j, hj, ej⟩ := h2 v hv2
        exact ⟨j, hj, by rw [tu_n (by omega)]; exact ej⟩
      · exact absurd e h1
    · rw [pk_un ek] at e
      rw [tu_n ek]
      obtain ⟨h1, h2⟩ := H4 k (by omega) e
      refine ⟨h1, fun v hv2 => ?_⟩
      obtain ⟨j, hj, ej⟩ := h2 v hv2
      exact ⟨j, hj, by rw [tu_n (by omega)]; exact ej⟩
  · intro k hk e
    by_cases ek : k = len
    · subst ek
      rw [pk_us] at e ⊢
      rw [tu_s]
      rcases hr with ⟨h1, _⟩ | ⟨_, q, hq, hqz, hb, h2⟩
      · exact absurd h1 e
      · refine ⟨q, hq, hqz, hb, fun i hi hne => ?_⟩
        obtain ⟨j, hj, ej⟩ := h2 i hi hne
        exact ⟨j, hj, by rw [tu_n (by omega)]; exact ej⟩
    · rw [pk_un ek] at e ⊢
      rw [tu_n ek]
      obtain ⟨q, hq, hqz, hb, h2⟩ := H5 k (by omega) e
      refine ⟨q, hq, hqz, hb, fun i hi hne => ?_⟩
      obtain ⟨j, hj, ej⟩ := h2 i hi hne
      exact ⟨j, hj, by rw [tu_n (by omega)]; exact ej⟩
theorem b_open {c h : Int32} {l : Nat} : bt (cc_open c h) l = true ↔ bt c l = true ∧ ¬ (l < 20 ∧ bt h (cn l) = true) := by
  unfold cc_open
  rw [b_diff, Bool.and_eq_true, ← b_negI]
  simp
theorem b_and0 {c h : Int32} : c &&& h = 0 ↔ ∀ l, bt c l = true → bt h l = true → False := by
  rw [b_eq0]
  constructor
  · intro H l h1 h2
    have h3 := H l
    rw [b_and, h1, h2] at h3
    exact absurd h3 (by decide)
  · intro H l
    rw [b_and]
    cases h1 : bt c l with
    | false => rfl
    | true =>
      cases h2 : bt h l with
      | false => rfl
      | true => exact (H l h1 h2).elim
theorem singleB_iff {x : Int32} : cc_singleB x = true ↔ cc_single x := by
  unfold cc_singleB cc_single
  rw [Bool.and_eq_true, decide_eq_true_eq, decide_eq_true_eq]
theorem den_iff {n : Nat} {C : Nat → Int32} {z : Nat} {T R : Nat → Int32} {len : Nat} {h : Int32} {t : Nat → Nat} (H : TR n C z T R len h t) {l : Nat} (hl : l < 20) : (l < 20 ∧ bt h (cn l) = true) ↔ ∃ j, j < len ∧ t j = cn l := by
  rw [H.2.2.1 (cn l)]
  exact ⟨fun h => h.2, fun h => ⟨hl, h⟩⟩
theorem brk_of {n : Nat} {C : Nat → Int32} {z : Nat} {T R : Nat → Int32} {len : Nat} {h : Int32} {t : Nat → Nat} (H : TR n C z T R len h t) (hC : CLS n C z) {i : Nat} (hi : i < z) (h0 : cc_open (C i) h = 0) : BRK C t len i := by
  intro l hb
  rw [← den_iff H (hC i hi l hb).1]
  apply Classical.byContradiction
  intro hn
  have h1 : bt (cc_open (C i) h) l = true := b_open.2 ⟨hb, hn⟩
  rw [h0, b_0] at h1
  exact absurd h1 (by decide)
theorem nbrk_held {n : Nat} {C : Nat → Int32} {z : Nat} {T R : Nat → Int32} {len : Nat} {h : Int32} {t : Nat → Nat} (H : TR n C z T R len h t) {i : Nat} (h0 : C i &&& h ≠ 0) : ¬ BRK C t len i := by
  intro hB
  apply h0
  rw [b_and0]
  intro l h1 h2
  obtain ⟨k, hk, e⟩ := (H.2.2.1 l).1 h2
  obtain ⟨j, hj, ej⟩ := hB l h1
  rw [← e] at ej
  exact TR_opp H hj hk ej
theorem nbrk_open {n : Nat} {C : Nat → Int32} {z : Nat} {T R : Nat → Int32} {len : Nat} {h : Int32} {t : Nat → Nat} (H : TR n C z T R len h t) (hC : CLS n C z) {i : Nat} (hi : i < z) (h0 : cc_open (C i) h ≠ 0) : ¬ BRK C t len i := by
  intro hB
  apply h0
  rw [b_eq0]
  intro l
  cases hb : bt (cc_open (C i) h) l with
  | false => rfl
  | true =>
    obtain ⟨h1, h2⟩ := b_open.1 hb
    exact absurd ((den_iff H (hC i hi l h1).1).2 (hB l h1)) h2
theorem unit_of {n : Nat} {C : Nat → Int32} {z : Nat} {T R : Nat → Int32} {len : Nat} {h : Int32} {t : Nat → Nat} (H : TR n C z T R len h t) (hC : CLS n C z) {i : Nat} (hi : i < z) (h0 : C i &&& h = 0) (hs : cc_single (cc_open (C i) h)) :
    ∃ l, l < 20 ∧ l % 10 < n ∧ cc_open (C i) h = sb l ∧ bt (C i) l = true ∧ (∀ k, k < len → t k % 10 ≠ l % 10) ∧ ∀ q, bt (C i) q = true → q ≠ l → ∃ j, j < len ∧ t j = cn q := by
  obtain ⟨l, _, hl⟩ := single_of hs
  obtain ⟨h1, h2⟩ := b_open.1 ((hl l).2 rfl)
  obtain ⟨h3, h4⟩ := hC i hi l h1
  refine ⟨l, h3, h4, sb_of (by omega) hl, h1, ?_, ?_⟩
  · intro k hk e
    have h5 := (H.1 k hk).1
    rcases cn_same h5 h3 e with h6 | h6
    · exact b_and0.1 h0 l h1 ((H.2.2.1 l).2 ⟨k, hk, h6⟩)
    · exact h2 ((den_iff H h3).2 ⟨k, hk, h6⟩)
  · intro q hq hne
    rw [← den_iff H (hC i hi q hq).1]
    apply Classical.byContradiction
    intro hn
    exact hne ((hl q).1 (b_open.2 ⟨hq, hn⟩))
theorem open_unit {n : Nat} {C : Nat → Int32} {z : Nat} {T R : Nat → Int32} {len : Nat} {h : Int32} {t : Nat → Nat} (H : TR n C z T R len h t) (hC : CLS n C z) {u : Nat} (hu : u < z) (hU : UNIT C t len u) : C u &&& h = 0 ∧ cc_open (C u) h ≠ 0 ∧ cc_single (cc_open (C u) h) := by
  obtain ⟨l, hl, hb, hf, ho⟩ := hU
  have e : cc_open (C u) h = sb l := by
    apply sb_of (by omega)
    intro i
    rw [b_open]
    constructor
    · rintro ⟨h1, h2⟩
      apply Classical.byContradiction
      intro hne
      exact h2 ((den_iff H (hC u hu i h1).1).2 (ho i h1 hne))
    · rintro rfl
      refine ⟨hb, fun h2 => ?_⟩
      obtain ⟨j, hj, ej⟩ := (den_iff H hl).1 h2
      exact hf j hj (by rw [ej, cn_var hl])
  refine ⟨?_, ?_, ?_⟩
  · rw [b_and0]
    intro i h1 h2
    obtain ⟨k, hk, ek⟩ := (H.2.2.1 i).1 h2
    by_cases hne : i = l
    · exact hf k hk (by rw [ek, hne])
    · obtain ⟨j, hj, ej⟩ := ho i h1 hne
      rw [← ek] at ej
      exact TR_opp H hj hk ej
  · rw [e]; exact (single_sb (by omega)).1
  · rw [e]; exact single_sb (by omega)
/-- what one sweep, from clause i on, gives -/
def SWP (n : Nat) (C : Nat → Int32) (z L i : Nat) (s : SS) (t : Nat → Nat) (b : Int32) (s' : SS) : Prop :=
  ∃ t', TR n C z (sT s') (sR s') (sn s') (sh s') t' ∧ NBR C z (sR s') (sn s') t' ∧ sn s ≤ sn s' ∧ L ≤ numT (sR s') (sn s') ∧
    ((b = -1 ∧ (sn s' = sn s → t' = t ∧ s' = s ∧ ∀ j, i ≤ j → j < z → ¬ BRK C t (sn s) j)) ∨ ∃ j, b = nI j ∧ j < z ∧ BRK C t' (sn s') j)
theorem SWP_next {n : Nat} {C : Nat → Int32} {z L i : Nat} {s : SS} {t : Nat → Nat} {b : Int32} {s' : SS} (hi : ¬ BRK C t (sn s) i) (h : SWP n C z L (i + 1) s t b s') : SWP n C z L i s t b s' := by
  obtain ⟨t', h1, h2, h3, h4, h5⟩ := h
  refine ⟨t', h1, h2, h3, h4, ?_⟩
  rcases h5 with ⟨h6, h7⟩ | h6
  · refine Or.inl ⟨h6, fun e => ?_⟩
    obtain ⟨h8, h9, h10⟩ := h7 e
    refine ⟨h8, h9, fun j hj hz => ?_⟩
    by_cases ej : j = i
    · subst ej; exact hi
    · exact h10 j (by omega) hz
  · exact Or.inr h6
theorem sweep_ok {n : Nat} (hn : n ≤ 10) {C : Nat → Int32} {z : Nat} (hz : z < 2 ^ 31) (hC : CLS n C z) (L : Nat) :
    ∀ (k i : Nat) (s : SS) (t : Nat → Nat), i + k = z → TR n C z (sT s) (sR s) (sn s) (sh s) t → NBR C z (sR s) (sn s) t → PND C z i L (sR s) (sn s) t →
      SWP n C z L i s t (sr_sweep C k i s).1 (sr_sweep C k i s).2 := by
  intro k
  induction k with
  | zero =>
    intro i s t hik H hN hP
    refine ⟨t, H, hN, Nat.le_refl _, ?_, Or.inl ⟨rfl, fun _ => ⟨rfl, rfl, fun j h1 h2 => absurd h2 (by omega)⟩⟩⟩
    rcases hP with h1 | ⟨_, _, _, u, h1, h2, _⟩
    · exact h1
    · exact absurd h2 (by omega)
  | succ k ih =>
    intro i s t hik H hN hP
    have hi : i < z := by omega
    -- the pending clause, if it isn't this one, still lies ahead
    have skip : (UNIT C t (sn s) i → False) → ¬ BRK C t (sn s) i → SWP n C z L i s t (sr_sweep C k (i + 1) s).1 (sr_sweep C k (i + 1) s).2 := by
      intro hu hb
      refine SWP_next hb (ih (i + 1) s t (by omega) H hN ?_)
      rcases hP with h1 | ⟨h1, h2, h3, u, h4, h5, h6⟩
      · exact Or.inl h1
      · refine Or.inr ⟨h1, h2, h3, u, ?_, h5, h6⟩
        rcases Nat.lt_or_ge i u with h7 | h7
        · omega
        · have h8 : u = i := by omega
          subst h8
          exact (hu h6).elim
    unfold sr_sweep
    by_cases h0 : C i &&& sh s = 0
    · rw [if_pos h0]
      by_cases h1 : cc_open (C i) (sh s) = 0
      · rw [if_pos h1]
        have hB := brk_of H hC hi h1
        refine ⟨t, H, hN, Nat.le_refl _, ?_, Or.inr ⟨i, rfl, hi, hB⟩⟩
        rcases hP with h2 | ⟨_, _, h3, _⟩
        · exact h2
        · exact (h3 i hi hB).elim
      · rw [if_neg h1]
        by_cases h2 : cc_singleB (cc_open (C i) (sh s)) = true
        · rw [if_pos h2]
          obtain ⟨l, hl, hv, he, hb, hf, ho⟩ := unit_of H hC hi h0 (singleB_iff.1 h2)
          have hr : nI i ≠ -1 := nI_nm1 (by omega)
          obtain ⟨g1, g2⟩ := TR_hold H (r := nI i) hl hv hf (Or.inr ⟨hr, i, rfl, hi, hb, ho⟩)
          have e1 : sr_hold s (cc_open (C i) (sh s)) (nI i) = (upd (sT s) (sn s) (sb l), upd (sR s) (sn s) (nI i), sn s + 1, sh s ||| sb l) := by
            unfold sr_hold
            rw [if_pos (by omega), he]
          rw [e1]
          have g3 : NBR C z (upd (sR s) (sn s) (nI i)) (sn s + 1) (tu t (sn s) l) := by
            intro q hq eq j hj hB
            by_cases e : q = sn s
            · subst e; rw [pk_us] at eq; exact hr eq
            · rw [pk_un e] at eq
              refine hN q (by omega) eq j hj (fun m hm => ?_)
              obtain ⟨a, ha, ea⟩ := hB m hm
              exact ⟨a, ha, by rw [tu_n (by omega)] at ea; exact ea⟩
          have g4 : numT (upd (sR s) (sn s) (nI i)) (sn s + 1) = numT (sR s) (sn s) + 2 ^ (9 - sn s) := by
            show numT (upd (sR s) (sn s) (nI i)) (sn s) + (if upd (sR s) (sn s) (nI i) (sn s) = -1 then 0 else 2 ^ (9 - sn s)) = _
            rw [pk_us, if_neg hr, numT_congr (R' := sR s) (sn s) (fun j hj => pk_un (by omega))]
          have g5 : L ≤ numT (upd (sR s) (sn s) (nI i)) (sn s + 1) := by
            rw [g4]
            rcases hP with h3 | ⟨_, h3, _⟩
            · exact Nat.le_trans h3 (Nat.le_add_right _ _)
            · exact h3
          obtain ⟨t', k1, k2, k3, k4, k5⟩ := ih (i + 1) (upd (sT s) (sn s) (sb l), upd (sR s) (sn s) (nI i), sn s + 1, sh s ||| sb l) (tu t (sn s) l) (by omega) g2 g3 (Or.inl g5)
          have k3 : sn s + 1 ≤ sn (sr_sweep C k (i + 1) (upd (sT s) (sn s) (sb l), upd (sR s) (sn s) (nI i), sn s + 1, sh s ||| sb l)).2 := k3
          refine ⟨t', k1, k2, by omega, k4, ?_⟩
          rcases k5 with ⟨h6, _⟩ | h6
          · exact Or.inl ⟨h6, fun e => absurd e (by omega)⟩
          · exact Or.inr h6
        · rw [if_neg h2]
          exact skip (fun hu => h2 (singleB_iff.2 (open_unit H hC hi hu).2.2)) (nbrk_open H hC hi h1)
    · rw [if_neg h0]
      exact skip (fun hu => h0 (open_unit H hC hi hu).1) (nbrk_held H h0)
/-- what propagation gives -/
theorem prop_ok {n : Nat} (hn : n ≤ 10) {C : Nat → Int32} {z : Nat} (hz : z < 2 ^ 31) (hC : CLS n C z) (L : Nat) :
    ∀ (r : Nat) (s : SS) (t : Nat → Nat), 10 < r + sn s → TR n C z (sT s) (sR s) (sn s) (sh s) t → NBR C z (sR s) (sn s) t → PND C z 0 L (sR s) (sn s) t →
      ∃ t', TR n C z (sT (sr_prop C z r s).2) (sR (sr_prop C z r s).2) (sn (sr_prop C z r s).2) (sh (sr_prop C z r s).2) t' ∧ NBR C z (sR (sr_prop C z r s).2) (sn (sr_prop C z r s).2) t' ∧ sn s ≤ sn (sr_prop C z r s).2 ∧ L ≤ numT (sR (sr_prop C z r s).2) (sn (sr_prop C z r s).2) ∧
        (((sr_prop C z r s).1 = -1 ∧ ∀ j, j < z → ¬ BRK C t' (sn (sr_prop C z r s).2) j) ∨ ∃ j, (sr_prop C z r s).1 = nI j ∧ j < z ∧ BRK C t' (sn (sr_prop C z r s).2) j) := by
  intro r
  induction r with
  | zero =>
    intro s t h1 H
    exact absurd (TR_len H).1 (by omega)
  | succ r ih =>
    intro s t h1 H hN hP
    obtain ⟨t', k1, k2, k3, k4, k5⟩ := sweep_ok hn hz hC L z 0 s t (by omega) H hN hP
    unfold sr_prop
    by_cases hb : (sr_sweep C z 0 s).1 ≠ -1
    · rw [if_pos hb]
      refine ⟨t', k1, k2, k3, k4, ?_⟩
      rcases k5 with ⟨h6, _⟩ | h6
      · exact absurd h6 hb
      · exact Or.inr h6
    · rw [if_neg hb]
      have k5 : sn (sr_sweep C z 0 s).2 = sn s → t' = t ∧ (sr_sweep C z 0 s).2 = s ∧ ∀ j, 0 ≤ j → j < z → ¬ BRK C t (sn s) j := by
        rcases k5 with ⟨_, h7⟩ | ⟨j, h7, h8, _⟩
        · exact h7
        · exact absurd (by rw [h7]; exact nI_nm1 (by omega)) hb
      by_cases hg : sn s < sn (sr_sweep C z 0 s).2
      · rw [if_pos hg]
        obtain ⟨t2, j1, j2, j3, j4, j5⟩ := ih (sr_sweep C z 0 s).2 t' (by omega) k1 k2 (Or.inl k4)
        exact ⟨t2, j1, j2, by omega, j4, j5⟩
      · rw [if_neg hg]
        obtain ⟨h8, h9, h10⟩ := k5 (by omega)
        refine ⟨t', k1, k2, k3, k4, Or.inl ⟨Classical.byContradiction hb, fun j hj => ?_⟩⟩
        rw [h8, h9]
        exact h10 j (by omega) hj
