/-! Part 24: a conflict, and what is learned of it -/
theorem dk_cl_at {d : DS} {i : Nat} (h : i < dz d) (hz : dz d < 2 ^ 31) : dk_cl d (nI i) = dC d i := by
  unfold dk_cl
  rw [if_pos ⟨nI_pos' (by omega), nI_lt h hz⟩, nI_clamp (by omega)]
theorem ld_spec (R : Nat → Int32) : ∀ len, sr_ld R len ≤ len ∧ (sr_ld R len ≠ 0 → R (sr_ld R len - 1) = -1) ∧ ∀ k, sr_ld R len ≤ k → k < len → R k ≠ -1 := by
  intro len
  induction len with
  | zero => exact ⟨Nat.le_refl _, fun h => absurd rfl h, fun k _ h => absurd h (by omega)⟩
  | succ len ih =>
    unfold sr_ld
    by_cases h : R len = -1
    · rw [if_pos h]
      exact ⟨Nat.le_refl _, fun _ => h, fun k h1 h2 => absurd h1 (by omega)⟩
    · rw [if_neg h]
      refine ⟨by omega, ih.2.1, fun k h1 h2 => ?_⟩
      by_cases e : k = len
      · subst e; exact h
      · exact ih.2.2 k h1 (by omega)
theorem b_sror (T : Nat → Int32) (i : Nat) : ∀ k a x, bt (sr_or T k a x) i = true ↔ bt x i = true ∨ ∃ j, a ≤ j ∧ j < a + k ∧ bt (T j) i = true := by
  intro k
  induction k with
  | zero =>
    intro a x
    constructor
    · exact Or.inl
    · rintro (h | ⟨j, h1, h2, _⟩)
      · exact h
      · exact absurd h2 (by omega)
  | succ k ih =>
    intro a x
    show bt (sr_or T k (a + 1) (x ||| T a)) i = true ↔ _
    rw [ih, b_or, Bool.or_eq_true]
    constructor
    · rintro ((h | h) | ⟨j, h1, h2, h3⟩)
      · exact Or.inl h
      · exact Or.inr ⟨a, by omega, by omega, h⟩
      · exact Or.inr ⟨j, by omega, by omega, h3⟩
    · rintro (h | ⟨j, h1, h2, h3⟩)
      · exact Or.inl (Or.inl h)
      · by_cases e : j = a
        · subst e; exact Or.inl (Or.inr h3)
        · exact Or.inr ⟨j, by omega, by omega, h3⟩
theorem b_late {n : Nat} {C : Nat → Int32} {z : Nat} {s : SS} {t : Nat → Nat} (H : TR n C z (sT s) (sR s) (sn s) (sh s) t) (i : Nat) : bt (sr_late s) i = true ↔ i < 20 ∧ ∃ j, sr_ld (sR s) (sn s) - 1 ≤ j ∧ j < sn s ∧ t j = cn i := by
  have hl := (ld_spec (sR s) (sn s)).1
  unfold sr_late
  rw [b_negI, b_sror, b_0]
  constructor
  · rintro ⟨h1, h2⟩
    refine ⟨h1, ?_⟩
    rcases h2 with h2 | ⟨j, h2, h3, h4⟩
    · exact absurd h2 (by decide)
    · have h5 : j < sn s := by omega
      rw [(H.1 j h5).2.2, b_sb (by have := (H.1 j h5).1; omega), decide_eq_true_eq] at h4
      exact ⟨j, h2, h5, h4.symm⟩
  · rintro ⟨h1, j, h2, h3, h4⟩
    refine ⟨h1, Or.inr ⟨j, h2, by omega, ?_⟩⟩
    rw [(H.1 j h3).2.2, b_sb (by have := (H.1 j h3).1; omega), decide_eq_true_eq]
    exact h4.symm
/-- the checker's replay of k links from place a on -/
def REP (C K : Nat → Int32) (i : Nat) : Nat → Nat → Int32 → Int32 → Prop
  | 0, _, x, y => x = y
  | k + 1, a, x, y => ∃ r, K a = nI r ∧ r < i ∧ cc_single (x &&& cc_neg (C r)) ∧ REP C K i k (a + 1) ((x &&& ((x &&& cc_neg (C r)) ^^^ (-1))) ||| (C r &&& (cc_neg (x &&& cc_neg (C r)) ^^^ (-1)))) y
theorem REP_snoc {C K : Nat → Int32} {i : Nat} {y w : Int32} : ∀ (k a : Nat) (x : Int32), REP C K i k a x y → (∃ r, K (a + k) = nI r ∧ r < i ∧ cc_single (y &&& cc_neg (C r)) ∧ w = (y &&& ((y &&& cc_neg (C r)) ^^^ (-1))) ||| (C r &&& (cc_neg (y &&& cc_neg (C r)) ^^^ (-1)))) → REP C K i (k + 1) a x w := by
  intro k
  induction k with
  | zero =>
    intro a x h1 h2
    have h1 : x = y := h1
    subst h1
    obtain ⟨r, e1, e2, e3, e4⟩ := h2
    exact ⟨r, e1, e2, e3, e4.symm⟩
  | succ k ih =>
    intro a x h1 h2
    obtain ⟨r, e1, e2, e3, e4⟩ := h1
    refine ⟨r, e1, e2, e3, ih (a + 1) _ e4 ?_⟩
    rw [show a + 1 + k = a + (k + 1) from by omega]
    exact h2
theorem REP_congr {C K C' K' : Nat → Int32} {i : Nat} {y : Int32} (hC : ∀ j, j < i → C' j = C j) : ∀ (k a : Nat) (x : Int32), (∀ j, a ≤ j → j < a + k → K' j = K j) → REP C K i k a x y → REP C' K' i k a x y := by
  intro k
  induction k with
  | zero => intro a x _ h; exact h
  | succ k ih =>
    intro a x hK h
    obtain ⟨r, e1, e2, e3, e4⟩ := h
    refine ⟨r, ?_, e2, ?_, ?_⟩
    · rw [hK a (by omega) (by omega)]; exact e1
    · rw [hC r e2]; exact e3
    · rw [hC r e2]
      exact ih (a + 1) _ (fun j h1 h2 => hK j (by omega) (by omega)) e4
def DER (C F T K : Nat → Int32) (lk i : Nat) : Prop := ∃ f k r, F i = nI f ∧ T i = nI (f + 1 + k) ∧ f + 1 + k ≤ lk ∧ K f = nI r ∧ r < i ∧ REP C K i k (f + 1) (C r) (C i)
theorem DER_congr {C F T K C' F' T' K' : Nat → Int32} {lk lk' i : Nat} (hC : ∀ j, j < i + 1 → C' j = C j) (hF : F' i = F i) (hT : T' i = T i) (hK : ∀ j, j < lk → K' j = K j) (hl : lk ≤ lk') (h : DER C F T K lk i) : DER C' F' T' K' lk' i := by
  obtain ⟨f, k, r, e1, e2, e3, e4, e5, e6⟩ := h
  refine ⟨f, k, r, by rw [hF, e1], by rw [hT, e2], by omega, by rw [hK f (by omega)]; exact e4, e5, ?_⟩
  rw [hC r (by omega), hC i (by omega)]
  exact REP_congr (fun j hj => hC j (by omega)) k (f + 1) _ (fun j h1 h2 => hK j (by omega)) e6
/-- a question's docket: L bounds the conflicts so far, g counts what was given -/
def DK (n : Nat) (d : DS) (L g : Nat) : Prop :=
  CLS n (dC d) (dz d) ∧ dz d ≤ g + L ∧ dl d ≤ pS L ∧ dO d = dl d ∧
  (∀ i, i < dz d → dF d i = -1 ∨ DER (dC d) (dF d) (dT d) (dK d) (dl d) i) ∧
  (∀ M : Nat → Bool, (∀ i, i < dz d → dF d i = -1 → sat M (dC d i)) → ∀ i, i < dz d → sat M (dC d i))
def LTE (ld len : Nat) (t : Nat → Nat) (x : Int32) : Prop := ∃ i j, bt x i = true ∧ ld - 1 ≤ j ∧ j < len ∧ t j = cn i
theorem LTE_mk {ld len : Nat} {t : Nat → Nat} {x : Int32} (i j : Nat) (h1 : bt x i = true) (h2 : ld - 1 ≤ j) (h3 : j < len) (h4 : t j = cn i) : LTE ld len t x := ⟨i, j, h1, h2, h3, h4⟩
def RI (n : Nat) (d0 : DS) (len : Nat) (t : Nat → Nat) (ld b k : Nat) (x : Int32) (d : DS) (q : Nat) : Prop :=
  (dC d = dC d0 ∧ dF d = dF d0 ∧ dT d = dT d0 ∧ dz d = dz d0 ∧ dO d = dO d0) ∧ dl d = dl d0 + 1 + q ∧ q ≤ len - k ∧ (∀ j, j < dl d0 → dK d j = dK d0 j) ∧ dK d (dl d0) = nI b ∧ REP (dC d0) (dK d) (dz d0) q (dl d0 + 1) (dC d0 b) x ∧
  (∀ i, bt x i = true → i < 20 ∧ i % 10 < n ∧ ∃ j, j < k ∧ t j = cn i) ∧ (ld ≠ 0 → LTE ld len t x) ∧ (∀ M : Nat → Bool, (∀ i, i < dz d0 → sat M (dC d0 i)) → sat M x)
def RP (n : Nat) (d0 : DS) (len : Nat) (t : Nat → Nat) (ld b : Nat) (y : Int32) (d : DS) : Prop :=
  (dC d = dC d0 ∧ dF d = dF d0 ∧ dT d = dT d0 ∧ dz d = dz d0 ∧ dO d = dO d0) ∧ (∃ q, dl d = dl d0 + 1 + q ∧ q ≤ len - ld ∧ (∀ j, j < dl d0 → dK d j = dK d0 j) ∧ dK d (dl d0) = nI b ∧ REP (dC d0) (dK d) (dz d0) q (dl d0 + 1) (dC d0 b) y) ∧
  (∀ i, bt y i = true → i < 20 ∧ i % 10 < n) ∧ (ld = 0 → y = 0) ∧
  (ld ≠ 0 → ∃ a, bt y a = true ∧ (∃ j, ld - 1 ≤ j ∧ j < len ∧ t j = cn a) ∧ ∀ i, bt y i = true → i ≠ a → ∃ j, j < ld - 1 ∧ t j = cn i) ∧ (∀ M : Nat → Bool, (∀ i, i < dz d0 → sat M (dC d0 i)) → sat M y)
theorem two_bits {x : Int32} {a : Nat} (ha : a < 31) (h1 : bt x a = true) (h2 : ¬ cc_single x) : ∃ b, b ≠ a ∧ bt x b = true := by
  apply Classical.byContradiction
  intro hn
  apply h2
  apply single_iff ha
  intro i
  constructor
  · intro hi
    apply Classical.byContradiction
    intro hne
    exact hn ⟨i, hne, hi⟩
  · rintro rfl; exact h1
theorem res_ok {n : Nat} {d0 : DS} {T R : Nat → Int32} {len : Nat} {h : Int32} {t : Nat → Nat} {b : Nat} {la : Int32} (H : TR n (dC d0) (dz d0) T R len h t) (hC : CLS n (dC d0) (dz d0)) (hz : dz d0 < 2 ^ 31)
    (hla : ∀ i, bt la i = true ↔ i < 20 ∧ ∃ j, sr_ld R len - 1 ≤ j ∧ j < len ∧ t j = cn i) (hbd : dl d0 + 1 + (len - sr_ld R len) ≤ 3060) :
    ∀ (k : Nat) (x : Int32) (d : DS) (q : Nat), sr_ld R len ≤ k → k ≤ len → RI n d0 len t (sr_ld R len) b k x d q → RP n d0 len t (sr_ld R len) b (sr_res T R (sr_ld R len) la k x d).1 (sr_res T R (sr_ld R len) la k x d).2 := by
  obtain ⟨hl1, hl2, hl3⟩ := ld_spec R len
  generalize sr_ld R len = ld at *
  intro k
  induction k with
  | zero =>
    intro x d q hk hk2 hI
    obtain ⟨i1, i2, i3, i4, i5, i6, i7, i8, i9⟩ := hI
    have h0 : ld = 0 := by omega
    refine ⟨i1, ⟨q, i2, by omega, i4, i5, i6⟩, fun i hi => ⟨(i7 i hi).1, (i7 i hi).2.1⟩, fun _ => ?_, fun hne => absurd h0 hne, i9⟩
    show x = 0
    rw [b_eq0]
    intro i
    cases hb : bt x i with
    | false => rfl
    | true =>
      obtain ⟨_, _, j, hj, _⟩ := i7 i hb
      exact absurd hj (by omega)
  | succ k ih =>
    intro x d q hk hk2 hI
    have hI0 := hI
    obtain ⟨i1, i2, i3, i4, i5, i6, i7, i8, i9⟩ := hI
    unfold sr_res
    by_cases c1 : k < ld
    · rw [if_pos c1]
      have e : ld = k + 1 := by omega
      refine ⟨i1, ⟨q, i2, by omega, i4, i5, i6⟩, fun i hi => ⟨(i7 i hi).1, (i7 i hi).2.1⟩, fun h0 => absurd h0 (by omega), fun _ => ?_, i9⟩
      obtain ⟨a, j, ha, hj1, hj2, hj3⟩ := i8 (by omega)
      refine ⟨a, ha, ⟨j, hj1, hj2, hj3⟩, fun i hi hne => ?_⟩
      obtain ⟨_, _, j', hj', ej'⟩ := i7 i hi
      obtain ⟨a20, _, j2, hj2', ej2⟩ := i7 a ha
      have e1 : j2 = j := H.2.1 j2 j (by omega) hj2 (by rw [ej2, hj3])
      refine ⟨j', ?_, ej'⟩
      by_cases e2 : j' = ld - 1
      · have e3 : j' = j := by omega
        rw [e3, hj3] at ej'
        exact absurd (cn_inj a20 (i7 i hi).1 ej').symm hne
      · omega
    · rw [if_neg c1]
      by_cases c2 : ld ≠ 0 ∧ cc_singleB (x &&& la) = true
      · rw [if_pos c2]
        refine ⟨i1, ⟨q, i2, by omega, i4, i5, i6⟩, fun i hi => ⟨(i7 i hi).1, (i7 i hi).2.1⟩, fun h0 => absurd h0 c2.1, fun _ => ?_, i9⟩
        obtain ⟨a, _, ha⟩ := single_of (singleB_iff.1 c2.2)
        have h1 := (ha a).2 rfl
        rw [b_and, Bool.and_eq_true] at h1
        refine ⟨a, h1.1, ((hla a).1 h1.2).2, fun i hi hne => ?_⟩
        obtain ⟨h20, _, j, hj, ej⟩ := i7 i hi
        refine ⟨j, ?_, ej⟩
        apply Classical.byContradiction
        intro hj2
        apply hne
        apply (ha i).1
        rw [b_and, Bool.and_eq_true]
        exact ⟨hi, (hla i).2 ⟨h20, j, by omega, by omega, ej⟩⟩
      · rw [if_neg c2]
        have hk3 : k < len := by omega
        obtain ⟨t20, tn, Te⟩ := H.1 k hk3
        rw [Te, neg_sb t20]
        by_cases c3 : x &&& sb (cn (t k)) = 0
        · rw [if_pos c3]
          refine ih x d q (by omega) (by omega) ⟨i1, i2, by omega, i4, i5, i6, fun i hi => ?_, i8, i9⟩
          obtain ⟨h20, hn, j, hj, ej⟩ := i7 i hi
          refine ⟨h20, hn, j, ?_, ej⟩
          by_cases e : j = k
          · subst e
            refine absurd (b_and0.1 c3 i hi ?_) (fun f => f)
            rw [b_sb (by have := cn_lt t20; omega), decide_eq_true_eq, ej, cn_cn h20]
          · omega
        · rw [if_neg c3]
          have hcn := cn_lt t20
          have hx : bt x (cn (t k)) = true := by
            obtain ⟨i, hi⟩ := b_ne0.1 c3
            rw [b_and, Bool.and_eq_true, b_sb (by omega), decide_eq_true_eq] at hi
            rw [← hi.2]; exact hi.1
          obtain ⟨r, eR, hr, hbr, hoth⟩ := H.2.2.2.2 k hk3 (hl3 k (by omega) hk3)
          have ecl : dk_cl d (R k) = dC d0 r := by
            rw [eR, dk_cl_at (by rw [i1.2.2.2.1]; exact hr) (by rw [i1.2.2.2.1]; exact hz), i1.1]
          have eclash : x &&& cc_neg (dC d0 r) = sb (cn (t k)) := by
            apply sb_of (by omega)
            intro i
            rw [b_and, Bool.and_eq_true, b_negI]
            constructor
            · rintro ⟨h1, h2, h3⟩
              apply Classical.byContradiction
              intro hne
              have h4 : cn i ≠ t k := fun e => hne (by rw [← e, cn_cn h2])
              obtain ⟨j, hj, ej⟩ := hoth (cn i) h3 h4
              rw [cn_cn h2] at ej
              obtain ⟨_, _, j', hj', ej'⟩ := i7 i h1
              rw [← ej] at ej'
              exact TR_opp H (by omega) (by omega) ej'
            · rintro rfl
              exact ⟨hx, hcn, by rw [cn_cn t20]; exact hbr⟩
          have elink : dk_link d (R k) = (dC d, dF d, dT d, upd (dK d) (dl d) (nI r), dz d, dl d + 1, dO d) := by
            unfold dk_link
            rw [if_pos (by omega), eR]
          rw [ecl, elink]
          have est : ((x &&& (sb (cn (t k)) ^^^ (-1))) ||| (dC d0 r &&& (sb (t k) ^^^ (-1)))) = rs_step x (dC d0 r) (t k) := rfl
          rw [est]
          refine ih _ _ (q + 1) (by omega) (by omega) ⟨i1, ?_, by omega, ?_, ?_, ?_, ?_, ?_, ?_⟩
          · show dl d + 1 = dl d0 + 1 + (q + 1)
            omega
          · intro j hj
            show upd (dK d) (dl d) (nI r) j = dK d0 j
            rw [pk_un (by omega)]
            exact i4 j hj
          · show upd (dK d) (dl d) (nI r) (dl d0) = nI b
            rw [pk_un (by omega)]
            exact i5
          · show REP (dC d0) (upd (dK d) (dl d) (nI r)) (dz d0) (q + 1) (dl d0 + 1) (dC d0 b) _
            refine REP_snoc (y := x) q _ _ (REP_congr (fun _ _ => rfl) q _ _ (fun j h1 h2 => pk_un (by omega)) i6) ⟨r, ?_, hr, ?_, ?_⟩
            · rw [show dl d0 + 1 + q = dl d from by omega, pk_us]
            · rw [eclash]; exact single_sb (by omega)
            · rw [eclash, neg_sb hcn, cn_cn t20]; rfl
          · intro i hi
            rcases (b_step x (dC d0 r) t20 i).1 hi with ⟨h1, h2⟩ | ⟨h1, h2⟩
            · obtain ⟨h20, hn, j, hj, ej⟩ := i7 i h1
              refine ⟨h20, hn, j, ?_, ej⟩
              by_cases e : j = k
              · subst e
                exact absurd (by rw [ej, cn_cn h20]) h2
              · omega
            · obtain ⟨j, hj, ej⟩ := hoth i h1 h2
              obtain ⟨h20, hvn⟩ := hC r hr i h1
              exact ⟨h20, hvn, j, hj, ej⟩
          · intro hne
            have hns : ¬ cc_single (x &&& la) := fun hs => c2 ⟨hne, singleB_iff.2 hs⟩
            obtain ⟨a, j, ha, hj1, hj2, hj3⟩ := i8 hne
            have ha20 := (i7 a ha).1
            have hal : bt (x &&& la) a = true := by
              rw [b_and, Bool.and_eq_true]
              exact ⟨ha, (hla a).2 ⟨ha20, j, hj1, hj2, hj3⟩⟩
            obtain ⟨a2, hne2, hal2⟩ := two_bits (by omega) hal hns
            rw [b_and, Bool.and_eq_true] at hal2
            by_cases e : a = cn (t k)
            · obtain ⟨_, j2, h1, h2, h3⟩ := (hla a2).1 hal2.2
              exact LTE_mk a2 j2 ((b_step x _ t20 a2).2 (Or.inl ⟨hal2.1, by rw [← e]; exact hne2⟩)) h1 h2 h3
            · exact LTE_mk a j ((b_step x _ t20 a).2 (Or.inl ⟨ha, e⟩)) hj1 hj2 hj3
          · intro M hM
            exact sat_step t20 (i9 M hM) (hM r hr)
