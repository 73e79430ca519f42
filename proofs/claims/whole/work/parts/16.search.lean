/-! Part 26: deciding, the whole search, and what it answers -/
theorem b_pos : ∀ n, n < 11 → ∀ i, i < 32 → bt (cc_pos n) i = decide (i < n) := by decide +kernel
theorem b_free {n : Nat} (hn : n ≤ 10) {h : Int32} {v : Nat} : bt (cc_free n h) v = true ↔ v < n ∧ bt h v = false ∧ bt h (cn v) = false := by
  unfold cc_free
  rw [b_diff, Bool.and_eq_true, b_or, b_neg]
  constructor
  · rintro ⟨h1, h2⟩
    have h3 := b_lt h1
    rw [b_pos n (by omega) v h3, decide_eq_true_eq] at h1
    rw [decide_eq_true (show v < 20 by omega)] at h2
    simp at h2
    exact ⟨h1, h2⟩
  · rintro ⟨h1, h2, h3⟩
    rw [b_pos n (by omega) v (by omega), decide_eq_true_eq, h2, h3]
    simp
    exact h1
theorem TR_room {n : Nat} {C : Nat → Int32} {z : Nat} {T R : Nat → Int32} {len : Nat} {h : Int32} {t : Nat → Nat} (_ : TR n C z T R len h t) (hl : len < n) : ∃ v, v < n ∧ ∀ k, k < len → t k % 10 ≠ v := by
  apply Classical.byContradiction
  intro hno
  have h1 : ∀ v, ∃ k, v < n → k < len ∧ t k % 10 = v := by
    intro v
    apply Classical.byContradiction
    intro h2
    apply hno
    refine ⟨v, ?_, fun k hk e => h2 ⟨k, fun _ => ⟨hk, e⟩⟩⟩
    apply Classical.byContradiction
    intro h3
    exact h2 ⟨0, fun h4 => absurd h4 h3⟩
  have h2 := php len n (fun v => Classical.choose (h1 v)) (fun v hv => (Classical.choose_spec (h1 v) hv).1) (fun a b ha hb e => by
    have e : Classical.choose (h1 a) = Classical.choose (h1 b) := e
    rw [← (Classical.choose_spec (h1 a) ha).2, ← (Classical.choose_spec (h1 b) hb).2, e])
  omega
theorem decide_ok {n : Nat} (hn : n ≤ 10) {C : Nat → Int32} {z : Nat} {s : SS} {t : Nat → Nat} (H : TR n C z (sT s) (sR s) (sn s) (sh s) t) (hN : NBR C z (sR s) (sn s) t) (hl : sn s < n) (hB : ∀ j, j < z → ¬ BRK C t (sn s) j) :
    ∃ t', TR n C z (sT (sr_decide n s)) (sR (sr_decide n s)) (sn (sr_decide n s)) (sh (sr_decide n s)) t' ∧ NBR C z (sR (sr_decide n s)) (sn (sr_decide n s)) t' ∧ sn (sr_decide n s) = sn s + 1 ∧ numT (sR (sr_decide n s)) (sn (sr_decide n s)) = numT (sR s) (sn s) := by
  have hfree : ∀ v, bt (cc_free n (sh s)) v = true ↔ v < n ∧ ∀ k, k < sn s → t k % 10 ≠ v := by
    intro v
    rw [b_free hn]
    constructor
    · rintro ⟨h1, h2, h3⟩
      refine ⟨h1, fun k hk e => ?_⟩
      rcases cn_same (H.1 k hk).1 (show v < 20 by omega) (by omega) with h4 | h4
      · have h5 := (H.2.2.1 v).2 ⟨k, hk, h4⟩
        rw [h2] at h5; exact absurd h5 (by decide)
      · have h5 := (H.2.2.1 (cn v)).2 ⟨k, hk, h4⟩
        rw [h3] at h5; exact absurd h5 (by decide)
    · rintro ⟨h1, h2⟩
      refine ⟨h1, ?_, ?_⟩
      · cases hb : bt (sh s) v with
        | false => rfl
        | true =>
          obtain ⟨k, hk, e⟩ := (H.2.2.1 v).1 hb
          exact absurd (by rw [e]; omega) (h2 k hk)
      · cases hb : bt (sh s) (cn v) with
        | false => rfl
        | true =>
          obtain ⟨k, hk, e⟩ := (H.2.2.1 (cn v)).1 hb
          exact absurd (by rw [e, cn_var (by omega)]; omega) (h2 k hk)
  obtain ⟨v, hv, hvf⟩ := TR_room H hl
  obtain ⟨l, hl10, el, bl, hlow⟩ := low_bit (x := cc_free n (sh s)) (fun i hi => by have := ((hfree i).1 hi).1; omega) (b_ne0.2 ⟨v, (hfree v).2 ⟨hv, hvf⟩⟩)
  obtain ⟨hln, hlf⟩ := (hfree l).1 bl
  have ecn : cn l = l + 10 := if_pos hl10
  have e1 : cc_neg (cc_free n (sh s) &&& (-(cc_free n (sh s)))) = sb (l + 10) := by rw [el, neg_sb (by omega), ecn]
  obtain ⟨g1, g2⟩ := TR_hold H (l := l + 10) (r := -1) (by omega) (by omega) (fun k hk => by rw [show (l + 10) % 10 = l from by omega]; exact hlf k hk) (Or.inl ⟨rfl, by omega, fun w hw => by
    apply Classical.byContradiction
    intro hno
    have h1 := hlow w (by omega)
    rw [(hfree w).2 ⟨by omega, fun k hk e => hno ⟨k, hk, e⟩⟩] at h1
    exact absurd h1 (by decide)⟩)
  have e2 : sr_decide n s = (upd (sT s) (sn s) (sb (l + 10)), upd (sR s) (sn s) (-1), sn s + 1, sh s ||| sb (l + 10)) := by
    unfold sr_decide sr_hold
    rw [if_pos (by omega), e1]
  rw [e2]
  refine ⟨tu t (sn s) (l + 10), g2, ?_, rfl, ?_⟩
  · intro k hk e i hi hBr
    have hk : k < sn s + 1 := hk
    have e : upd (sR s) (sn s) (-1) k = -1 := e
    have hBr2 : BRK C t k i := fun m hm => by
      obtain ⟨j, hj, ej⟩ := hBr m hm
      rw [tu_n (by omega)] at ej
      exact ⟨j, hj, ej⟩
    by_cases ek : k = sn s
    · subst ek; exact hB i hi hBr2
    · rw [pk_un ek] at e
      exact hN k (by omega) e i hi hBr2
  · show numT (upd (sR s) (sn s) (-1)) (sn s) + (if upd (sR s) (sn s) (-1) (sn s) = -1 then 0 else 2 ^ (9 - sn s)) = numT (sR s) (sn s)
    rw [pk_us, if_pos rfl, numT_congr (R' := sR s) (sn s) (fun j hj => pk_un (by omega))]
    rfl
/-- a docket that grew by derived clauses alone -/
def EXT (d d' : DS) : Prop := dz d ≤ dz d' ∧ (∀ i, i < dz d → dC d' i = dC d i ∧ dF d' i = dF d i) ∧ ∀ i, dz d ≤ i → i < dz d' → dF d' i ≠ -1
theorem EXT_rf (d : DS) : EXT d d := ⟨Nat.le_refl _, fun _ _ => ⟨rfl, rfl⟩, fun i h1 h2 => absurd h2 (by omega)⟩
theorem EXT_tr {a b c : DS} (h1 : EXT a b) (h2 : EXT b c) : EXT a c := by
  obtain ⟨p1, p2, p3⟩ := h1
  obtain ⟨q1, q2, q3⟩ := h2
  refine ⟨by omega, fun i hi => ?_, fun i h3 h4 => ?_⟩
  · have h5 := p2 i hi
    have h6 := q2 i (by omega)
    exact ⟨h6.1.trans h5.1, h6.2.trans h5.2⟩
  · rcases Nat.lt_or_ge i (dz b) with h5 | h5
    · rw [(q2 i h5).2]; exact p3 i h3 h5
    · exact q3 i h5 h4
/-- the search between two of its steps -/
def FI (n : Nat) (d : DS) (s : SS) (t : Nat → Nat) (L g : Nat) : Prop := DK n d L g ∧ TR n (dC d) (dz d) (sT s) (sR s) (sn s) (sh s) t ∧ NBR (dC d) (dz d) (sR s) (sn s) t ∧ PND (dC d) (dz d) 0 L (sR s) (sn s) t ∧ L ≤ 1024
/-- it found one -/
def FT (n : Nat) (d : DS) (s : SS) (t : Nat → Nat) (L g : Nat) : Prop := DK n d L g ∧ TR n (dC d) (dz d) (sT s) (sR s) (sn s) (sh s) t ∧ NBR (dC d) (dz d) (sR s) (sn s) t ∧ L ≤ numT (sR s) (sn s) ∧ L ≤ 1024 ∧ sn s = n ∧ ∀ j, j < dz d → ¬ BRK (dC d) t (sn s) j
/-- it found none -/
def FF (n : Nat) (d : DS) (L g : Nat) : Prop := DK n d L g ∧ L ≤ 1024 ∧ 0 < dz d ∧ dC d (dz d - 1) = 0 ∧ dF d (dz d - 1) ≠ -1
theorem find_ok {n : Nat} (hn : n ≤ 10) {g : Nat} (hg : g ≤ 551) : ∀ (f : Nat) (d : DS) (s : SS) (t : Nat → Nat) (L : Nat), FI n d s t L g → (1024 - L) * 11 + (10 - sn s) < f →
    EXT d (sr_find n f d s).2.1 ∧ (((sr_find n f d s).1 = true ∧ ∃ t' L', FT n (sr_find n f d s).2.1 (sr_find n f d s).2.2 t' L' g) ∨ ((sr_find n f d s).1 = false ∧ ∃ L', FF n (sr_find n f d s).2.1 L' g)) := by
  intro f
  induction f with
  | zero => intro d s t L _ h; exact absurd h (by omega)
  | succ f ih =>
    intro d s t L hF hm
    obtain ⟨D, H, hN, hP, hL⟩ := hF
    have hz31 : dz d < 2 ^ 31 := by
      have := D.2.1
      omega
    obtain ⟨t1, H1, hN1, hle, hL1, hres⟩ := prop_ok hn hz31 D.1 L 11 s t (by omega) H hN hP
    unfold sr_find
    generalize sr_prop (dC d) (dz d) 11 s = bs at H1 hN1 hle hL1 hres ⊢
    obtain ⟨b, s1⟩ := bs
    have hle : sn s ≤ sn s1 := hle
    have hlen := (TR_len H1).1
    have hlen : sn s1 ≤ n := hlen
    rcases hres with ⟨hb, hnb⟩ | ⟨j, hb, hj, hbr⟩
    · have hb : b = -1 := hb
      rw [if_pos hb]
      by_cases hfull : n ≤ sn s1
      · rw [if_pos hfull]
        refine ⟨EXT_rf d, Or.inl ⟨rfl, t1, L, D, H1, hN1, hL1, hL, ?_, hnb⟩⟩
        show sn s1 = n
        omega
      · rw [if_neg hfull]
        obtain ⟨t2, k1, k2, k3, k4⟩ := decide_ok hn H1 hN1 (by show sn s1 < n; omega) hnb
        have k3 : sn (sr_decide n s1) = sn s1 + 1 := k3
        refine ih d (sr_decide n s1) t2 L ⟨D, k1, k2, Or.inl (by rw [k4]; exact hL1), hL⟩ ?_
        show (1024 - L) * 11 + (10 - sn (sr_decide n s1)) < f
        omega
    · have hb : b = nI j := hb
      have hbne : ¬ b = -1 := by rw [hb]; exact nI_nm1 (by omega)
      rw [if_neg hbne]
      have hK := learn_ok hn hg D H1 hN1 hL1 hj hbr
      show EXT d (if (sr_learn d s1 b).1 = 0 then (false, (sr_learn d s1 b).2.1, (sr_learn d s1 b).2.2) else sr_find n f (sr_learn d s1 b).2.1 (sr_learn d s1 b).2.2).2.1 ∧ _
      rw [hb]
      generalize sr_learn d s1 (nI j) = q at hK ⊢
      obtain ⟨y, d2, s2⟩ := q
      have hL1 : L ≤ numT (sR s1) (sn s1) := hL1
      obtain ⟨K1, K2, K3⟩ := hK
      have K2 : numT (sR s1) (sn s1) + 1 ≤ 1024 := K2
      rcases K3 with ⟨e0, e1, e2, e3, e4⟩ | ⟨e0, e1, e3, e4, e5, e6, e7⟩
      · have e0 : y = 0 := e0
        have e1 : dz d2 = dz d + 1 := e1
        rw [if_pos e0]
        refine ⟨⟨by show dz d ≤ dz d2; omega, e4, fun i h1 h2 => ?_⟩, Or.inr ⟨rfl, numT (sR s1) (sn s1) + 1, K1, K2, by show 0 < dz d2; omega, ?_, ?_⟩⟩
        · have h2 : i < dz d2 := h2
          rw [show i = dz d from by omega]; exact e3
        · show dC d2 (dz d2 - 1) = 0
          rw [show dz d2 - 1 = dz d from by omega]; exact e2
        · show dF d2 (dz d2 - 1) ≠ -1
          rw [show dz d2 - 1 = dz d from by omega]; exact e3
      · have e0 : ¬ y = 0 := e0
        have e1 : dz d2 = dz d + 1 := e1
        rw [if_neg e0]
        have hx : EXT d d2 := ⟨by omega, e4, fun i h1 h2 => by
          rw [show i = dz d from by omega]; exact e3⟩
        obtain ⟨r1, r2⟩ := ih d2 s2 t1 (numT (sR s1) (sn s1) + 1) ⟨K1, e5, e6, e7, K2⟩ (by omega)
        exact ⟨EXT_tr hx r1, r2⟩
/-- an assignment read off the literals that hold -/
def mOf (h : Int32) : Nat → Bool := fun v => bt h v
theorem mv_of {n : Nat} {C : Nat → Int32} {z : Nat} {T R : Nat → Int32} {len : Nat} {h : Int32} {t : Nat → Nat} (H : TR n C z T R len h t) {k : Nat} (hk : k < len) : mv (mOf h) (t k) = true := by
  have h20 := (H.1 k hk).1
  unfold mv mOf
  by_cases c : t k < 10
  · rw [if_pos c]; exact (H.2.2.1 (t k)).2 ⟨k, hk, rfl⟩
  · rw [if_neg c]
    cases hb : bt h (t k - 10) with
    | false => rfl
    | true =>
      obtain ⟨j, hj, ej⟩ := (H.2.2.1 _).1 hb
      exact (TR_opp H hj hk (by rw [ej]; unfold cn; rw [if_neg c])).elim
theorem model_ok {n : Nat} {C : Nat → Int32} {z : Nat} {T R : Nat → Int32} {h : Int32} {t : Nat → Nat} (H : TR n C z T R n h t) (hC : CLS n C z) {j : Nat} (hj : j < z) (hB : ¬ BRK C t n j) : sat (mOf h) (C j) ∧ C j &&& h ≠ 0 := by
  have h1 : ∃ l, bt (C j) l = true ∧ ¬ ∃ k, k < n ∧ t k = cn l := by
    apply Classical.byContradiction
    intro hno
    apply hB
    intro l hl
    apply Classical.byContradiction
    intro h2
    exact hno ⟨l, hl, h2⟩
  obtain ⟨l, hl, hno⟩ := h1
  obtain ⟨h20, hv⟩ := hC j hj l hl
  obtain ⟨k, hk, e⟩ := (TR_len H).2 rfl (l % 10) hv
  have ek : t k = l := by
    rcases cn_same (H.1 k hk).1 h20 e with h3 | h3
    · exact h3
    · exact absurd ⟨k, hk, h3⟩ hno
  refine ⟨⟨l, h20, hl, by rw [← ek]; exact mv_of H hk⟩, fun h0 => ?_⟩
  exact b_and0.1 h0 l hl ((H.2.2.1 l).2 ⟨k, hk, ek⟩)
/-- the found assignment is the least -/
theorem least_ok {n : Nat} {C : Nat → Int32} {z : Nat} {T R : Nat → Int32} {len : Nat} {h : Int32} {t : Nat → Nat} (H : TR n C z T R len h t) {M : Nat → Bool} (hM : ∀ j, j < z → sat M (C j)) {v : Nat} (hv : v < 10) (hh : bt h v = true) (hlow : ∀ u, u < v → M u = bt h u) : M v = true := by
  obtain ⟨k, hk, ek⟩ := (H.2.2.1 v).1 hh
  have key : ∀ j, j ≤ k → mv M (t j) = true := by
    intro j
    induction j using Nat.strongRecOn with
    | ind j ih =>
      intro hj
      have hjl : j < len := by omega
      have h20 := (H.1 j hjl).1
      by_cases c : R j = -1
      · obtain ⟨d1, d2⟩ := H.2.2.2.1 j hjl c
        have hjk : j ≠ k := fun e => by
          subst e; omega
        have h1 : t j - 10 < v := by
          rcases Nat.lt_or_ge (t j - 10) v with h2 | h2
          · exact h2
          · rcases Nat.lt_or_ge v (t j - 10) with h3 | h3
            · obtain ⟨i, hi, ei⟩ := d2 v h3
              have := H.2.1 i k (by omega) hk (by rw [ei, ek]; omega)
              omega
            · have := H.2.1 j k hjl hk (by rw [ek]; omega)
              omega
        unfold mv
        rw [if_neg (by omega), hlow _ h1]
        cases hb : bt h (t j - 10) with
        | false => rfl
        | true =>
          obtain ⟨i, hi, ei⟩ := (H.2.2.1 _).1 hb
          exact (TR_opp H hi hjl (by rw [ei]; unfold cn; rw [if_neg (by omega)])).elim
      · obtain ⟨r, _, hr, hbr, hoth⟩ := H.2.2.2.2 j hjl c
        obtain ⟨i, hi, bi, mi⟩ := hM r hr
        by_cases e : i = t j
        · rw [← e]; exact mi
        · obtain ⟨i2, h1, h2⟩ := hoth i bi e
          have h3 := ih i2 h1 (by omega)
          rw [h2, mv_cn hi, mi] at h3
          exact absurd h3 (by decide)
  have h1 := key k (Nat.le_refl _)
  rw [ek] at h1
  unfold mv at h1
  rw [if_pos hv] at h1
  exact h1
/-- a found assignment is shut out: the search may go on -/
theorem block_ok {n : Nat} {d : DS} {s : SS} {t : Nat → Nat} {L g : Nat} (hg : g ≤ 550) (hn : n ≤ 10) (h : FT n d s t L g) : FI n (dk_give d (cc_neg (sh s))) s t L (g + 1) ∧ dk_give d (cc_neg (sh s)) = (upd (dC d) (dz d) (cc_neg (sh s)), upd (dF d) (dz d) (-1), upd (dT d) (dz d) (-1), dK d, dz d + 1, dl d, dO d) := by
  obtain ⟨D, H, hN, hL, hL2, hfull, hnb⟩ := h
  obtain ⟨D1, D2, D3, D4, D5, D6⟩ := D
  have e := give_eq (d := d) (by omega) (cc_neg (sh s))
  rw [e]
  have hneg : ∀ l, bt (cc_neg (sh s)) l = true → l < 20 ∧ l % 10 < n := by
    intro l hl
    obtain ⟨h20, h1⟩ := b_negI.1 hl
    obtain ⟨k, hk, ek⟩ := (H.2.2.1 _).1 h1
    have h2 := (H.1 k hk).2.1
    rw [ek, cn_var h20] at h2
    exact ⟨h20, h2⟩
  refine ⟨⟨⟨?_, ?_, D3, D4, ?_, ?_⟩, ?_, ?_, Or.inl hL, hL2⟩, rfl⟩
  · intro i hi l hl
    have hi : i < dz d + 1 := hi
    have hl : bt (upd (dC d) (dz d) (cc_neg (sh s)) i) l = true := hl
    by_cases ei : i = dz d
    · subst ei; rw [pk_us] at hl; exact hneg l hl
    · rw [pk_un ei] at hl; exact D1 i (by omega) l hl
  · show dz d + 1 ≤ g + 1 + L
    omega
  · intro i hi
    have hi : i < dz d + 1 := hi
    show upd (dF d) (dz d) (-1) i = -1 ∨ DER (upd (dC d) (dz d) (cc_neg (sh s))) (upd (dF d) (dz d) (-1)) (upd (dT d) (dz d) (-1)) (dK d) (dl d) i
    by_cases ei : i = dz d
    · subst ei; exact Or.inl pk_us
    · rcases D5 i (by omega) with h1 | h1
      · exact Or.inl (by rw [pk_un ei]; exact h1)
      · exact Or.inr (DER_congr (fun j hj => pk_un (by omega)) (pk_un ei) (pk_un ei) (fun _ _ => rfl) (Nat.le_refl _) h1)
  · intro M hM i hi
    have hi : i < dz d + 1 := hi
    have hM : ∀ i, i < dz d + 1 → upd (dF d) (dz d) (-1) i = -1 → sat M (upd (dC d) (dz d) (cc_neg (sh s)) i) := hM
    show sat M (upd (dC d) (dz d) (cc_neg (sh s)) i)
    by_cases ei : i = dz d
    · exact hM i hi (by rw [ei, pk_us])
    · rw [pk_un ei]
      refine D6 M (fun j hj ej => ?_) i (by omega)
      have h1 := hM j (by omega) (by rw [pk_un (by omega)]; exact ej)
      rw [pk_un (by omega)] at h1
      exact h1
  · exact TR_more H (by show dz d ≤ dz d + 1; omega) (fun i hi => pk_un (by omega))
  · intro k hk ek i hi hBr
    have hi : i < dz d + 1 := hi
    by_cases ei : i = dz d
    · subst ei
      have h20 := (H.1 k hk).1
      have hb : bt (upd (dC d) (dz d) (cc_neg (sh s)) (dz d)) (cn (t k)) = true := by
        rw [pk_us, b_negI, cn_cn h20]
        exact ⟨cn_lt h20, (H.2.2.1 _).2 ⟨k, hk, rfl⟩⟩
      obtain ⟨j, hj, ej⟩ := hBr _ hb
      rw [cn_cn h20] at ej
      have := H.2.1 j k (by omega) hk (by rw [ej])
      omega
    · exact hN k hk ek i (by omega) (BRK_congr (pk_un ei) hBr)
/-- where it found none there is none -/
theorem none_ok {n : Nat} {d : DS} {L g : Nat} (h : FF n d L g) {M : Nat → Bool} (hM : ∀ i, i < dz d → dF d i = -1 → sat M (dC d i)) : False := by
  obtain ⟨D, _, h0, h1, _⟩ := h
  have h2 := D.2.2.2.2.2 M hM (dz d - 1) (by omega)
  rw [h1] at h2
  exact sat_0 h2
