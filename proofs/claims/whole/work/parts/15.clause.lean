/-! Part 25: learning, deciding, and the whole search -/
theorem jump_spec {T R : Nat → Int32} {y : Int32} {dec : Nat} : ∀ (k g : Nat), k ≤ g → R g = -1 → (∀ j, k ≤ j → j < dec → y &&& cc_neg (T j) = 0) →
    sr_jump T R y k g ≤ g ∧ R (sr_jump T R y k g) = -1 ∧ ∀ j, sr_jump T R y k g ≤ j → j < dec → y &&& cc_neg (T j) = 0 := by
  intro k
  induction k with
  | zero => intro g _ h2 h3; exact ⟨Nat.le_refl _, h2, fun j _ h => h3 j (by omega) h⟩
  | succ k ih =>
    intro g h1 h2 h3
    unfold sr_jump
    by_cases c : y &&& cc_neg (T k) = 0
    · rw [if_pos c]
      have h4 : ∀ j, k ≤ j → j < dec → y &&& cc_neg (T j) = 0 := by
        intro j hj hd
        by_cases e : j = k
        · subst e; exact c
        · exact h3 j (by omega) hd
      by_cases c2 : R k = -1
      · rw [if_pos c2]
        obtain ⟨a1, a2, a3⟩ := ih k (Nat.le_refl _) c2 h4
        exact ⟨by omega, a2, a3⟩
      · rw [if_neg c2]
        exact ih g (by omega) h2 h4
    · rw [if_neg c]
      exact ⟨Nat.le_refl _, h2, fun j hj hd => h3 j (by omega) hd⟩
theorem b_cutH {T : Nat → Int32} {g i : Nat} : ∀ (k : Nat) (h : Int32), bt (sr_cutH T g k h) i = true ↔ bt h i = true ∧ ∀ j, g ≤ j → j < k → bt (T j) i = false := by
  intro k
  induction k with
  | zero => intro h; exact ⟨fun a => ⟨a, fun j _ hj => absurd hj (by omega)⟩, fun a => a.1⟩
  | succ k ih =>
    intro h
    unfold sr_cutH
    by_cases c : k < g
    · rw [if_pos c]
      exact ⟨fun a => ⟨a, fun j h1 h2 => absurd h1 (by omega)⟩, fun a => a.1⟩
    · rw [if_neg c, ih, b_diff, Bool.and_eq_true, Bool.not_eq_true']
      constructor
      · rintro ⟨⟨a1, a2⟩, a3⟩
        refine ⟨a1, fun j h1 h2 => ?_⟩
        by_cases e : j = k
        · subst e; exact a2
        · exact a3 j h1 (by omega)
      · rintro ⟨a1, a2⟩
        exact ⟨⟨a1, a2 k (by omega) (by omega)⟩, fun j h1 h2 => a2 j h1 (by omega)⟩
theorem TR_cut {n : Nat} {C : Nat → Int32} {z : Nat} {T R : Nat → Int32} {len : Nat} {h : Int32} {t : Nat → Nat} (H : TR n C z T R len h t) {g : Nat} (hg : g ≤ len) : TR n C z T R g (sr_cutH T g len h) t := by
  obtain ⟨H1, H2, H3, H4, H5⟩ := H
  refine ⟨fun k hk => H1 k (by omega), fun j k hj hk e => H2 j k (by omega) (by omega) e, fun i => ?_, fun k hk e => H4 k (by omega) e, fun k hk e => H5 k (by omega) e⟩
  rw [b_cutH, H3 i]
  constructor
  · rintro ⟨⟨k, hk, e⟩, h2⟩
    refine ⟨k, ?_, e⟩
    apply Classical.byContradiction
    intro hge
    have h3 := h2 k (by omega) hk
    rw [(H1 k hk).2.2, b_sb (by have := (H1 k hk).1; omega), decide_eq_false_iff_not] at h3
    exact h3 e.symm
  · rintro ⟨k, hk, e⟩
    refine ⟨⟨k, by omega, e⟩, fun j h1 h2 => ?_⟩
    rw [(H1 j h2).2.2, b_sb (by have := (H1 j h2).1; omega), decide_eq_false_iff_not]
    intro e2
    have := H2 j k h2 (by omega) (by rw [e, e2])
    omega
theorem TR_more {n : Nat} {C C' : Nat → Int32} {z z' : Nat} {T R : Nat → Int32} {len : Nat} {h : Int32} {t : Nat → Nat} (H : TR n C z T R len h t) (hz : z ≤ z') (hC : ∀ i, i < z → C' i = C i) : TR n C' z' T R len h t := by
  obtain ⟨H1, H2, H3, H4, H5⟩ := H
  refine ⟨H1, H2, H3, H4, fun k hk e => ?_⟩
  obtain ⟨r, a1, a2, a3, a4⟩ := H5 k hk e
  exact ⟨r, a1, by omega, by rw [hC r a2]; exact a3, fun i hi hne => a4 i (by rw [← hC r a2]; exact hi) hne⟩
theorem BRK_congr {C C' : Nat → Int32} {t : Nat → Nat} {k i : Nat} (h : C' i = C i) (H : BRK C' t k i) : BRK C t k i := fun l hl => H l (by rw [h]; exact hl)
/-- the docket behind a learned clause -/
theorem derive_eq {d : DS} (h : dz d < 1575) (c : Int32) : dk_derive d c = (upd (dC d) (dz d) c, upd (dF d) (dz d) (nI (dO d)), upd (dT d) (dz d) (nI (dl d)), dK d, dz d + 1, dl d, dl d) := by
  unfold dk_derive dk_append
  rw [if_pos h]
theorem give_eq {d : DS} (h : dz d < 1575) (c : Int32) : dk_give d c = (upd (dC d) (dz d) c, upd (dF d) (dz d) (-1), upd (dT d) (dz d) (-1), dK d, dz d + 1, dl d, dO d) := by
  unfold dk_give dk_append
  rw [if_pos h]
theorem DK_up {n : Nat} {d : DS} {L L' g : Nat} (h : DK n d L g) (hL : L ≤ L') : DK n d L' g := by
  obtain ⟨h1, h2, h3, h4, h5, h6⟩ := h
  exact ⟨h1, by omega, Nat.le_trans h3 (pS_mono L' hL), h4, h5, h6⟩
theorem learn_ok {n : Nat} (hn : n ≤ 10) {d : DS} {s : SS} {t : Nat → Nat} {b L g : Nat} (hg : g ≤ 551) (D : DK n d L g) (H : TR n (dC d) (dz d) (sT s) (sR s) (sn s) (sh s) t) (hN : NBR (dC d) (dz d) (sR s) (sn s) t) (hL : L ≤ numT (sR s) (sn s)) (hb : b < dz d) (hB : BRK (dC d) t (sn s) b) :
    DK n (sr_learn d s (nI b)).2.1 (numT (sR s) (sn s) + 1) g ∧ numT (sR s) (sn s) + 1 ≤ 1024 ∧
    (((sr_learn d s (nI b)).1 = 0 ∧ dz (sr_learn d s (nI b)).2.1 = dz d + 1 ∧ dC (sr_learn d s (nI b)).2.1 (dz d) = 0 ∧ dF (sr_learn d s (nI b)).2.1 (dz d) ≠ -1 ∧ (∀ i, i < dz d → dC (sr_learn d s (nI b)).2.1 i = dC d i ∧ dF (sr_learn d s (nI b)).2.1 i = dF d i)) ∨
     ((sr_learn d s (nI b)).1 ≠ 0 ∧ dz (sr_learn d s (nI b)).2.1 = dz d + 1 ∧ dF (sr_learn d s (nI b)).2.1 (dz d) ≠ -1 ∧ (∀ i, i < dz d → dC (sr_learn d s (nI b)).2.1 i = dC d i ∧ dF (sr_learn d s (nI b)).2.1 i = dF d i) ∧
      TR n (dC (sr_learn d s (nI b)).2.1) (dz (sr_learn d s (nI b)).2.1) (sT (sr_learn d s (nI b)).2.2) (sR (sr_learn d s (nI b)).2.2) (sn (sr_learn d s (nI b)).2.2) (sh (sr_learn d s (nI b)).2.2) t ∧
      NBR (dC (sr_learn d s (nI b)).2.1) (dz (sr_learn d s (nI b)).2.1) (sR (sr_learn d s (nI b)).2.2) (sn (sr_learn d s (nI b)).2.2) t ∧
      PND (dC (sr_learn d s (nI b)).2.1) (dz (sr_learn d s (nI b)).2.1) 0 (numT (sR s) (sn s) + 1) (sR (sr_learn d s (nI b)).2.2) (sn (sr_learn d s (nI b)).2.2) t)) := by
  obtain ⟨D1, D2, D3, D4, D5, D6⟩ := D
  have hlen := (TR_len H).1
  have hN1 := numT_le (sR s) (sn s) (by omega)
  have hp2 : 0 < 2 ^ (10 - sn s) := Nat.pow_pos (by omega)
  obtain ⟨hl1, hl2, hl3⟩ := ld_spec (sR s) (sn s)
  have hrun := lr_run (sR s) hl1 (by omega) hl2 hl3
  have hS1 : pS (numT (sR s) (sn s) + 1) = pS (numT (sR s) (sn s)) + (1 + lr0 11 (numT (sR s) (sn s))) := rfl
  have hS2 : pS (numT (sR s) (sn s) + 1) ≤ pS 1024 := pS_mono 1024 (by omega)
  have hS3 : pS L ≤ pS (numT (sR s) (sn s)) := pS_mono _ hL
  have hS4 := pS_end
  have hz31 : dz d < 2 ^ 31 := by omega
  have elk : dk_link d (nI b) = (dC d, dF d, dT d, upd (dK d) (dl d) (nI b), dz d, dl d + 1, dO d) := by
    unfold dk_link
    rw [if_pos (by omega)]
  have hR := res_ok (b := b) (la := sr_late s) H D1 hz31 (b_late H) (by omega) (sn s) (dC d b) (dk_link d (nI b)) 0 hl1 (Nat.le_refl _) (by
    rw [elk]
    refine ⟨⟨rfl, rfl, rfl, rfl, rfl⟩, rfl, by omega, fun j hj => pk_un (by omega), pk_us, rfl, fun i hi => ?_, fun hne => ?_, fun M hM => hM b hb⟩
    · exact ⟨(D1 b hb i hi).1, (D1 b hb i hi).2, hB i hi⟩
    · apply Classical.byContradiction
      intro hno
      refine hN (sr_ld (sR s) (sn s) - 1) (by omega) (hl2 hne) b hb (fun l hl => ?_)
      obtain ⟨j, hj, ej⟩ := hB l hl
      refine ⟨j, ?_, ej⟩
      apply Classical.byContradiction
      intro hge
      exact hno (LTE_mk l j hl (by omega) hj ej))
  have el1 : sr_learn1 d s (nI b) = sr_res (sT s) (sR s) (sr_ld (sR s) (sn s)) (sr_late s) (sn s) (dC d b) (dk_link d (nI b)) := by
    unfold sr_learn1
    rw [dk_cl_at hb hz31]
  unfold sr_learn
  rw [el1]
  generalize sr_res (sT s) (sR s) (sr_ld (sR s) (sn s)) (sr_late s) (sn s) (dC d b) (dk_link d (nI b)) = yd at hR ⊢
  obtain ⟨y, d2⟩ := yd
  obtain ⟨⟨a1, a2, a3, a4, a5⟩, ⟨q, q1, q2, q3, q4, q5⟩, r1, r2, r3, r4⟩ := hR
  have a1 : dC d2 = dC d := a1
  have a2 : dF d2 = dF d := a2
  have a3 : dT d2 = dT d := a3
  have a4 : dz d2 = dz d := a4
  have a5 : dO d2 = dO d := a5
  have q1 : dl d2 = dl d + 1 + q := q1
  have hde : dk_derive d2 y = (upd (dC d) (dz d) y, upd (dF d) (dz d) (nI (dl d)), upd (dT d) (dz d) (nI (dl d2)), dK d2, dz d + 1, dl d2, dl d2) := by
    rw [derive_eq (by rw [a4]; omega), a1, a2, a3, a4, a5, D4]
  have hdl31 : dl d < 2 ^ 31 := by omega
  show DK n (dk_derive d2 y) _ g ∧ _ ∧ ((y = 0 ∧ dz (dk_derive d2 y) = _ ∧ dC (dk_derive d2 y) _ = 0 ∧ dF (dk_derive d2 y) _ ≠ -1 ∧ _) ∨ _)
  rw [hde]
  have hdocket : DK n (upd (dC d) (dz d) y, upd (dF d) (dz d) (nI (dl d)), upd (dT d) (dz d) (nI (dl d2)), dK d2, dz d + 1, dl d2, dl d2) (numT (sR s) (sn s) + 1) g := by
    refine ⟨?_, ?_, ?_, rfl, ?_, ?_⟩
    · intro i hi l hl
      have hi : i < dz d + 1 := hi
      have hl : bt (upd (dC d) (dz d) y i) l = true := hl
      by_cases e : i = dz d
      · subst e; rw [pk_us] at hl; exact r1 l hl
      · rw [pk_un e] at hl; exact D1 i (by omega) l hl
    · show dz d + 1 ≤ _
      omega
    · show dl d2 ≤ _
      omega
    · intro i hi
      have hi : i < dz d + 1 := hi
      show upd (dF d) (dz d) (nI (dl d)) i = -1 ∨ DER (upd (dC d) (dz d) y) (upd (dF d) (dz d) (nI (dl d))) (upd (dT d) (dz d) (nI (dl d2))) (dK d2) (dl d2) i
      by_cases e : i = dz d
      · subst e
        refine Or.inr ⟨dl d, q, b, pk_us, ?_, by omega, q4, hb, ?_⟩
        · rw [pk_us, q1]
        · rw [pk_us, pk_un (show b ≠ dz d by omega)]
          exact REP_congr (C := dC d) (fun j hj => pk_un (by omega)) q (dl d + 1) (dC d b) (fun _ _ _ => rfl) q5
      · rcases D5 i (by omega) with h | h
        · exact Or.inl (by rw [pk_un e]; exact h)
        · exact Or.inr (DER_congr (fun j hj => pk_un (by omega)) (pk_un e) (pk_un e) q3 (by omega) h)
    · intro M hM i hi
      have hi : i < dz d + 1 := hi
      have hM : ∀ i, i < dz d + 1 → upd (dF d) (dz d) (nI (dl d)) i = -1 → sat M (upd (dC d) (dz d) y i) := hM
      have hM2 : ∀ i, i < dz d → sat M (dC d i) := D6 M (fun j hj e => by
        have h1 := hM j (by omega) (by rw [pk_un (by omega)]; exact e)
        rw [pk_un (by omega)] at h1
        exact h1)
      show sat M (upd (dC d) (dz d) y i)
      by_cases e : i = dz d
      · subst e; rw [pk_us]; exact r4 M hM2
      · rw [pk_un e]; exact hM2 i (by omega)
  refine ⟨hdocket, by omega, ?_⟩
  have hFne : upd (dF d) (dz d) (nI (dl d)) (dz d) ≠ -1 := by rw [pk_us]; exact nI_nm1 hdl31
  have hold : ∀ i, i < dz d → upd (dC d) (dz d) y i = dC d i ∧ upd (dF d) (dz d) (nI (dl d)) i = dF d i := fun i hi => ⟨pk_un (by omega), pk_un (by omega)⟩
  by_cases h0 : sr_ld (sR s) (sn s) = 0
  · refine Or.inl ⟨r2 h0, rfl, ?_, hFne, hold⟩
    show upd (dC d) (dz d) y (dz d) = 0
    rw [pk_us]; exact r2 h0
  · obtain ⟨a, ha, ⟨j0, j1, j2, j3⟩, hoth⟩ := r3 h0
    have ha20 := (r1 a ha).1
    have hy0 : y ≠ 0 := b_ne0.2 ⟨a, ha⟩
    obtain ⟨g1, g2, g3⟩ := jump_spec (T := sT s) (R := sR s) (y := y) (dec := sr_ld (sR s) (sn s) - 1) (sr_ld (sR s) (sn s) - 1) (sr_ld (sR s) (sn s) - 1) (Nat.le_refl _) (hl2 h0) (fun j h1 h2 => absurd h2 (by omega))
    have ecut : sr_cut s (sr_jump (sT s) (sR s) y (sr_ld (sR s) (sn s) - 1) (sr_ld (sR s) (sn s) - 1)) = (sT s, sR s, sr_jump (sT s) (sR s) y (sr_ld (sR s) (sn s) - 1) (sr_ld (sR s) (sn s) - 1), sr_cutH (sT s) (sr_jump (sT s) (sR s) y (sr_ld (sR s) (sn s) - 1) (sr_ld (sR s) (sn s) - 1)) (sn s) (sh s)) := by
      unfold sr_cut
      rw [if_neg (by omega)]
    show _ ∨ (y ≠ 0 ∧ _ ∧ _ ∧ _ ∧ TR n (upd (dC d) (dz d) y) (dz d + 1) (sT (sr_cut s _)) (sR (sr_cut s _)) (sn (sr_cut s _)) (sh (sr_cut s _)) t ∧ NBR (upd (dC d) (dz d) y) (dz d + 1) (sR (sr_cut s _)) (sn (sr_cut s _)) t ∧ PND (upd (dC d) (dz d) y) (dz d + 1) 0 _ (sR (sr_cut s _)) (sn (sr_cut s _)) t)
    rw [ecut]
    generalize sr_jump (sT s) (sR s) y (sr_ld (sR s) (sn s) - 1) (sr_ld (sR s) (sn s) - 1) = tg at g1 g2 g3 ⊢
    have htg : tg < sn s := by omega
    -- a denied literal of the learned clause stands before tg, but for the one
    have hoth2 : ∀ i, bt y i = true → i ≠ a → ∃ j, j < tg ∧ t j = cn i := by
      intro i hi hne
      obtain ⟨j, hj, ej⟩ := hoth i hi hne
      refine ⟨j, ?_, ej⟩
      apply Classical.byContradiction
      intro hge
      have h1 := g3 j (by omega) hj
      obtain ⟨t20, _, Te⟩ := H.1 j (by omega)
      rw [Te, neg_sb t20] at h1
      refine b_and0.1 h1 i hi ?_
      rw [b_sb (by have := cn_lt t20; omega), decide_eq_true_eq, ej, cn_cn (r1 i hi).1]
    have hnb : ∀ k, k ≤ tg → ¬ BRK (upd (dC d) (dz d) y) t k (dz d) := by
      intro k hk hBr
      obtain ⟨j, hj, ej⟩ := hBr a (by rw [pk_us]; exact ha)
      have := H.2.1 j j0 (by omega) j2 (by rw [ej, j3])
      omega
    refine Or.inr ⟨hy0, rfl, hFne, hold, ?_, ?_, ?_⟩
    · exact TR_more (TR_cut H (g := tg) (Nat.le_of_lt htg)) (Nat.le_succ _) (fun i hi => pk_un (Nat.ne_of_lt hi))
    · intro k hk e i hi hBr
      have hk : k < tg := hk
      have hi : i < dz d + 1 := hi
      by_cases ei : i = dz d
      · subst ei; exact hnb k (by omega) hBr
      · exact hN k (by omega) e i (by omega) (BRK_congr (pk_un ei) hBr)
    · refine Or.inr ⟨by show tg ≤ 9; omega, ?_, ?_, dz d, by omega, Nat.lt_succ_self _, ?_⟩
      · show numT (sR s) (sn s) + 1 ≤ numT (sR s) tg + 2 ^ (9 - tg)
        have h1 : numT (sR s) (sn s) + 2 ^ (10 - sn s) ≤ numT (sR s) (tg + 1) + 2 ^ (10 - (tg + 1)) := by
          have h9 : ∀ b, tg + 1 ≤ b → b ≤ 10 → numT (sR s) b + 2 ^ (10 - b) ≤ numT (sR s) (tg + 1) + 2 ^ (10 - (tg + 1)) := by
            intro b
            induction b with
            | zero => intro h _; exact absurd h (by omega)
            | succ b ih =>
              intro h hb
              rcases Nat.lt_or_ge b (tg + 1) with h1 | h1
              · rw [show b = tg from by omega]; exact Nat.le_refl _
              · have h2 := ih h1 (by omega)
                rw [p10 (show b ≤ 9 by omega)] at h2
                rw [show 10 - (b + 1) = 9 - b from by omega]
                have h3 : numT (sR s) (b + 1) ≤ numT (sR s) b + 2 ^ (9 - b) := by
                  show numT (sR s) b + (if sR s b = -1 then 0 else 2 ^ (9 - b)) ≤ _
                  split <;> omega
                omega
          exact h9 (sn s) (by omega) (by omega)
        have h2 : numT (sR s) (tg + 1) = numT (sR s) tg := by
          show numT (sR s) tg + (if sR s tg = -1 then 0 else 2 ^ (9 - tg)) = _
          rw [if_pos g2]; rfl
        rw [show 10 - (tg + 1) = 9 - tg from by omega] at h1
        omega
      · intro i hi hBr
        have hi : i < dz d + 1 := hi
        by_cases ei : i = dz d
        · subst ei; exact hnb tg (Nat.le_refl _) hBr
        · exact hN tg htg g2 i (by omega) (BRK_congr (pk_un ei) hBr)
      · refine ⟨a, ha20, by rw [pk_us]; exact ha, fun j hj e => ?_, fun i hi hne => ?_⟩
        · have hj : j < tg := hj
          have := H.2.1 j j0 (by omega) j2 (by rw [e, j3, cn_var ha20])
          omega
        · rw [pk_us] at hi
          exact hoth2 i hi hne
