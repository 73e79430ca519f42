/-! Part 21: the class's methods as plain functions. A docket: clauses, linksFrom, linksTo, links, size, linked, openFrom. A search: trail, reasons, length, held -/
abbrev DS : Type := (Nat → Int32) × (Nat → Int32) × (Nat → Int32) × (Nat → Int32) × Nat × Nat × Nat
abbrev SS : Type := (Nat → Int32) × (Nat → Int32) × Nat × Int32
abbrev dC (d : DS) : Nat → Int32 := d.1
abbrev dF (d : DS) : Nat → Int32 := d.2.1
abbrev dT (d : DS) : Nat → Int32 := d.2.2.1
abbrev dK (d : DS) : Nat → Int32 := d.2.2.2.1
abbrev dz (d : DS) : Nat := d.2.2.2.2.1
abbrev dl (d : DS) : Nat := d.2.2.2.2.2.1
abbrev dO (d : DS) : Nat := d.2.2.2.2.2.2
abbrev sT (s : SS) : Nat → Int32 := s.1
abbrev sR (s : SS) : Nat → Int32 := s.2.1
abbrev sn (s : SS) : Nat := s.2.2.1
abbrev sh (s : SS) : Int32 := s.2.2.2
def dk_cl (d : DS) (i : Int32) : Int32 := if 0 ≤ i ∧ i < nI (dz d) then dC d i.toNatClampNeg else 0
def dk_from (d : DS) (i : Int32) : Int32 := if 0 ≤ i ∧ i < nI (dz d) then dF d i.toNatClampNeg else -1
def dk_to (d : DS) (i : Int32) : Int32 := if 0 ≤ i ∧ i < nI (dz d) then dT d i.toNatClampNeg else -1
def dk_linkAt (d : DS) (i : Int32) : Int32 := if 0 ≤ i ∧ i < nI (dl d) then dK d i.toNatClampNeg else -1
def dk_link (d : DS) (c : Int32) : DS := if dl d < 3060 then (dC d, dF d, dT d, upd (dK d) (dl d) c, dz d, dl d + 1, dO d) else d
def dk_append (d : DS) (c f t : Int32) : DS := if dz d < 1575 then (upd (dC d) (dz d) c, upd (dF d) (dz d) f, upd (dT d) (dz d) t, dK d, dz d + 1, dl d, dO d) else d
def dk_give (d : DS) (c : Int32) : DS := dk_append d c (-1) (-1)
def dk_derive (d : DS) (c : Int32) : DS :=
  let e := dk_append d c (nI (dO d)) (nI (dl d))
  (dC e, dF e, dT e, dK e, dz e, dl e, dl e)
def dk_keep (d : DS) (g : Nat) : DS := (dC d, dF d, dT d, dK d, if dz d ≤ g then dz d else g, 0, 0)
def sr_hold (s : SS) (x r : Int32) : SS := if sn s < 10 then (upd (sT s) (sn s) x, upd (sR s) (sn s) r, sn s + 1, sh s ||| x) else s
/-- what is open of a clause -/
def cc_open (c h : Int32) : Int32 := c &&& (cc_neg h ^^^ (-1))
def cc_singleB (x : Int32) : Bool := decide (x ≠ 0) && decide (x &&& (x - 1) = 0)
/-- k clauses from i on -/
def sr_sweep (C : Nat → Int32) : Nat → Nat → SS → Int32 × SS
  | 0, _, s => (-1, s)
  | k + 1, i, s =>
    if C i &&& sh s = 0 then
      if cc_open (C i) (sh s) = 0 then (nI i, s)
      else if cc_singleB (cc_open (C i) (sh s)) = true then sr_sweep C k (i + 1) (sr_hold s (cc_open (C i) (sh s)) (nI i))
      else sr_sweep C k (i + 1) s
    else sr_sweep C k (i + 1) s
/-- r rounds at most -/
def sr_prop (C : Nat → Int32) (z : Nat) : Nat → SS → Int32 × SS
  | 0, s => (-1, s)
  | r + 1, s =>
    if (sr_sweep C z 0 s).1 ≠ -1 then sr_sweep C z 0 s
    else if sn s < sn (sr_sweep C z 0 s).2 then sr_prop C z r (sr_sweep C z 0 s).2
    else sr_sweep C z 0 s
/-- Literals.positivesUpTo -/
def cc_pos (n : Nat) : Int32 := ((1 : Int32) <<< (nI n &&& 31)) - 1
def cc_free (n : Nat) (h : Int32) : Int32 := cc_pos n &&& ((h ||| cc_neg h) ^^^ (-1))
def sr_decide (n : Nat) (s : SS) : SS := sr_hold s (cc_neg (cc_free n (sh s) &&& (-(cc_free n (sh s))))) (-1)
/-- the place of the latest decision, and one more; 0: none -/
def sr_ld (R : Nat → Int32) : Nat → Nat
  | 0 => 0
  | k + 1 => if R k = -1 then k + 1 else sr_ld R k
/-- the trail's literals from a on, k of them, joined to x -/
def sr_or (T : Nat → Int32) : Nat → Nat → Int32 → Int32
  | 0, _, x => x
  | k + 1, a, x => sr_or T k (a + 1) (x ||| T a)
/-- the resolutions, from place k - 1 down to ld -/
def sr_res (T R : Nat → Int32) (ld : Nat) (la : Int32) : Nat → Int32 → DS → Int32 × DS
  | 0, x, d => (x, d)
  | k + 1, x, d =>
    if k < ld then (x, d)
    else if ld ≠ 0 ∧ cc_singleB (x &&& la) = true then (x, d)
    else if x &&& cc_neg (T k) = 0 then sr_res T R ld la k x d
    else sr_res T R ld la k ((x &&& (cc_neg (T k) ^^^ (-1))) ||| (dk_cl d (R k) &&& (T k ^^^ (-1)))) (dk_link d (R k))
def sr_jump (T R : Nat → Int32) (x : Int32) : Nat → Nat → Nat
  | 0, t => t
  | k + 1, t => if x &&& cc_neg (T k) = 0 then (if R k = -1 then sr_jump T R x k k else sr_jump T R x k t) else t
/-- what is held, without the places from t to k - 1 -/
def sr_cutH (T : Nat → Int32) (t : Nat) : Nat → Int32 → Int32
  | 0, h => h
  | k + 1, h => if k < t then h else sr_cutH T t k (h &&& (T k ^^^ (-1)))
def sr_cut (s : SS) (t : Nat) : SS := (sT s, sR s, if sn s ≤ t then sn s else t, sr_cutH (sT s) t (sn s) (sh s))
/-- the latest literals' opposites -/
def sr_late (s : SS) : Int32 := cc_neg (sr_or (sT s) (sn s - (sr_ld (sR s) (sn s) - 1)) (sr_ld (sR s) (sn s) - 1) 0)
def sr_learn1 (d : DS) (s : SS) (b : Int32) : Int32 × DS := sr_res (sT s) (sR s) (sr_ld (sR s) (sn s)) (sr_late s) (sn s) (dk_cl d b) (dk_link d b)
def sr_learn (d : DS) (s : SS) (b : Int32) : Int32 × DS × SS :=
  ((sr_learn1 d s b).1, dk_derive (sr_learn1 d s b).2 (sr_learn1 d s b).1, sr_cut s (sr_jump (sT s) (sR s) (sr_learn1 d s b).1 (sr_ld (sR s) (sn s) - 1) (sr_ld (sR s) (sn s) - 1)))
def sr_find (n : Nat) : Nat → DS → SS → Bool × DS × SS
  | 0, d, s => (false, d, s)
  | f + 1, d, s =>
    if (sr_prop (dC d) (dz d) 11 s).1 = -1 then
      if n ≤ sn (sr_prop (dC d) (dz d) 11 s).2 then (true, d, (sr_prop (dC d) (dz d) 11 s).2)
      else sr_find n f d (sr_decide n (sr_prop (dC d) (dz d) 11 s).2)
    else if (sr_learn d (sr_prop (dC d) (dz d) 11 s).2 (sr_prop (dC d) (dz d) 11 s).1).1 = 0 then
      (false, (sr_learn d (sr_prop (dC d) (dz d) 11 s).2 (sr_prop (dC d) (dz d) 11 s).1).2.1, (sr_learn d (sr_prop (dC d) (dz d) 11 s).2 (sr_prop (dC d) (dz d) 11 s).1).2.2)
    else sr_find n f (sr_learn d (sr_prop (dC d) (dz d) 11 s).2 (sr_prop (dC d) (dz d) 11 s).1).2.1 (sr_learn d (sr_prop (dC d) (dz d) 11 s).2 (sr_prop (dC d) (dz d) 11 s).1).2.2
