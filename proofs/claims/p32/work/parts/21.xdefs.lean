/-! The office: the state, the pad (characters, what was told), the history (how many, where, which), the slots, what they hold. -/
abbrev XS : Type := ST × (Rw × Rw) × (Nat × (Nat → Nat) × (Nat → ST)) × (Nat → Option Nat) × (Nat → ST)
def XAt (G : gT) (x : Nat) (X : XS) (H : Heap) : Prop :=
  gE G x (eO 5 [.ref (x + 1), .ref (x + 37), .ref (x + 42), .ref (x + 260)]) H ∧ StAt G (x + 1) X.1 H ∧ PadAt G (x + 37) X.2.1.1 X.2.1.2 H ∧ HAt G (x + 42) X.2.2.1.1 X.2.2.1.2.1 X.2.2.1.2.2 H ∧ SlAt G (x + 260) X.2.2.2.1 H ∧
  (∀ i, i < 2 → ∀ z, X.2.2.2.1 i = some z → x + 262 ≤ z ∧ StAt G z (X.2.2.2.2 i) H) ∧ (∀ z w, X.2.2.2.1 0 = some z → X.2.2.2.1 1 = some w → z + 36 ≤ w ∨ w + 36 ≤ z)
theorem PadAt.fr {G : gT} {q lo hi : Nat} {S T : Rw} {H H1 : Heap} (h : PadAt G q S T H) (hf : gFr lo hi H H1) (hn : q + 5 ≤ lo ∨ hi ≤ q) : PadAt G q S T H1 := ⟨h.1.fr hf (by omega), h.2.1.fr hf (by omega), h.2.2.fr hf (by omega)⟩
theorem SlAt.fr {G : gT} {v lo hi : Nat} {o : Nat → Option Nat} {H H1 : Heap} (h : SlAt G v o H) (hf : gFr lo hi H H1) (hn : v + 2 ≤ lo ∨ hi ≤ v) : SlAt G v o H1 := ⟨h.1.fr hf (by omega), h.2.fr hf (by omega)⟩
abbrev SvAt (G : gT) (x : Nat) (o : Nat → Option Nat) (V : Nat → ST) (H : Heap) : Prop := ∀ i, i < 2 → ∀ z, o i = some z → x + 262 ≤ z ∧ StAt G z (V i) H
theorem SvAt.fr {G : gT} {x lo hi : Nat} {o : Nat → Option Nat} {V : Nat → ST} {H H1 : Heap} (h : SvAt G x o V H) (hf : gFr lo hi H H1) (hn : hi ≤ x + 262) : SvAt G x o V H1 := fun i hi z hz => ⟨(h i hi z hz).1, (h i hi z hz).2.fr hf (by have := (h i hi z hz).1; omega)⟩
/-- what the numbers of an office keep to -/
def XOk (X : XS) : Prop := SOk X.1 ∧ rB X.2.1.1 (2 ^ 31) ∧ rB (X.1.2 15) (2 ^ 29)
/-- behind a record: the history has the state, the state is another one -/
def xRc (X : XS) (Y : ST) : XS := (Y, X.2.1, (hrN X.2.2.1.1 + 1, hrP X.2.2.1.1 X.2.2.1.2.1, hrZ X.2.2.1.1 X.2.2.1.2.2 X.1), X.2.2.2)
/-- the pad's characters, and what was told -/
def xPd (X : XS) (S T : Rw) : XS := (X.1, (S, T), X.2.2)
abbrev xRs (X : XS) : Option Nat × Rw := pRs X.2.1.2.2 X.2.1.1
def xTd (X : XS) : XS := xPd X X.2.1.1 (xRs X).2
/-! the keys that are told stay small -/
theorem kW_lt {κ v g : Nat} (h : κ < 2 ^ 30) (hv : v < 6) (hg : g ≤ 26) : kW κ v g < 2 ^ 30 := by
  unfold kW
  apply Nat.or_lt_two_pow h
  have h1 : 2 ^ (5 * (5 - v)) ≤ 2 ^ 25 := Nat.pow_le_pow_right (by decide) (by omega)
  have h2 : g * 2 ^ (5 * (5 - v)) ≤ 26 * 2 ^ 25 := Nat.mul_le_mul hg h1
  omega
theorem prd_B {t f : Nat → Nat} : ∀ {i : Nat} {z : Nat × Nat × Rw}, prd t f i = some z → z.1 < 2 ^ 30 ∧ rB z.2.2 (2 ^ 30)
  | 0, z, h => by
    cases h
    exact ⟨Nat.le_of_ble_eq_true rfl, fun i hi => absurd hi (Nat.not_lt_zero i)⟩
  | i + 1, z, h => by
    cases e : prd t f i with
    | none => rw [prd, e] at h; cases h
    | some z0 =>
      obtain ⟨h1, h2⟩ := prd_B e
      rw [prd_s e] at h
      unfold pst at h
      split at h
      · cases h
        rename_i q
        exact ⟨kW_lt h1 q.2 (kO_lt _), h2⟩
      · split at h
        · cases h
          exact ⟨Nat.le_of_ble_eq_true rfl, rB_add h2 h1⟩
        · cases h
theorem pRs_B (t : Nat → Nat) (S : Rw) : rB (pRs t S).2 (2 ^ 30) := by
  have h0 : rB ((0, t) : Rw) (2 ^ 30) := fun i hi => absurd hi (Nat.not_lt_zero i)
  unfold pRs
  cases e : fF (fun i => (prd t S.2 (i + 1)).isNone) S.1 with
  | some j =>
    show rB (match prd t S.2 j with
      | some z => z.2.2
      | none => (0, t)) _
    cases e2 : prd t S.2 j with
    | none => exact h0
    | some z => exact (prd_B e2).2
  | none =>
    show rB (match prd t S.2 S.1 with
      | some z => if z.2.1 < 2 then (some S.1, z.2.2) else (none, rAdd 27 z.2.2 z.1)
      | none => (some S.1, (0, t))).2 _
    cases e2 : prd t S.2 S.1 with
    | none => exact h0
    | some z =>
      obtain ⟨h1, h2⟩ := prd_B e2
      show rB (if z.2.1 < 2 then (some S.1, z.2.2) else (none, rAdd 27 z.2.2 z.1)).2 _
      split
      · exact h2
      · exact rB_add h2 h1
/-! what the calls answer, and what they make of the office -/
def inD (v lo hi : Int32) : Bool := decide (lo ≤ v ∧ v ≤ hi)
def hiS (a : Int32) : Int32 := if a = nI 2 then nI 6 else nI 99
def cSet (X : XS) (a v : Int32) : Int32 × XS := if inD a (nI 0) (nI 2) && inD v (nI 1) (hiS a) then (nI (rA (X.1.2 0) a.toNatClampNeg), xRc X (X.1.1, va_up X.1.2 0 (rCh (X.1.2 0) a.toNatClampNeg v.toNatClampNeg))) else (-2, X)
def inL (c k : Int32) : Bool := inR c 2 && inR k 3
abbrev ixL (c k : Int32) : Nat := lix c.toNatClampNeg k.toNatClampNeg
/-- the names that are told come to list k, one after the other -/
def flS (Y : ST) (T : Rw) (k : Nat) : Nat → ST
  | 0 => Y
  | i + 1 => ((lrn (flS Y T k i) (T.2 i)).1, va_up (lrn (flS Y T k i) (T.2 i)).2 (5 + k) (rAdd 8 ((lrn (flS Y T k i) (T.2 i)).2 (5 + k)) (lrnN (flS Y T k i) (T.2 i))))
def cFil (X : XS) (c k : Nat) : Int32 × XS :=
  if (xRs X).1.isSome then (-3, xTd X)
  else if mJ X.1 (xRs X).2 c (5 + lix c k) = false then (-5, xTd X)
  else if 8 < (X.1.2 (5 + lix c k)).1 + (xRs X).2.1 ∨ 40 < knW X.1 (xRs X).2 then (-4, xTd X)
  else (nI ((flS X.1 (xRs X).2 (lix c k) (xRs X).2.1).2 (5 + lix c k)).1, xPd (xRc X (flS X.1 (xRs X).2 (lix c k) (xRs X).2.1)) (0, X.2.1.1.2) (xRs X).2)
def cFill (X : XS) (c k : Int32) : Int32 × XS := if inL c k then cFil X c.toNatClampNeg k.toNatClampNeg else (-1, X)
def cStrike (X : XS) (c k p : Int32) : Int32 × XS := if inL c k && inR p (X.1.2 (5 + ixL c k)).1 then
    (nI (rA (X.1.2 (5 + ixL c k)) p.toNatClampNeg), xRc X (X.1.1, va_up X.1.2 (5 + ixL c k) (rDrop (X.1.2 (5 + ixL c k)) p.toNatClampNeg))) else (-1, X)
def cStorm (X : XS) (c : Int32) : Int32 × XS := if inR c 2 then (match nxN X.1 c.toNatClampNeg with
    | none => (-5, X)
    | some v => if 16 ≤ (X.1.2 11).1 then (-4, X) else (nI ((rAdd 16 (X.1.2 11) v).1 - 1), xRc X (adS X.1 v c.toNatClampNeg))) else (-1, X)
def hmS (Y : ST) (g b : Nat) : ST := (Y.1, va_up (va_up Y.2 4 (rCh (Y.2 4) (rA (Y.2 11) g) (rA (Y.2 4) (rA (Y.2 11) g) + b))) 13 (rCh (Y.2 13) g (rA (Y.2 13) g + b)))
def cHarm (X : XS) (g b : Int32) : Int32 × XS := if inR g (X.1.2 11).1 then (if inD b (nI 1) (nI 50) then (nI (rA ((hmS X.1 g.toNatClampNeg b.toNatClampNeg).2 13) g.toNatClampNeg), xRc X (hmS X.1 g.toNatClampNeg b.toNatClampNeg)) else (-2, X)) else (-1, X)
def eyS (Y : ST) : ST := nxY (rhS (owS Y (Y.2 14).1) ((owS Y (Y.2 14).1).2 1).1)
def cEnd (X : XS) : Int32 × XS := if X.1.1 < 999 then (nI (hdB (owS X.1 (X.1.2 14).1) (rA ((owS X.1 (X.1.2 14).1).2 0) 0)), xRc X (eyS X.1)) else (-5, X)
abbrev xOne (X : XS) : Bool := (xRs X).1.isNone && (xRs X).2.1 == 1
def cNmk (X : XS) : Int32 × XS := if xOne X then (if 10 ≤ (X.1.2 14).1 ∨ 40 < knW X.1 (xRs X).2 then (-4, xTd X) else
    (nI ((rAdd 10 ((lrn X.1 (rA (xRs X).2 0)).2 14) (lrnN X.1 (rA (xRs X).2 0))).1 - 1), xPd (xRc X (adK (lrn X.1 (rA (xRs X).2 0)) (lrnN X.1 (rA (xRs X).2 0)))) (0, X.2.1.1.2) (xRs X).2)) else (-3, xTd X)
def apS (Y : ST) (g : Nat) : ST := (Y.1, va_up (va_up Y.2 15 (rCh (Y.2 15) g (rA (Y.2 15) g - 1))) 16 (rCh (Y.2 16) g (rA (Y.2 16) g + 1)))
def cApo (X : XS) (g : Int32) : Int32 × XS := if inR g (X.1.2 15).1 then (if rA (X.1.2 15) g.toNatClampNeg < 1 then (-5, X) else (nI (rA ((apS X.1 g.toNatClampNeg).2 15) g.toNatClampNeg), xRc X (apS X.1 g.toNatClampNeg))) else (-1, X)
def wrR (Y : ST) (S L : Rw) : Nat → Rw
  | 0 => (0, S.2)
  | i + 1 => apN (wrR Y S L i) (rA (Y.2 1) (L.2 i))
def cWrite (X : XS) (c k : Int32) : Int32 × XS := if inL c k then (nI (wrR X.1 X.2.1.1 (X.1.2 (5 + ixL c k)) (X.1.2 (5 + ixL c k)).1).1, xPd X (wrR X.1 X.2.1.1 (X.1.2 (5 + ixL c k)) (X.1.2 (5 + ixL c k)).1) X.2.1.2) else (-1, X)
def cOf (Y : ST) (a w : Int32) : Int32 := if inR a (Y.2 1).1 then (if inR w 7 then (match w.toNatClampNeg with
    | 0 => nI (kS (rA (Y.2 1) a.toNatClampNeg) (rA (Y.2 1) a.toNatClampNeg))
    | 1 => nI (rA (Y.2 2) a.toNatClampNeg)
    | 2 => nI (coF Y a.toNatClampNeg 2)
    | 3 => nI (rA (Y.2 3) a.toNatClampNeg)
    | 4 => nI (rA (Y.2 4) a.toNatClampNeg)
    | 5 => nI (nsO Y a.toNatClampNeg)
    | _ => nI (alT Y a.toNatClampNeg)) else -2) else -1
def cLetter (Y : ST) (a j : Int32) : Int32 := if inR a (Y.2 1).1 then (if kA (rA (Y.2 1) a.toNatClampNeg) j = 0 then -1 else nI (96 + kA (rA (Y.2 1) a.toNatClampNeg) j)) else -1
def cListed (Y : ST) (c k p : Int32) : Int32 := if inL c k && inR p (Y.2 (5 + ixL c k)).1 then nI (rA (Y.2 (5 + ixL c k)) p.toNatClampNeg) else -1
def cOfS (Y : ST) (g w : Int32) : Int32 := if inR g (Y.2 11).1 then (if inR w 4 then (match w.toNatClampNeg with
    | 0 => nI (rA (Y.2 11) g.toNatClampNeg)
    | 1 => nI (rA (Y.2 12) g.toNatClampNeg)
    | 2 => nI (rA (Y.2 13) g.toNatClampNeg)
    | _ => oI (-6) (twO Y g.toNatClampNeg)) else -2) else -1
def cOfN (Y : ST) (g w : Int32) : Int32 := if inR g (Y.2 14).1 then (if inR w 3 then (match w.toNatClampNeg with
    | 0 => nI (rA (Y.2 14) g.toNatClampNeg)
    | 1 => nI (rA (Y.2 15) g.toNatClampNeg)
    | _ => nI (rA (Y.2 16) g.toNatClampNeg)) else -2) else -1
def cRanked (Y : ST) (r : Int32) : Int32 := oI (-1) (fF (fun i => decide (nI (rnk Y i) = r)) (Y.2 1).1)
def cSign (S : Rw) (p : Int32) : Int32 := if inR p S.1 then nI (rA S p.toNatClampNeg) else -1
def cCount (X : XS) (w : Int32) : Int32 := if inR w 14 then (match w.toNatClampNeg with
    | 0 => nI X.1.1
    | 1 => nI (X.1.2 1).1
    | 2 => nI (sN (X.1.2 2).2 (X.1.2 2).1)
    | 3 => nI (X.1.2 11).1
    | 4 => nI (sN (X.1.2 3).2 (X.1.2 3).1)
    | 5 => nI (twN X.1)
    | 6 => nI (X.1.2 14).1
    | 7 => nI (sN (X.1.2 15).2 (X.1.2 15).1)
    | 8 => nI (sN (X.1.2 16).2 (X.1.2 16).1)
    | 9 => nI (rA (X.1.2 0) 0)
    | 10 => nI (rA (X.1.2 0) 1)
    | 11 => nI (rA (X.1.2 0) 2)
    | 12 => nI X.2.1.1.1
    | _ => nI X.2.2.1.1) else -2
def cFind (X : XS) : Int32 × XS := (if xOne X then oI (-6) (rPl (X.1.2 1) (rA (xRs X).2 0)) else -3, xTd X)
def cBeg (X : XS) : Int32 × XS := (if xOne X then nI (bgW X.1 (rA (xRs X).2 0)) else -3, xTd X)
def cNext (Y : ST) (c : Int32) : Int32 := if inR c 2 then oI (-6) (nxN Y c.toNatClampNeg) else -1
def cLeft (Y : ST) (c a : Int32) : Int32 := if inR c 2 then (if inR a 3 then nI (nmL Y c.toNatClampNeg a.toNatClampNeg) else -2) else -1
def cIfR (Y : ST) (h : Int32) : Int32 := if inD h (nI 1) (nI 99) then nI (hdB Y h.toNatClampNeg) else -2
def cSame (Y : ST) (a b : Int32) : Int32 := if inR a (Y.2 1).1 && inR b (Y.2 1).1 then nI (kS (rA (Y.2 1) a.toNatClampNeg) (rA (Y.2 1) b.toNatClampNeg)) else -1
/-- how many characters a number gives; 0: none, or it is no such number -/
def sgC : Nat → Nat → Nat → Nat
  | 0, r, s => if r = 0 then s else 0
  | f + 1, r, s => if r % 256 = 0 then (if r = 0 then s else 0) else if r % 256 < 33 ∨ 126 < r % 256 then 0 else sgC f (r / 256) (s + 1)
/-- the first i of n characters of the number come to the pad -/
def ptR (S : Rw) (w n : Nat) : Nat → Rw
  | 0 => S
  | i + 1 => rAdd 80 (ptR S w n i) (w / 256 ^ (n - 1 - i) % 256)
def cPut (X : XS) (w : Nat) : Int32 × XS := if sgC 8 w 0 = 0 then (-2, X) else if 80 < X.2.1.1.1 + sgC 8 w 0 then (-4, X) else (nI (ptR X.2.1.1 w (sgC 8 w 0) (sgC 8 w 0)).1, xPd X (ptR X.2.1.1 w (sgC 8 w 0) (sgC 8 w 0)) X.2.1.2)
def cWipe (X : XS) : Int32 × XS := (nI X.2.1.1.1, xPd X (0, X.2.1.1.2) X.2.1.2)
def cFault (X : XS) : Int32 × XS := (oI (-6) (xRs X).1, xTd X)
def cUndo (X : XS) : Int32 × XS := if X.2.2.1.1 = 0 then (-5, X) else (nI (X.2.2.1.1 - 1), (cpL X.1 (X.2.2.1.2.2 (X.2.2.1.1 - 1)) 17, X.2.1, (X.2.2.1.1 - 1, X.2.2.1.2), X.2.2.2))
/-- a slot's state: in the cells that it has, or in new ones from z on -/
def cSv (X : XS) (i z : Nat) : XS := match X.2.2.2.1 i with
  | none => (X.1, X.2.1, X.2.2.1, va_up X.2.2.2.1 i (some z), va_up X.2.2.2.2 i (cpL inS X.1 17))
  | some u => (X.1, X.2.1, X.2.2.1, va_up X.2.2.2.1 i (some u), va_up X.2.2.2.2 i (cpL (X.2.2.2.2 i) X.1 17))
def cSave (X : XS) (a : Int32) (z : Nat) : Int32 × XS := if inR a 2 then (nI (X.1.2 1).1, cSv X a.toNatClampNeg z) else (-2, X)
def cRes (X : XS) (a : Int32) : Int32 × XS := if inR a 2 then (match X.2.2.2.1 a.toNatClampNeg with
    | none => (-5, X)
    | some _ => (nI ((cpL X.1 (X.2.2.2.2 a.toNatClampNeg) 17).2 1).1, xRc X (cpL X.1 (X.2.2.2.2 a.toNatClampNeg) 17))) else (-2, X)
def inX : XS := (inS, ((0, fun _ => 0), (0, fun _ => 0)), (0, id, fun _ => inS), fun _ => none, fun _ => inS)
theorem inR_i {i n : Nat} (h : i < n) (h2 : i < 2 ^ 31) : inR (nI i) n = true := by rw [inR_nI h2]; simp [h]
theorem inL_nI {i j : Nat} (hi : i < 2) (hj : j < 3) : inL (nI i) (nI j) = true := by rw [inL, inR_i hi (by omega), inR_i hj (by omega)]; rfl
theorem inL_f {c k : Int32} {b : Nat} (h : loA b c k = none) : inL c k = false := by
  unfold loA at h
  unfold inL
  cases e : inR c 2 && inR k 3 with
  | false => rfl
  | true => rw [e] at h; simp at h
theorem inL_t {c k : Int32} {b z : Nat} (h : loA b c k = some z) : ∃ i j, i < 2 ∧ j < 3 ∧ c = nI i ∧ k = nI j := by
  unfold loA at h
  cases e : inR c 2 && inR k 3 with
  | false => rw [e] at h; simp at h
  | true =>
    rw [Bool.and_eq_true] at e
    obtain ⟨i, a1, -, a2⟩ := inR_t e.1
    obtain ⟨j, b1, -, b2⟩ := inR_t e.2
    exact ⟨i, j, a1, b1, a2, b2⟩
theorem inR_or (x : Int32) (n : Nat) : inR x n = false ∨ ∃ i, i < n ∧ i < 2 ^ 31 ∧ x = nI i := by
  cases e : inR x n with
  | false => exact Or.inl rfl
  | true => exact Or.inr (inR_t e)
theorem inR_out {x : Int32} {n : Nat} (h : inR x n = false) (hn : n ≤ 2 ^ 31) : x.toInt < 0 ∨ (n : Int) - 1 < x.toInt := by
  rcases Int.lt_or_le x.toInt 0 with q | q
  · exact Or.inl q
  · right
    have h0 : ¬ x < 0 := by rw [Int32.lt_iff_toInt_lt, Int32.toInt_zero]; omega
    obtain ⟨i, hi, rfl⟩ := gI_ex h0
    rw [inR_nI hi] at h
    have h2 : ¬ i < n := by simpa using h
    rw [nI_toInt hi]; omega
theorem x_end {G : gT} {x : Nat} {r : Int32 × XS} {v : Int32} {X' : XS} {H H1 : Heap} (e : r = (v, X')) (h : XAt G x X' H1) (hf : gFr x (x + 262) H H1) : wi (.int r.1) (fun H H1 => XAt G x r.2 H1 ∧ gFr x (x + 262) H H1) (some (.int v)) H H1 := by
  subst e; exact ⟨rfl, h, hf⟩
theorem kA_lt (κ : Nat) (x : Int32) : kA κ x < 32 := by unfold kA; split; exact kL_lt _ _; decide
theorem ixL_nI {i j : Nat} (hi : i < 2) (hj : j < 3) : ixL (nI i) (nI j) = lix i j := by unfold ixL; rw [nI_clamp (by omega), nI_clamp (by omega)]
theorem inD_ex {x : Int32} {lo hi : Nat} (h1 : ¬ x < nI lo) (h2 : x ≤ nI hi) (hl : lo < 2 ^ 31) (hh : hi < 2 ^ 31) : ∃ i, lo ≤ i ∧ i ≤ hi ∧ x = nI i := by
  rw [Int32.lt_iff_toInt_lt, nI_toInt hl] at h1
  rw [Int32.le_iff_toInt_le, nI_toInt hh] at h2
  have h0 : ¬ x < 0 := by rw [Int32.lt_iff_toInt_lt, Int32.toInt_zero]; omega
  obtain ⟨i, hi31, rfl⟩ := gI_ex h0
  rw [nI_toInt hi31] at h1 h2
  exact ⟨i, by omega, by omega, rfl⟩
theorem inD_lo {x : Int32} {lo hi : Nat} (h : x < nI lo) : inD x (nI lo) (nI hi) = false := by
  unfold inD
  have : ¬ nI lo ≤ x := by rw [Int32.le_iff_toInt_le]; rw [Int32.lt_iff_toInt_lt] at h; omega
  simp [this]
theorem inD_hi {x : Int32} {lo hi : Nat} (h : ¬ x ≤ nI hi) : inD x (nI lo) (nI hi) = false := by
  unfold inD; simp [h]
theorem inD_t {i lo hi : Nat} (h1 : lo ≤ i) (h2 : i ≤ hi) (hh : hi < 2 ^ 31) : inD (nI i) (nI lo) (nI hi) = true := by
  unfold inD
  rw [decide_eq_true_eq]
  exact ⟨(nI_lei (by omega) (by omega)).mpr h1, (nI_lei (by omega) hh).mpr h2⟩
theorem hiS_n {i : Nat} (h : i ≠ 2) (hi : i < 2 ^ 31) : hiS (nI i) = nI 99 := if_neg (fun e => h (nI_inj hi (by decide) e))
theorem hiS_2 {i : Nat} (h : i = 2) : hiS (nI i) = nI 6 := if_pos (by rw [h])
theorem nxN_lt {Y : ST} {c v : Nat} (h : SOk Y) (hc : c < 2) (e : nxN Y c = some v) : v < 2 ^ 30 := by
  unfold nxN at e
  cases e2 : fF (fun i => !wGv Y ((Lst Y c (Y.1 % 3)).2 i) c) (Lst Y c (Y.1 % 3)).1 with
  | none => rw [e2] at e; cases e
  | some i =>
    rw [e2] at e
    have e3 : (Lst Y c (Y.1 % 3)).2 i = v := by simpa using e
    rw [← e3]
    exact h.2.1 (5 + lix c (Y.1 % 3)) (by have := lix_lt hc (Nat.mod_lt Y.1 (show 0 < 3 by decide)); omega) i (fF_s e2).1
theorem oI6_some {o : Option Nat} (h : ¬ oI (-6) o = -6) : ∃ i, o = some i := by
  cases o with
  | some i => exact ⟨i, rfl⟩
  | none => exact absurd rfl h
theorem gI_m1 {a : Nat} (h : 1 ≤ a) : nI a + (-1) = nI (a - 1) := by
  have := gI_dec (a := a) (b := a - 1) (by omega)
  rw [← this]; rfl
theorem owR_n {Y : ST} : ∀ i, (owR Y i).1 = (Y.2 15).1
  | 0 => rfl
  | i + 1 => by
    show (if _ then rCh (owR Y i) i _ else owR Y i).1 = _
    have h := owR_n (Y := Y) i
    split
    · unfold rCh; split <;> exact h
    · exact h
theorem owR_B {Y : ST} {B : Nat} (h : rB (Y.2 15) B) : ∀ i, ∀ j, j < (Y.2 15).1 → (owR Y i).2 j < B + (if j < i then 1 else 0)
  | 0, j, hj => Nat.lt_of_lt_of_le (h j hj) (Nat.le_add_right _ _)
  | i + 1, j, hj => by
    have h1 := owR_B h i j hj
    have h2 : (owR Y i).2 j < B + (if j < i + 1 then 1 else 0) := Nat.lt_of_lt_of_le h1 (by split <;> split <;> omega)
    show (if _ then rCh (owR Y i) i (rA (owR Y i) i + 1) else owR Y i).2 j < _
    split
    · unfold rCh; split
      · rename_i q
        show (if j = i then rA (owR Y i) i + 1 else (owR Y i).2 j) < _
        by_cases e : j = i
        · rw [if_pos e, rA_in q, e, if_pos (by omega)]
          rw [e, if_neg (by omega)] at h1
          omega
        · rw [if_neg e]; exact h2
      · exact h2
    · exact h2
theorem SOk_ow {Y : ST} (h : SOk Y) (h15 : rB (Y.2 15) (2 ^ 29)) (n : Nat) : SOk (owS Y n) := by
  refine ⟨h.1, fun k hk => ?_, h.2.2⟩
  show rB (if k = 15 then owR Y n else Y.2 k) _
  split
  · intro j hj
    rw [owR_n] at hj
    have := owR_B h15 n j hj
    have h2 : (2 : Nat) ^ 29 + (if j < n then 1 else 0) ≤ 2 ^ 30 := by split <;> decide
    omega
  · exact h.2.1 k hk
theorem lrnN_B {Y : ST} {v : Nat} (hl : (Y.2 1).1 ≤ 40) : lrnN Y v < 2 ^ 30 := by
  cases e : rPl (Y.2 1) v with
  | some i => rw [(lrn_s e).2]; have := (fF_s e).1; omega
  | none =>
    rw [(lrn_n e).2]
    unfold rAdd; split
    · show (Y.2 1).1 + 1 - 1 < _; omega
    · omega
theorem SOk_lr {Y : ST} {v : Nat} (h : SOk Y) (hv : v < 2 ^ 30) : SOk (lrn Y v) := by
  cases e : rPl (Y.2 1) v with
  | some i => rw [(lrn_s e).1]; exact h
  | none =>
    rw [(lrn_n e).1]
    refine ⟨h.1, fun k hk => ?_, h.2.2⟩
    show rB (if k = 4 then rAdd 40 (Y.2 4) 0 else (if k = 3 then rAdd 40 (Y.2 3) 0 else (if k = 2 then rAdd 40 (Y.2 2) 0 else (if k = 1 then rAdd 40 (Y.2 1) v else Y.2 k)))) _
    split
    · exact rB_add (h.2.1 4 (by decide)) (by decide)
    · split
      · exact rB_add (h.2.1 3 (by decide)) (by decide)
      · split
        · exact rB_add (h.2.1 2 (by decide)) (by decide)
        · split
          · exact rB_add (h.2.1 1 (by decide)) hv
          · exact h.2.1 k hk
theorem lrn_k {Y : ST} {v : Nat} (hl : (Y.2 1).1 ≤ 40) : ((lrn Y v).2 1).1 ≤ 40 := by
  cases e : rPl (Y.2 1) v with
  | some i => rw [(lrn_s e).1]; exact hl
  | none =>
    rw [(lrn_n e).1]
    show (rAdd 40 (Y.2 1) v).1 ≤ 40
    exact (rAdd_pos (by decide) hl).2
theorem fl_ok {Y : ST} {T : Rw} {k : Nat} (h : SOk Y) (hl : (Y.2 1).1 ≤ 40) (hT : rB T (2 ^ 30)) (hk : k < 6) : ∀ i, i ≤ T.1 → SOk (flS Y T k i) ∧ ((flS Y T k i).2 1).1 ≤ 40
  | 0, _ => ⟨h, hl⟩
  | i + 1, hi => by
    obtain ⟨h1, h2⟩ := fl_ok h hl hT hk i (by omega)
    have hv := hT i (by omega)
    have h3 := SOk_lr h1 hv
    refine ⟨⟨h3.1, fun j hj => ?_, ?_⟩, ?_⟩
    · show rB (if j = 5 + k then rAdd 8 ((lrn (flS Y T k i) (T.2 i)).2 (5 + k)) (lrnN (flS Y T k i) (T.2 i)) else (lrn (flS Y T k i) (T.2 i)).2 j) _
      split
      · exact rB_add (h3.2.1 (5 + k) (by omega)) (lrnN_B h2)
      · exact h3.2.1 j hj
    · show rB (if 13 = 5 + k then rAdd 8 ((lrn (flS Y T k i) (T.2 i)).2 (5 + k)) (lrnN (flS Y T k i) (T.2 i)) else (lrn (flS Y T k i) (T.2 i)).2 13) _
      rw [if_neg (by omega)]; exact h3.2.2
    · show (if 1 = 5 + k then rAdd 8 ((lrn (flS Y T k i) (T.2 i)).2 (5 + k)) (lrnN (flS Y T k i) (T.2 i)) else (lrn (flS Y T k i) (T.2 i)).2 1).1 ≤ 40
      rw [if_neg (by omega)]; exact lrn_k h2
theorem StAt.top {G : gT} {b : Nat} {Y : ST} {H : Heap} (h : StAt G b Y H) : b + 36 ≤ H.size := by
  have h1 := (h.2.2 10 (by decide)).2.1.lt
  have e : ro 10 = 34 := rfl
  rw [e] at h1; omega
