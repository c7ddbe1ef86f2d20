/-! A state of the office: the year, and 17 rows: 0 settings, 1 keys, 2 retired, 3 storms of names, 4 harms of names, 5 .. 10 lists, 11 names of storms, 12 coasts, 13 harms, 14 names of namesakes, 15 owed, 16 written. -/
abbrev ST : Type := Nat × (Nat → Rw)
def ro : Nat → Nat
  | 0 => 1 | 1 => 3 | 2 => 5 | 3 => 7 | 4 => 9 | 5 => 24 | 6 => 26 | 7 => 28 | 8 => 30 | 9 => 32 | 10 => 34 | 11 => 12 | 12 => 14 | 13 => 16 | 14 => 18 | 15 => 20 | _ => 22
def cp : Nat → Nat
  | 0 => 3 | 1 => 40 | 2 => 40 | 3 => 40 | 4 => 40 | 5 => 8 | 6 => 8 | 7 => 8 | 8 => 8 | 9 => 8 | 10 => 8 | 11 => 16 | 12 => 16 | 13 => 16 | _ => 10
abbrev stFs (b y : Nat) : List Value := [.int (nI y), .ref (b + 1), .ref (b + 3), .ref (b + 5), .ref (b + 7), .ref (b + 9), .ref (b + 11), .ref (b + 12), .ref (b + 14), .ref (b + 16), .ref (b + 18), .ref (b + 20), .ref (b + 22)]
abbrev stLs (b : Nat) : Nat → Option Nat := fun k => some (b + 24 + 2 * k)
/-- the 36 cells of a state from b on -/
def StAt (G : gT) (b : Nat) (Y : ST) (H : Heap) : Prop := gE G b (eO 4 (stFs b Y.1)) H ∧ gE G (b + 11) (eR G 6 (stLs b)) H ∧ ∀ k, k < 17 → RowAt G (b + ro k) (cp k) (Y.2 k) H
theorem ro_lt : ∀ k, k < 17 → 1 ≤ ro k ∧ ro k + 1 < 36 ∧ (ro k + 1 < 11 ∨ 11 < ro k) := by decide
theorem ro_ap : ∀ k, k < 17 → ∀ j, j < 17 → k ≠ j → ro k + 2 ≤ ro j ∨ ro j + 2 ≤ ro k := by decide
theorem ro_ls : ∀ k, k < 6 → ro (5 + k) = 24 + 2 * k ∧ cp (5 + k) = 8 := by decide
theorem StAt.ls {G : gT} {b : Nat} {Y : ST} {H : Heap} (h : StAt G b Y H) {k : Nat} (hk : k < 6) : RowAt G (b + 24 + 2 * k) 8 (Y.2 (5 + k)) H := by
  have h1 := h.2.2 (5 + k) (by omega)
  rw [(ro_ls k hk).1, (ro_ls k hk).2, ← Nat.add_assoc] at h1
  exact h1
theorem StAt.up {G : gT} {b : Nat} {Y : ST} {H H1 : Heap} (h : StAt G b Y H) (k : Nat) (hk : k < 17) {R : Rw} (hr : RowAt G (b + ro k) (cp k) R H1) (hf : gFr (b + ro k) (b + ro k + 2) H H1) : StAt G b (Y.1, va_up Y.2 k R) H1 := by
  have hb := ro_lt k hk
  refine ⟨h.1.fr hf (by omega), h.2.1.fr hf (by omega), fun j hj => ?_⟩
  by_cases q : j = k
  · subst q
    show RowAt G _ _ (va_up Y.2 j R j) H1
    rw [show va_up Y.2 j R j = R from if_pos rfl]
    exact hr
  · show RowAt G _ _ (va_up Y.2 k R j) H1
    rw [show va_up Y.2 k R j = Y.2 j from if_neg q]
    have := ro_ap k hk j hj (Ne.symm q)
    exact (h.2.2 j hj).fr hf (by omega)
theorem StAt.upl {G : gT} {b : Nat} {Y : ST} {H H1 : Heap} (h : StAt G b Y H) {k : Nat} (hk : k < 6) {R : Rw} (hr : RowAt G (b + 24 + 2 * k) 8 R H1) (hf : gFr (b + 24 + 2 * k) (b + 24 + 2 * k + 2) H H1) : StAt G b (Y.1, va_up Y.2 (5 + k) R) H1 := by
  refine h.up (5 + k) (by omega) ?_ ?_
  · rw [(ro_ls k hk).1, (ro_ls k hk).2, ← Nat.add_assoc]; exact hr
  · rw [(ro_ls k hk).1, ← Nat.add_assoc]; exact hf
theorem StAt.fr {G : gT} {b lo hi : Nat} {Y : ST} {H H1 : Heap} (h : StAt G b Y H) (hf : gFr lo hi H H1) (hn : b + 36 ≤ lo ∨ hi ≤ b) : StAt G b Y H1 := by
  refine ⟨h.1.fr hf (by omega), h.2.1.fr hf (by omega), fun k hk => ?_⟩
  have := ro_lt k hk
  exact (h.2.2 k hk).fr hf (by omega)
theorem StAt.gr {G : gT} {b lo : Nat} {Y : ST} {H H1 : Heap} (h : StAt G b Y H) (hf : gGr lo H H1) (hn : b + 36 ≤ lo) : StAt G b Y H1 := by
  refine ⟨h.1.gr hf (by omega), h.2.1.gr hf (by omega), fun k hk => ?_⟩
  have := ro_lt k hk
  exact (h.2.2 k hk).gr hf (by omega)
theorem StAt.ch {G : gT} {b a : Nat} {Y : ST} {H H1 : Heap} (h : StAt G b Y H) (hc : gCh a H H1) (hn : a < b ∨ b + 36 ≤ a) : StAt G b Y H1 := by
  refine ⟨h.1.ch hc (by omega), h.2.1.ch hc (by omega), fun k hk => ?_⟩
  have := ro_lt k hk
  exact (h.2.2 k hk).ch hc (by omega)
theorem StAt.nw {G : gT} {b a : Nat} {Y : ST} {H H1 : Heap} (h : StAt G b Y H) (hq : ∀ q : Nat, q < a → H1[q]? = H[q]?) (hn : b + 36 ≤ a) : StAt G b Y H1 := by
  refine ⟨h.1.nw hq (by omega), h.2.1.nw hq (by omega), fun k hk => ?_⟩
  have := ro_lt k hk
  exact (h.2.2 k hk).nw hq (by omega)
/-- another year in the object -/
theorem StAt.yr {G : gT} {b y : Nat} {Y : ST} {H H1 : Heap} (h : StAt G b Y H) (ho : gE G b (eO 4 (stFs b y)) H1) (hc : gCh b H H1) : StAt G b (y, Y.2) H1 := by
  refine ⟨ho, h.2.1.ch hc (by omega), fun k hk => ?_⟩
  have := ro_lt k hk
  exact (h.2.2 k hk).ch hc (by omega)
/-- what the numbers of a state keep to -/
def SOk (Y : ST) : Prop := Y.1 < 2 ^ 30 ∧ (∀ k, k < 17 → rB (Y.2 k) (2 ^ 30)) ∧ rB (Y.2 13) (2 ^ 26)
theorem rB.mono {R : Rw} {B C : Nat} (h : rB R B) (hc : B ≤ C) : rB R C := fun i hi => Nat.lt_of_lt_of_le (h i hi) hc
theorem SOk.b {Y : ST} (h : SOk Y) {k : Nat} (hk : k < 17) : rB (Y.2 k) (2 ^ 31) := (h.2.1 k hk).mono (by decide)
theorem rA_lt {R : Rw} {B i : Nat} (h : rB R B) (hb : 0 < B) : rA R i < B := by
  unfold rA; split
  · exact h i (by assumption)
  · exact hb
/-! what the queries answer -/
/-- the place of a list's row -/
def lix (c k : Nat) : Nat := 3 * c + k
def loA (b : Nat) (x y : Int32) : Option Nat := if inR x 2 && inR y 3 then some (b + 24 + 2 * lix x.toNatClampNeg y.toNatClampNeg) else none
abbrev Lst (Y : ST) (c k : Nat) : Rw := Y.2 (5 + lix c k)
def stO (Y : ST) (v c : Nat) : Bool := aN (fun k => (rPl (Lst Y c k) v).isSome) 3
def coF (Y : ST) (v : Nat) : Nat → Nat
  | 0 => 0
  | i + 1 => if stO Y v i then coF Y v i ||| 2 ^ i else coF Y v i
abbrev lik (Y : ST) : Nat := rA (Y.2 0) 2
def tkn (Y : ST) (v c : Nat) : Bool := match rPl (Y.2 1) v with
  | some i => rA (Y.2 2) i == 1 || stO Y i c
  | none => false
def alL (Y : ST) (v k : Nat) : Bool := aN (fun i => kAl v (rA (Y.2 1) ((Y.2 k).2 i)) (lik Y)) (Y.2 k).1
def mJ1 (Y : ST) (T : Rw) (i : Nat) : Bool := aN (fun j => T.2 i == T.2 j || kAl (T.2 i) (T.2 j) (lik Y)) i
def mJ (Y : ST) (T : Rw) (c k : Nat) : Bool := !aN (fun i => tkn Y (T.2 i) c || alL Y (T.2 i) k || mJ1 Y T i) T.1
def alT (Y : ST) (i : Nat) : Nat := cN (fun j => kAl (rA (Y.2 1) i) ((Y.2 1).2 j) (lik Y)) (Y.2 1).1
def bgW (Y : ST) (v : Nat) : Nat := cN (fun j => kS v ((Y.2 1).2 j) == kS v v) (Y.2 1).1
def rnk (Y : ST) (i : Nat) : Nat := cN (fun j => decide ((Y.2 1).2 j < rA (Y.2 1) i)) (Y.2 1).1
def knW (Y : ST) (T : Rw) : Nat := (Y.2 1).1 + cN (fun i => !(rPl (Y.2 1) (T.2 i)).isSome) T.1
def wGv (Y : ST) (v c : Nat) : Bool := aN (fun s => (Y.2 11).2 s == v && rA (Y.2 12) s == c) (Y.2 11).1
def nxN (Y : ST) (c : Nat) : Option Nat := (fF (fun i => !wGv Y ((Lst Y c (Y.1 % 3)).2 i) c) (Lst Y c (Y.1 % 3)).1).map (Lst Y c (Y.1 % 3)).2
def nmL (Y : ST) (c a : Nat) : Nat := cN (fun i => decide (0 < a) || !wGv Y ((Lst Y c ((Y.1 + a) % 3)).2 i) c) (Lst Y c ((Y.1 + a) % 3)).1
def twO (Y : ST) (s : Nat) : Option Nat := fF (fun o => o != s && (Y.2 11).2 o == rA (Y.2 11) s) (Y.2 11).1
def twB (Y : ST) (s : Nat) : Bool := match twO Y s with
  | some t => decide (s < t)
  | none => false
def twN (Y : ST) : Nat := cN (twB Y) (Y.2 11).1
def hY (Y : ST) (v : Nat) : Nat := sN (fun s => if (Y.2 11).2 s == v then rA (Y.2 13) s else 0) (Y.2 11).1
def hdB (Y : ST) (h : Nat) : Nat := cN (fun i => decide (h ≤ hY Y i)) (Y.2 1).1
def nsO (Y : ST) (v : Nat) : Nat := cN (fun i => (Y.2 14).2 i == v) (Y.2 14).1
theorem hY_lt {Y : ST} (h : SOk Y) (hn : (Y.2 11).1 ≤ 16) (v : Nat) : hY Y v < 2 ^ 31 := by
  have h1 : hY Y v ≤ (Y.2 11).1 * 2 ^ 26 := sN_le (fun j _ => by
    split
    · exact Nat.le_of_lt (rA_lt h.2.2 (by decide))
    · exact Nat.zero_le _)
  have h2 : (Y.2 11).1 * 2 ^ 26 ≤ 16 * 2 ^ 26 := Nat.mul_le_mul_right _ hn
  omega
theorem lix_lt {c k : Nat} (hc : c < 2) (hk : k < 3) : lix c k < 6 := by unfold lix; omega
theorem loA_nI {b c k : Nat} (hc : c < 2) (hk : k < 3) : loA b (nI c) (nI k) = some (b + 24 + 2 * lix c k) := by
  rw [loA, inR_nI (by omega), inR_nI (by omega), nI_clamp (by omega), nI_clamp (by omega)]
  simp [hc, hk]
theorem tkn_s {Y : ST} {v i c : Nat} (h : rPl (Y.2 1) v = some i) : tkn Y v c = (rA (Y.2 2) i == 1 || stO Y i c) := by unfold tkn; rw [h]
theorem tkn_n {Y : ST} {v c : Nat} (h : rPl (Y.2 1) v = none) : tkn Y v c = false := by unfold tkn; rw [h]
