/-! The mathematics that the contracts speak of: rows of numbers, keys. -/
/-- a row: how many, and what stands at each place (also behind the last one) -/
abbrev Rw : Type := Nat × (Nat → Nat)
def rA (R : Rw) (i : Nat) : Nat := if i < R.1 then R.2 i else 0
def rCh (R : Rw) (i v : Nat) : Rw := if i < R.1 then (R.1, va_up R.2 i v) else R
def rAdd (cap : Nat) (R : Rw) (v : Nat) : Rw := if R.1 < cap then (R.1 + 1, va_up R.2 R.1 v) else R
def rDrop (R : Rw) (i : Nat) : Rw := if i < R.1 then (R.1 - 1, fun k => if i ≤ k ∧ k + 1 < R.1 then R.2 (k + 1) else R.2 k) else R
def rDx (R : Rw) (x : Int32) : Rw := if inR x R.1 then rDrop R x.toNatClampNeg else R
def rCp (R F : Rw) : Rw := (F.1, fun k => if k < F.1 then F.2 k else R.2 k)
def rB (R : Rw) (B : Nat) : Prop := ∀ i, i < R.1 → R.2 i < B
/-- the first place below n of a kind -/
def fF (p : Nat → Bool) (n : Nat) : Option Nat := (List.range n).find? p
theorem fF_some {p : Nat → Bool} {n i : Nat} (hi : i < n) (hp : p i = true) (hn : ∀ j, j < i → p j = false) : fF p n = some i := by
  rw [fF, List.find?_range_eq_some]
  exact ⟨hp, List.mem_range.mpr hi, fun j hj => by rw [hn j hj]; rfl⟩
theorem fF_none {p : Nat → Bool} {n : Nat} (hn : ∀ j, j < n → p j = false) : fF p n = none := by
  rw [fF, List.find?_eq_none]
  intro j hj
  rw [hn j (List.mem_range.mp hj)]; simp
theorem fF_s {p : Nat → Bool} {n i : Nat} (h : fF p n = some i) : i < n ∧ p i = true ∧ ∀ j, j < i → p j = false := by
  rw [fF, List.find?_range_eq_some] at h
  refine ⟨List.mem_range.mp h.2.1, h.1, fun j hj => ?_⟩
  have := h.2.2 j hj
  simpa using this
theorem fF_n {p : Nat → Bool} {n : Nat} (h : fF p n = none) : ∀ j, j < n → p j = false := by
  rw [fF, List.find?_eq_none] at h
  intro j hj
  have := h j (List.mem_range.mpr hj)
  simpa using this
theorem fF_cong {p q : Nat → Bool} {n : Nat} (h : ∀ j, j < n → p j = q j) : fF p n = fF q n := by
  cases e : fF q n with
  | some i =>
    obtain ⟨a, b, c⟩ := fF_s e
    exact fF_some a (by rw [h i a]; exact b) (fun j hj => by rw [h j (by omega)]; exact c j hj)
  | none => exact fF_none (fun j hj => by rw [h j hj]; exact fF_n e j hj)
def rPl (R : Rw) (v : Nat) : Option Nat := fF (fun i => R.2 i == v) R.1
def oI (d : Int32) (o : Option Nat) : Int32 := match o with
  | some i => nI i
  | none => d
/-- how many below n are of a kind; a sum; whether one is of a kind -/
def cN (p : Nat → Bool) : Nat → Nat
  | 0 => 0
  | n + 1 => cN p n + (if p n then 1 else 0)
theorem cN_s (p : Nat → Bool) (n : Nat) : cN p (n + 1) = cN p n + (if p n then 1 else 0) := rfl
theorem cN_le (p : Nat → Bool) : ∀ n, cN p n ≤ n
  | 0 => Nat.le_refl 0
  | n + 1 => by
    have h := cN_le p n
    rw [cN_s]
    split <;> omega
theorem cN_cong {p q : Nat → Bool} : ∀ {n : Nat}, (∀ j, j < n → p j = q j) → cN p n = cN q n
  | 0, _ => rfl
  | n + 1, h => by rw [cN_s, cN_s, cN_cong (fun j hj => h j (by omega)), h n (by omega)]
def sN (f : Nat → Nat) : Nat → Nat
  | 0 => 0
  | n + 1 => sN f n + f n
theorem sN_s (f : Nat → Nat) (n : Nat) : sN f (n + 1) = sN f n + f n := rfl
theorem sN_cong {f g : Nat → Nat} : ∀ {n : Nat}, (∀ j, j < n → f j = g j) → sN f n = sN g n
  | 0, _ => rfl
  | n + 1, h => by rw [sN_s, sN_s, sN_cong (fun j hj => h j (by omega)), h n (by omega)]
theorem sN_le {f : Nat → Nat} {B : Nat} : ∀ {n : Nat}, (∀ j, j < n → f j ≤ B) → sN f n ≤ n * B
  | 0, _ => by simp [sN]
  | n + 1, h => by
    have h1 := sN_le (n := n) (fun j hj => h j (by omega))
    have h2 := h n (by omega)
    rw [sN_s, Nat.add_mul]; omega
def aN (p : Nat → Bool) : Nat → Bool
  | 0 => false
  | n + 1 => aN p n || p n
theorem aN_s (p : Nat → Bool) (n : Nat) : aN p (n + 1) = (aN p n || p n) := rfl
theorem aN_t {p : Nat → Bool} : ∀ {n : Nat}, aN p n = true ↔ ∃ j, j < n ∧ p j = true
  | 0 => by simp [aN]
  | n + 1 => by
    rw [aN_s, Bool.or_eq_true, aN_t]
    constructor
    · rintro (⟨j, hj, hp⟩ | hp)
      · exact ⟨j, by omega, hp⟩
      · exact ⟨n, by omega, hp⟩
    · rintro ⟨j, hj, hp⟩
      rcases Nat.lt_or_ge j n with h | h
      · exact Or.inl ⟨j, h, hp⟩
      · have : j = n := by omega
        subst this; exact Or.inr hp
theorem aN_f {p : Nat → Bool} {n : Nat} : aN p n = false ↔ ∀ j, j < n → p j = false := by
  rw [← Bool.not_eq_true, aN_t]
  constructor
  · intro h j hj
    cases e : p j with
    | false => rfl
    | true => exact absurd ⟨j, hj, e⟩ h
  · rintro h ⟨j, hj, hp⟩
    rw [h j hj] at hp; cases hp
theorem aN_cong {p q : Nat → Bool} {n : Nat} (h : ∀ j, j < n → p j = q j) : aN p n = aN q n := by
  cases e : aN q n with
  | true => obtain ⟨j, a, b⟩ := aN_t.mp e; exact aN_t.mpr ⟨j, a, by rw [h j a]; exact b⟩
  | false => exact aN_f.mpr (fun j hj => by rw [h j hj]; exact aN_f.mp e j hj)
theorem fF_isSome {p : Nat → Bool} {n : Nat} : (fF p n).isSome = aN p n := by
  cases e : fF p n with
  | some i => obtain ⟨a, b, c⟩ := fF_s e; exact (aN_t.mpr ⟨i, a, b⟩).symm
  | none => exact (aN_f.mpr (fF_n e)).symm
/-! a row in the heap: its object, and its cells right behind it -/
def RowAt (G : gT) (r cap : Nat) (R : Rw) (H : Heap) : Prop := gE G r (eO 2 [.ref (r + 1), .int (nI R.1)]) H ∧ gE G (r + 1) (eI G cap R.2) H ∧ R.1 ≤ cap ∧ cap < 2 ^ 31
theorem RowAt.fr {G : gT} {r cap lo hi : Nat} {R : Rw} {H H1 : Heap} (h : RowAt G r cap R H) (hf : gFr lo hi H H1) (hn : r + 2 ≤ lo ∨ hi ≤ r) : RowAt G r cap R H1 := ⟨h.1.fr hf (by omega), h.2.1.fr hf (by omega), h.2.2⟩
theorem RowAt.lt {G : gT} {r cap : Nat} {R : Rw} {H : Heap} (h : RowAt G r cap R H) : R.1 < 2 ^ 31 := Nat.lt_of_le_of_lt h.2.2.1 h.2.2.2
/-! keys: six places of five bits -/
def kL (κ j : Nat) : Nat := κ / 2 ^ (5 * (5 - j)) % 32
def kA (κ : Nat) (x : Int32) : Nat := if inR x 6 then kL κ x.toNatClampNeg else 0
theorem kA_nI {κ i : Nat} (hi : i < 6) : kA κ (nI i) = kL κ i := by rw [kA, inR_nI (by omega), nI_clamp (by omega)]; simp [hi]
def kW (κ j v : Nat) : Nat := κ ||| v * 2 ^ (5 * (5 - j))
def kO (sg : Nat) : Nat := if 97 ≤ sg ∧ sg ≤ 122 then sg - 96 else 0
def kS (κ o : Nat) : Nat := (fF (fun j => !(kL κ j != 0 && kL κ j == kL o j)) 6).getD 6
def kAl (κ o L : Nat) : Bool := κ != o && decide (L ≤ kS κ o)
theorem kL_lt (κ j : Nat) : kL κ j < 32 := Nat.mod_lt _ (by decide)
theorem kS_le (κ o : Nat) : kS κ o ≤ 6 := by
  unfold kS
  cases e : fF (fun j => !(kL κ j != 0 && kL κ j == kL o j)) 6 with
  | some i => exact Nat.le_of_lt (fF_s e).1
  | none => exact Nat.le_refl 6
theorem kS_at {κ o i : Nat} (hi : i ≤ 6) (h : ∀ j, j < i → kL κ j ≠ 0 ∧ kL κ j = kL o j) (h2 : i < 6 → kL κ i = 0 ∨ kL κ i ≠ kL o i) : kS κ o = i := by
  unfold kS
  rcases Nat.lt_or_ge i 6 with q | q
  · rw [fF_some q]
    · rfl
    · rcases h2 q with e | e <;> simp [e]
    · intro j hj
      obtain ⟨a, b⟩ := h j hj
      simp only [Bool.not_eq_false', Bool.and_eq_true, bne_iff_ne, ne_eq, beq_iff_eq]
      exact ⟨a, b⟩
  · rw [fF_none]
    · show 6 = i; omega
    · intro j hj
      obtain ⟨a, b⟩ := h j (by omega)
      simp only [Bool.not_eq_false', Bool.and_eq_true, bne_iff_ne, ne_eq, beq_iff_eq]
      exact ⟨a, b⟩
theorem rdI {x y : Int32} (h : y = x) : some (Value.int x) = some (Value.int y) := by rw [h]
theorem rdB {x y : Bool} (h : y = x) : some (Value.int (bI x)) = some (Value.int (bI y)) := by rw [h]
theorem gI_off {g : Nat} (h : g < 97) (c : ¬ nI g - nI 97 + nI 1 < nI 1) : False := by
  apply c
  have hm : ∀ z : Nat, z < 97 → nI z - nI 97 + nI 1 < nI 1 := by decide +kernel
  exact hm g h
theorem all_s {P : Nat → Prop} {i : Nat} (h : ∀ j, j < i → P j) (hi : P i) : ∀ j, j < i + 1 → P j := by
  intro j hj
  rcases Nat.lt_or_ge j i with q | q
  · exact h j q
  · have e : j = i := by omega
    rw [e]; exact hi
theorem all_0 {P : Nat → Prop} : ∀ j, j < 0 → P j := fun j hj => absurd hj (Nat.not_lt_zero j)
theorem bD {c : Prop} {b : Bool} (h : c ↔ b = true) (hc : c) : bI b = 1 := by rw [h.mp hc]; rfl
theorem gRg.mk {lo hi q : Nat} (h1 : lo ≤ q) (h2 : q < hi) : gRg lo hi q := ⟨h1, h2⟩
theorem rA_in {R : Rw} {i : Nat} (h : i < R.1) : rA R i = R.2 i := if_pos h
theorem rA_out {R : Rw} {i : Nat} (h : R.1 ≤ i) : rA R i = 0 := if_neg (by omega)
theorem rDx_n {R : Rw} {i : Nat} (h : i < 2 ^ 31) : rDx R (nI i) = rDrop R i := by
  rw [rDx, inR_nI h, nI_clamp h]
  by_cases q : i < R.1
  · simp [q]
  · simp [q, rDrop]
theorem rDx_m {R : Rw} {x : Int32} (h : x < 0) : rDx R x = R := by rw [rDx, inR_neg h]; rfl
/-- the places i .. j - 1 moved one place nearer -/
def rMv (f : Nat → Nat) (i j : Nat) : Nat → Nat := fun k => if i ≤ k ∧ k + 1 < j then f (k + 1) else f k
theorem rMv_0 (f : Nat → Nat) (i : Nat) : rMv f i (i + 1) = f := by
  funext k; rw [rMv, if_neg (by omega)]
theorem rMv_s (f : Nat → Nat) {i j : Nat} (h : i < j) : va_up (rMv f i j) (j - 1) (f j) = rMv f i (j + 1) := by
  funext k
  simp only [va_up, rMv]
  by_cases q : k = j - 1
  · subst q; rw [if_pos rfl, if_pos (by omega)]; congr 1; omega
  · rw [if_neg q]
    by_cases q2 : i ≤ k ∧ k + 1 < j
    · rw [if_pos q2, if_pos (by omega)]
    · rw [if_neg q2, if_neg (by omega)]
theorem rMv_at (f : Nat → Nat) {i j : Nat} (h : i < j) : rMv f i j j = f j := by rw [rMv, if_neg (by omega)]
theorem rDrop_e {R : Rw} {i : Nat} (h : i < R.1) : rDrop R i = (R.1 - 1, rMv R.2 i R.1) := if_pos h
theorem nI_sur (x : Int32) : ∃ z : Nat, x = nI z := ⟨x.toBitVec.toNat, by
  apply Int32.toBitVec_inj.mp
  apply BitVec.eq_of_toNat_eq
  rw [gI_nat x.toBitVec.isLt]⟩
theorem rMv_c {A : Rw} {i j : Nat} (hij : i < j) (hj : j < A.1) : rCh (A.1, rMv A.2 i j) (j - 1) (A.2 j) = (A.1, rMv A.2 i (j + 1)) := by
  rw [rCh, if_pos (by show j - 1 < A.1; omega)]
  show (A.1, va_up (rMv A.2 i j) (j - 1) (A.2 j)) = _
  rw [rMv_s _ hij]
theorem oI_m {o : Option Nat} (h : ∀ i, o = some i → i < 2 ^ 31) : oI (-1) o = -1 ↔ o = none := by
  cases o with
  | none => exact ⟨fun _ => rfl, fun _ => rfl⟩
  | some i =>
    have hi := h i rfl
    constructor
    · intro q
      have h1 : nI i < 0 := by rw [show nI i = -1 from q]; decide
      exact absurd h1 (nI_pos hi)
    · intro q; cases q
theorem nI_posn {n : Nat} (h0 : 0 < n) (h : n < 2 ^ 31) : ¬ nI n ≤ 0 := by
  rw [Int32.le_iff_toInt_le, nI_toInt h, Int32.toInt_zero]; omega
theorem rCp_0 {A F : Rw} (h : F.1 = 0) : (rCp A F).2 = A.2 := by
  funext k; show (if k < F.1 then F.2 k else A.2 k) = A.2 k; rw [if_neg (by omega)]
