/-! the pad: its characters, and the keys that it told when it was read last -/
def PadAt (G : gT) (q : Nat) (S T : Rw) (H : Heap) : Prop := gE G q (eO 1 [.ref (q + 1), .ref (q + 3)]) H ∧ RowAt G (q + 1) 80 S H ∧ RowAt G (q + 3) 27 T H
/-- one character: key so far, letters so far, what was told -/
def pst (z : Nat × Nat × Rw) (g : Nat) : Option (Nat × Nat × Rw) :=
  if kO g ≠ 0 ∧ z.2.1 < 6 then some (kW z.1 z.2.1 (kO g), z.2.1 + 1, z.2.2)
  else if g = 44 ∧ 2 ≤ z.2.1 then some (0, 0, rAdd 27 z.2.2 z.1) else none
/-- after the first i characters; none behind a fault -/
def prd (t f : Nat → Nat) : Nat → Option (Nat × Nat × Rw)
  | 0 => some (0, 0, (0, t))
  | i + 1 => (prd t f i).bind (fun z => pst z (f i))
theorem prd_s {t f : Nat → Nat} {i : Nat} {z : Nat × Nat × Rw} (h : prd t f i = some z) : prd t f (i + 1) = pst z (f i) := by
  show (prd t f i).bind _ = _; rw [h]; rfl
/-- the fault (none: there is none), and what is told then -/
def pRs (t : Nat → Nat) (S : Rw) : Option Nat × Rw := match fF (fun i => (prd t S.2 (i + 1)).isNone) S.1 with
  | some i => (some i, match prd t S.2 i with
    | some z => z.2.2
    | none => (0, t))
  | none => match prd t S.2 S.1 with
    | some z => if z.2.1 < 2 then (some S.1, z.2.2) else (none, rAdd 27 z.2.2 z.1)
    | none => (some S.1, (0, t))
theorem pRs_f {t : Nat → Nat} {S : Rw} {i : Nat} {z : Nat × Nat × Rw} (hi : i < S.1) (h : ∀ j, j ≤ i → (prd t S.2 j).isNone = false) (hz : prd t S.2 i = some z) (hn : pst z (S.2 i) = none) : pRs t S = (some i, z.2.2) := by
  unfold pRs
  rw [fF_some hi (by rw [prd_s hz, hn]; rfl) (fun j hj => h (j + 1) (by omega))]
  show (some i, match prd t S.2 i with
    | some z => z.2.2
    | none => (0, t)) = _
  rw [hz]
theorem pRs_e {t : Nat → Nat} {S : Rw} {z : Nat × Nat × Rw} (h : ∀ j, j ≤ S.1 → (prd t S.2 j).isNone = false) (hz : prd t S.2 S.1 = some z) : pRs t S = if z.2.1 < 2 then (some S.1, z.2.2) else (none, rAdd 27 z.2.2 z.1) := by
  unfold pRs
  rw [fF_none (fun j hj => h (j + 1) (by omega))]
  show (match prd t S.2 S.1 with
    | some z => if z.2.1 < 2 then (some S.1, z.2.2) else (none, rAdd 27 z.2.2 z.1)
    | none => (some S.1, (0, t))) = _
  rw [hz]
theorem pst_l {κ v g : Nat} {T : Rw} (h : kO g ≠ 0) (h2 : v < 6) : pst (κ, v, T) g = some (kW κ v (kO g), v + 1, T) := if_pos ⟨h, h2⟩
theorem pst_c {κ v g : Nat} {T : Rw} (h : ¬ (kO g ≠ 0 ∧ v < 6)) (h1 : g = 44) (h2 : 2 ≤ v) : pst (κ, v, T) g = some (0, 0, rAdd 27 T κ) := by
  unfold pst; rw [if_neg h, if_pos ⟨h1, h2⟩]
theorem pst_n {κ v g : Nat} {T : Rw} (h : ¬ (kO g ≠ 0 ∧ v < 6)) (h1 : ¬ (g = 44 ∧ 2 ≤ v)) : pst (κ, v, T) g = none := by
  unfold pst; rw [if_neg h, if_neg h1]
theorem le_s {P : Nat → Prop} {i : Nat} (h : ∀ j, j ≤ i → P j) (hi : P (i + 1)) : ∀ j, j ≤ i + 1 → P j := by
  intro j hj
  rcases Nat.lt_or_ge i j with q | q
  · have e : j = i + 1 := by omega
    rw [e]; exact hi
  · exact h j q
theorem le_0 {P : Nat → Prop} (h : P 0) : ∀ j, j ≤ 0 → P j := fun j hj => by
  have e : j = 0 := by omega
  rw [e]; exact h
theorem kO_lt (g : Nat) : kO g ≤ 26 := by unfold kO; split <;> omega
/-- the pad with a name more -/
def apL (S : Rw) (κ : Nat) : Nat → Rw
  | 0 => if 0 < S.1 then rAdd 80 S 44 else S
  | i + 1 => rAdd 80 (apL S κ i) (96 + kL κ i)
def apN (S : Rw) (κ : Nat) : Rw := apL S κ (kS κ κ)
/-! the history: six states, the first n of them kept; where the k-th one stands -/
def HAt (G : gT) (h n : Nat) (π : Nat → Nat) (Z : Nat → ST) (H : Heap) : Prop := gE G h (eO 0 [.ref (h + 1), .int (nI n)]) H ∧ gE G (h + 1) (eS G 6 (fun k => some (h + 2 + 36 * π k))) H ∧ (∀ k, k < 6 → StAt G (h + 2 + 36 * π k) (Z k) H) ∧ n ≤ 6 ∧ (∀ k, k < 6 → π k < 6) ∧ (∀ i, i < 6 → ∀ j, j < 6 → π i = π j → i = j)
def rot {α : Type} (f : Nat → α) : Nat → α := fun k => if k < 5 then f (k + 1) else f 0
theorem rot6 (p : Nat → Nat) : ∀ j, j < 6 → (va_up (va_up (va_up (va_up (va_up (va_up (fun k => some (p k)) 0 (some (p 1))) 1 (some (p 2))) 2 (some (p 3))) 3 (some (p 4))) 4 (some (p 5))) 5 (some (p 0))) j = some (rot p j) := by
  intro j hj
  match j, hj with
  | 0, _ => rfl | 1, _ => rfl | 2, _ => rfl | 3, _ => rfl | 4, _ => rfl | 5, _ => rfl
  | j + 6, hj => omega
theorem rot_lt {π : Nat → Nat} (h : ∀ k, k < 6 → π k < 6) : ∀ k, k < 6 → rot π k < 6 := by
  intro k hk; unfold rot; split
  · exact h _ (by omega)
  · exact h _ (by omega)
theorem rot_inj {π : Nat → Nat} (h : ∀ i, i < 6 → ∀ j, j < 6 → π i = π j → i = j) : ∀ i, i < 6 → ∀ j, j < 6 → rot π i = rot π j → i = j := by
  intro i hi j hj e
  unfold rot at e
  split at e <;> split at e
  · have := h _ (by omega) _ (by omega) e; omega
  · have := h _ (by omega) _ (by omega) e; omega
  · have := h _ (by omega) _ (by omega) e; omega
  · omega
theorem rot_st {G : gT} {h : Nat} {π : Nat → Nat} {Z : Nat → ST} {H : Heap} (hs : ∀ k, k < 6 → StAt G (h + 2 + 36 * π k) (Z k) H) : ∀ k, k < 6 → StAt G (h + 2 + 36 * rot π k) (rot Z k) H := by
  intro k hk
  unfold rot
  by_cases q : k < 5
  · rw [if_pos q, if_pos q]; exact hs _ (by omega)
  · rw [if_neg q, if_neg q]; exact hs _ (by omega)
/-- the history with a state more: how many, where, which -/
def hrN (n : Nat) : Nat := if n < 6 then n else 5
def hrP (n : Nat) (π : Nat → Nat) : Nat → Nat := if n < 6 then π else rot π
def hrZ0 (n : Nat) (Z : Nat → ST) : Nat → ST := if n < 6 then Z else rot Z
def hrZ (n : Nat) (Z : Nat → ST) (Y : ST) : Nat → ST := va_up (hrZ0 n Z) (hrN n) (cpL (hrZ0 n Z (hrN n)) Y 17)
theorem HAt.fr {G : gT} {h n lo hi : Nat} {π : Nat → Nat} {Z : Nat → ST} {H H1 : Heap} (hh : HAt G h n π Z H) (hf : gFr lo hi H H1) (hn : h + 218 ≤ lo ∨ hi ≤ h) : HAt G h n π Z H1 := by
  obtain ⟨h1, h2, h3, h4, h5, h6⟩ := hh
  refine ⟨h1.fr hf (by omega), h2.fr hf (by omega), fun k hk => ?_, h4, h5, h6⟩
  have := h5 k hk
  exact (h3 k hk).fr hf (by omega)
/-- the k-th state is another one now -/
theorem HAt.st {G : gT} {h n k : Nat} {π : Nat → Nat} {Z : Nat → ST} {Y : ST} {H H1 : Heap} (hh : HAt G h n π Z H) (hk : k < 6) (hs : StAt G (h + 2 + 36 * π k) Y H1) (hf : gFr (h + 2 + 36 * π k) (h + 2 + 36 * π k + 36) H H1) : HAt G h n π (va_up Z k Y) H1 := by
  obtain ⟨h1, h2, h3, h4, h5, h6⟩ := hh
  refine ⟨h1.fr hf (by omega), h2.fr hf (by omega), fun j hj => ?_, h4, h5, h6⟩
  show StAt G _ (if j = k then Y else Z j) H1
  by_cases q : j = k
  · rw [if_pos q, q]; exact hs
  · rw [if_neg q]
    have a := h5 j hj
    have b := h5 k hk
    have c : π j ≠ π k := fun e => q (h6 j hj k hk e)
    exact (h3 j hj).fr hf (by omega)
theorem HAt.sz {G : gT} {h n m : Nat} {π : Nat → Nat} {Z : Nat → ST} {H H1 : Heap} (hh : HAt G h n π Z H) (ho : gE G h (eO 0 [.ref (h + 1), .int (nI m)]) H1) (hc : gCh h H H1) (hm : m ≤ 6) : HAt G h m π Z H1 := by
  obtain ⟨h1, h2, h3, h4, h5, h6⟩ := hh
  refine ⟨ho, h2.ch hc (by omega), fun j hj => (h3 j hj).ch hc (by omega), hm, h5, h6⟩
/-! the slots -/
def SlAt (G : gT) (v : Nat) (o : Nat → Option Nat) (H : Heap) : Prop := gE G v (eO 3 [.ref (v + 1)]) H ∧ gE G (v + 1) (eS G 2 o) H
theorem oI6_n {o : Option Nat} (h : ∀ i, o = some i → i < 2 ^ 31) : oI (-6) o = -6 ↔ o = none := by
  cases o with
  | none => exact ⟨fun _ => rfl, fun _ => rfl⟩
  | some i =>
    have hi := h i rfl
    constructor
    · intro q
      have h1 : nI i < 0 := by rw [show nI i = -6 from q]; decide
      exact absurd h1 (nI_pos hi)
    · intro q; cases q
theorem pRs_le {t : Nat → Nat} {S : Rw} {i : Nat} (h : (pRs t S).1 = some i) : i ≤ S.1 := by
  unfold pRs at h
  cases e : fF (fun i => (prd t S.2 (i + 1)).isNone) S.1 with
  | some j =>
    rw [e] at h
    have : j = i := by simpa using h
    have := (fF_s e).1
    omega
  | none =>
    rw [e] at h
    cases e2 : prd t S.2 S.1 with
    | none =>
      rw [e2] at h
      have : S.1 = i := by simpa using h
      omega
    | some z =>
      rw [e2] at h
      by_cases q : z.2.1 < 2
      · simp [q] at h; omega
      · simp [q] at h
theorem hrN_t {n : Nat} (h : n < 6) : hrN n = n := if_pos h
theorem hrP_t {n : Nat} {π : Nat → Nat} (h : n < 6) : hrP n π = π := if_pos h
theorem hrZ_t {n : Nat} {Z : Nat → ST} {Y : ST} (h : n < 6) : hrZ n Z Y = va_up Z n (cpL (Z n) Y 17) := by unfold hrZ hrZ0 hrN; rw [if_pos h, if_pos h]
theorem hrN_f (h : 6 ≤ 6) : hrN 6 = 5 := rfl
theorem hrP_f {π : Nat → Nat} (h : 6 ≤ 6) : hrP 6 π = rot π := rfl
theorem hrZ_f {Z : Nat → ST} {Y : ST} (h : 6 ≤ 6) : hrZ 6 Z Y = va_up (rot Z) 5 (cpL (rot Z 5) Y 17) := rfl
theorem rot6h (h : Nat) (π : Nat → Nat) : ∀ j, j < 6 → (va_up (va_up (va_up (va_up (va_up (va_up (fun k => some (h + 2 + 36 * π k)) 0 (some (h + 2 + 36 * π 1))) 1 (some (h + 2 + 36 * π 2))) 2 (some (h + 2 + 36 * π 3))) 3 (some (h + 2 + 36 * π 4))) 4 (some (h + 2 + 36 * π 5))) 5 (some (h + 2 + 36 * π 0))) j = some (h + 2 + 36 * rot π j) := by
  intro j hj
  rw [rot6 (fun k => h + 2 + 36 * π k) j hj]
  unfold rot; split <;> rfl
theorem his6 (h : Nat) : ∀ j, j < 6 → (va_up (va_up (va_up (va_up (va_up (va_up (fun _ => none) 0 (some (h + 2))) 1 (some (h + 38))) 2 (some (h + 74))) 3 (some (h + 110))) 4 (some (h + 146))) 5 (some (h + 182))) j = some (h + 2 + 36 * id j) := by
  intro j hj
  match j, hj with
  | 0, _ => rfl | 1, _ => rfl | 2, _ => rfl | 3, _ => rfl | 4, _ => rfl | 5, _ => rfl
  | j + 6, hj => omega
theorem all6 {P : Nat → Prop} (h0 : P 0) (h1 : P 1) (h2 : P 2) (h3 : P 3) (h4 : P 4) (h5 : P 5) : ∀ k, k < 6 → P k := by
  intro k hk
  match k, hk with
  | 0, _ => exact h0 | 1, _ => exact h1 | 2, _ => exact h2 | 3, _ => exact h3 | 4, _ => exact h4 | 5, _ => exact h5
  | k + 6, hk => omega
