/-! the first places of a kind; keys and letters; the pad is read: rows of whole, the reference left out -/
def pfx (p : Nat → Bool) (n : Nat) : Nat := (fF (fun j => !p j) n).getD n
theorem pfx_at {p : Nat → Bool} {n i : Nat} (hi : i ≤ n) (h : ∀ j, j < i → p j = true) (h2 : i < n → p i = false) : pfx p n = i := by
  unfold pfx
  rcases Nat.lt_or_ge i n with q | q
  · rw [fF_some q (by rw [h2 q]; rfl) (fun j hj => by rw [h j hj]; rfl)]; rfl
  · rw [fF_none (fun j hj => by rw [h j (by omega)]; rfl)]; show n = i; omega
theorem pfx_le (p : Nat → Bool) (n : Nat) : pfx p n ≤ n := by
  unfold pfx
  cases e : fF (fun j => !p j) n with
  | some i => exact Nat.le_of_lt (fF_s e).1
  | none => exact Nat.le_refl n
theorem pfx_t {p : Nat → Bool} {n j : Nat} (h : j < pfx p n) : p j = true := by
  unfold pfx at h
  cases e : fF (fun j => !p j) n with
  | some i =>
    rw [e] at h
    have := (fF_s e).2.2 j h
    simpa using this
  | none =>
    rw [e] at h
    have := fF_n e j h
    simpa using this
theorem pfx_f {p : Nat → Bool} {n : Nat} (h : pfx p n < n) : p (pfx p n) = false := by
  unfold pfx at h ⊢
  cases e : fF (fun j => !p j) n with
  | some i =>
    have := (fF_s e).2.1
    show p i = false
    simpa using this
  | none => rw [e] at h; exact absurd h (Nat.lt_irrefl n)
theorem pfx_cong {p q : Nat → Bool} {n : Nat} (h : ∀ j, j < n → p j = q j) : pfx p n = pfx q n := by
  unfold pfx; rw [fF_cong (fun j hj => by rw [h j hj])]
/-! a key and the letters of a name -/
def kIs (κ L : Nat) (f : Nat → Nat) : Prop := 2 ≤ L ∧ L ≤ 6 ∧ κ < 2 ^ 30 ∧ (∀ j, j < L → 97 ≤ f j ∧ f j ≤ 122 ∧ kL κ j = f j - 96) ∧ ∀ j, L ≤ j → j < 6 → kL κ j = 0
theorem kIs.cg {κ L M : Nat} {f g : Nat → Nat} (h : kIs κ L f) (e : M = L) (hf : ∀ j, j < L → g j = f j) : kIs κ M g := by
  subst e
  obtain ⟨a, b, c, d, z⟩ := h
  exact ⟨a, b, c, fun j hj => by rw [hf j hj]; exact d j hj, z⟩
theorem kIs.nz {κ L : Nat} {f : Nat → Nat} (h : kIs κ L f) {j : Nat} (hj : j < 6) : kL κ j ≠ 0 ↔ j < L := by
  constructor
  · intro q
    rcases Nat.lt_or_ge j L with a | a
    · exact a
    · exact absurd (h.2.2.2.2 j a hj) q
  · intro q
    have := h.2.2.2.1 j q
    omega
theorem kS_pfx (κ o : Nat) : kS κ o = pfx (fun j => kL κ j != 0 && kL κ j == kL o j) 6 := rfl
/-- the common first letters, by the letters -/
theorem kS_is {κ o L M : Nat} {f g : Nat → Nat} (h : kIs κ L f) (h2 : kIs o M g) : kS κ o = pfx (fun j => decide (j < L) && decide (j < M) && f j == g j) 6 := by
  rw [kS_pfx]
  refine pfx_cong fun j hj => ?_
  rw [Bool.eq_iff_iff]
  simp only [Bool.and_eq_true, bne_iff_ne, ne_eq, beq_iff_eq, decide_eq_true_eq]
  constructor
  · rintro ⟨a, b⟩
    have hL := (h.nz hj).mp a
    have hM := (h2.nz hj).mp (by rw [← b]; exact a)
    have a1 := h.2.2.2.1 j hL
    have a2 := h2.2.2.2.1 j hM
    exact ⟨⟨hL, hM⟩, by omega⟩
  · rintro ⟨⟨hL, hM⟩, b⟩
    have a1 := h.2.2.2.1 j hL
    have a2 := h2.2.2.2.1 j hM
    exact ⟨by omega, by omega⟩
theorem kS_self {κ L : Nat} {f : Nat → Nat} (h : kIs κ L f) : kS κ κ = L := by
  rw [kS_is h h]
  exact pfx_at h.2.1 (fun j hj => by simp [hj]) (fun q => by simp)
theorem kDig {κ : Nat} (h : κ < 2 ^ 30) : κ = kL κ 0 * 2 ^ 25 + kL κ 1 * 2 ^ 20 + kL κ 2 * 2 ^ 15 + kL κ 3 * 2 ^ 10 + kL κ 4 * 2 ^ 5 + kL κ 5 := by
  unfold kL
  simp only [show 5 * (5 - 0) = 25 from rfl, show 5 * (5 - 1) = 20 from rfl, show 5 * (5 - 2) = 15 from rfl, show 5 * (5 - 3) = 10 from rfl, show 5 * (5 - 4) = 5 from rfl, show 5 * (5 - 5) = 0 from rfl]
  omega
theorem kExt {κ o : Nat} (h : κ < 2 ^ 30) (h2 : o < 2 ^ 30) (e : ∀ j, j < 6 → kL κ j = kL o j) : κ = o := by
  rw [kDig h, kDig h2, e 0 (by decide), e 1 (by decide), e 2 (by decide), e 3 (by decide), e 4 (by decide), e 5 (by decide)]
theorem kEq {κ o L M : Nat} {f g : Nat → Nat} (h : kIs κ L f) (h2 : kIs o M g) : κ = o ↔ L = M ∧ ∀ j, j < L → f j = g j := by
  constructor
  · intro e
    subst e
    have hL : L = M := by rw [← kS_self h, kS_self h2]
    subst hL
    refine ⟨rfl, fun j hj => ?_⟩
    have a1 := h.2.2.2.1 j hj
    have a2 := h2.2.2.2.1 j hj
    omega
  · rintro ⟨rfl, e⟩
    refine kExt h.2.2.1 h2.2.2.1 fun j hj => ?_
    rcases Nat.lt_or_ge j L with q | q
    · rw [(h.2.2.2.1 j q).2.2, (h2.2.2.2.1 j q).2.2, e j q]
    · rw [h.2.2.2.2 j q hj, h2.2.2.2.2 j q hj]
/-- the same: by the common first letters -/
theorem kEqS {κ o L M : Nat} {f g : Nat → Nat} (h : kIs κ L f) (h2 : kIs o M g) : κ = o ↔ kS κ o = L ∧ kS κ o = M := by
  constructor
  · intro e
    subst e
    exact ⟨kS_self h, kS_self h2⟩
  · rintro ⟨a, b⟩
    refine (kEq h h2).mpr ⟨by omega, fun j hj => ?_⟩
    rw [kS_is h h2] at a
    have := pfx_t (p := fun j => decide (j < L) && decide (j < M) && f j == g j) (n := 6) (j := j) (by rw [a]; exact hj)
    simp at this
    exact this.2
theorem kS_sy {κ o L M : Nat} {f g : Nat → Nat} (h : kIs κ L f) (h2 : kIs o M g) : kS κ o = kS o κ := by
  rw [kS_is h h2, kS_is h2 h]
  refine pfx_cong fun j _ => ?_
  rw [Bool.eq_iff_iff]
  simp only [Bool.and_eq_true, beq_iff_eq, decide_eq_true_eq]
  exact ⟨fun ⟨⟨a, b⟩, c⟩ => ⟨⟨b, a⟩, c.symm⟩, fun ⟨⟨a, b⟩, c⟩ => ⟨⟨b, a⟩, c.symm⟩⟩
theorem kCmp {κ o p : Nat} (h : κ < 2 ^ 30) (h2 : o < 2 ^ 30) (hp : p < 6) (e : ∀ j, j < p → kL κ j = kL o j) (hd : kL κ p ≠ kL o p) : κ < o ↔ kL κ p < kL o p := by
  have a0 := kL_lt κ 0; have a1 := kL_lt κ 1; have a2 := kL_lt κ 2; have a3 := kL_lt κ 3; have a4 := kL_lt κ 4; have a5 := kL_lt κ 5
  have b0 := kL_lt o 0; have b1 := kL_lt o 1; have b2 := kL_lt o 2; have b3 := kL_lt o 3; have b4 := kL_lt o 4; have b5 := kL_lt o 5
  have d1 := kDig h
  have d2 := kDig h2
  match p, hp with
  | 0, _ => omega
  | 1, _ => have := e 0 (by decide); omega
  | 2, _ => have := e 0 (by decide); have := e 1 (by decide); omega
  | 3, _ => have := e 0 (by decide); have := e 1 (by decide); have := e 2 (by decide); omega
  | 4, _ => have := e 0 (by decide); have := e 1 (by decide); have := e 2 (by decide); have := e 3 (by decide); omega
  | 5, _ => have := e 0 (by decide); have := e 1 (by decide); have := e 2 (by decide); have := e 3 (by decide); have := e 4 (by decide); omega
  | p + 6, hp => omega
/-- as in a dictionary -/
theorem kLt {κ o L M : Nat} {f g : Nat → Nat} (h : kIs κ L f) (h2 : kIs o M g) : κ < o ↔ if kS κ o = L ∨ kS κ o = M then L < M else f (kS κ o) < g (kS κ o) := by
  have hL := h.2.1
  have hM := h2.2.1
  generalize hp : kS κ o = p
  have hk := hp
  rw [kS_pfx] at hp
  have hlow : ∀ j, j < p → kL κ j ≠ 0 ∧ kL κ j = kL o j := fun j hj => by
    have := pfx_t (p := fun j => kL κ j != 0 && kL κ j == kL o j) (n := 6) (j := j) (by rw [hp]; exact hj)
    simpa using this
  have hp6 : p ≤ 6 := by rw [← hp]; exact pfx_le _ _
  have hpL : p ≤ L := by
    rcases Nat.lt_or_ge L p with q | q
    · exact absurd (h.2.2.2.2 L (Nat.le_refl _) (by omega)) (hlow L q).1
    · exact q
  have hpM : p ≤ M := by
    rcases Nat.lt_or_ge M p with q | q
    · have := hlow M q
      exact absurd (h2.2.2.2.2 M (Nat.le_refl _) (by omega)) (by rw [← this.2]; exact this.1)
    · exact q
  by_cases hc : p = L ∧ p = M
  · have e : κ = o := (kEqS h h2).mpr ⟨by omega, by omega⟩
    rw [if_pos (Or.inl hc.1)]
    omega
  · have hp' : p < 6 := by omega
    have hd : kL κ p ≠ kL o p := by
      intro e
      have h0 := pfx_f (p := fun j => kL κ j != 0 && kL κ j == kL o j) (n := 6) (by rw [hp]; exact hp')
      rw [hp] at h0
      have hz : kL κ p = 0 := by
        rcases Nat.eq_zero_or_pos (kL κ p) with z | z
        · exact z
        · have : (kL κ p != 0 && kL κ p == kL o p) = true := by simp [e]; omega
          rw [this] at h0; cases h0
      have hzo : kL o p = 0 := by omega
      have q1 : ¬ p < L := fun q => (h.nz hp').mpr q hz
      have q2 : ¬ p < M := fun q => (h2.nz hp').mpr q hzo
      exact hc ⟨by omega, by omega⟩
    rw [kCmp h.2.2.1 h2.2.2.1 hp' (fun j hj => (hlow j hj).2) hd]
    by_cases q1 : p = L
    · rw [if_pos (Or.inl q1), h.2.2.2.2 p (by omega) hp']
      have hz : kL κ p = 0 := h.2.2.2.2 p (by omega) hp'
      have := (h2.nz hp')
      omega
    · by_cases q2 : p = M
      · rw [if_pos (Or.inr q2), h2.2.2.2.2 p (by omega) hp']
        omega
      · rw [if_neg (by omega)]
        have a1 := h.2.2.2.1 p (by omega)
        have a2 := h2.2.2.2.1 p (by omega)
        omega
theorem vuN {α : Type} {f : Nat → α} {i k : Nat} {v : α} (h : k ≠ i) : va_up f i v k = f k := if_neg h
theorem vuS {α : Type} {f : Nat → α} {i : Nat} {v : α} : va_up f i v i = v := if_pos rfl
theorem kW_dig {κ a j v : Nat} (hj : j < 6) (hk : κ = 2 ^ (5 * (6 - j)) * a) (hv : v < 32) : kW κ j v = 2 ^ (5 * (6 - (j + 1))) * (32 * a + v) ∧ (∀ i, i < j → kL (kW κ j v) i = kL κ i) ∧ kL (kW κ j v) j = v := by
  have e0 : kW κ j v = κ + v * 2 ^ (5 * (5 - j)) := by
    unfold kW
    rw [hk]
    refine (Nat.two_pow_add_eq_or_of_lt ?_ a).symm
    rw [show 5 * (6 - j) = 5 + 5 * (5 - j) by omega, Nat.pow_add]
    exact Nat.mul_lt_mul_of_pos_right hv (Nat.two_pow_pos _)
  rw [e0, hk]
  unfold kL
  match j, hj with
  | 0, _ => exact ⟨by simp only [show 5 * (6 - 0) = 30 from rfl, show 5 * (5 - 0) = 25 from rfl, show 5 * (6 - (0 + 1)) = 25 from rfl]; omega, fun i hi => absurd hi (Nat.not_lt_zero i), by simp only [show 5 * (6 - 0) = 30 from rfl, show 5 * (5 - 0) = 25 from rfl]; omega⟩
  | 1, _ =>
    refine ⟨by simp only [show 5 * (6 - 1) = 25 from rfl, show 5 * (5 - 1) = 20 from rfl, show 5 * (6 - (1 + 1)) = 20 from rfl]; omega, fun i hi => ?_, by simp only [show 5 * (6 - 1) = 25 from rfl, show 5 * (5 - 1) = 20 from rfl]; omega⟩
    have : i = 0 := by omega
    subst this
    simp only [show 5 * (6 - 1) = 25 from rfl, show 5 * (5 - 1) = 20 from rfl, show 5 * (5 - 0) = 25 from rfl]; omega
  | 2, _ =>
    refine ⟨by simp only [show 5 * (6 - 2) = 20 from rfl, show 5 * (5 - 2) = 15 from rfl, show 5 * (6 - (2 + 1)) = 15 from rfl]; omega, fun i hi => ?_, by simp only [show 5 * (6 - 2) = 20 from rfl, show 5 * (5 - 2) = 15 from rfl]; omega⟩
    rcases (show i = 0 ∨ i = 1 by omega) with rfl | rfl
    · simp only [show 5 * (6 - 2) = 20 from rfl, show 5 * (5 - 2) = 15 from rfl, show 5 * (5 - 0) = 25 from rfl]; omega
    · simp only [show 5 * (6 - 2) = 20 from rfl, show 5 * (5 - 2) = 15 from rfl, show 5 * (5 - 1) = 20 from rfl]; omega
  | 3, _ =>
    refine ⟨by simp only [show 5 * (6 - 3) = 15 from rfl, show 5 * (5 - 3) = 10 from rfl, show 5 * (6 - (3 + 1)) = 10 from rfl]; omega, fun i hi => ?_, by simp only [show 5 * (6 - 3) = 15 from rfl, show 5 * (5 - 3) = 10 from rfl]; omega⟩
    rcases (show i = 0 ∨ i = 1 ∨ i = 2 by omega) with rfl | rfl | rfl
    · simp only [show 5 * (6 - 3) = 15 from rfl, show 5 * (5 - 3) = 10 from rfl, show 5 * (5 - 0) = 25 from rfl]; omega
    · simp only [show 5 * (6 - 3) = 15 from rfl, show 5 * (5 - 3) = 10 from rfl, show 5 * (5 - 1) = 20 from rfl]; omega
    · simp only [show 5 * (6 - 3) = 15 from rfl, show 5 * (5 - 3) = 10 from rfl, show 5 * (5 - 2) = 15 from rfl]; omega
  | 4, _ =>
    refine ⟨by simp only [show 5 * (6 - 4) = 10 from rfl, show 5 * (5 - 4) = 5 from rfl, show 5 * (6 - (4 + 1)) = 5 from rfl]; omega, fun i hi => ?_, by simp only [show 5 * (6 - 4) = 10 from rfl, show 5 * (5 - 4) = 5 from rfl]; omega⟩
    rcases (show i = 0 ∨ i = 1 ∨ i = 2 ∨ i = 3 by omega) with rfl | rfl | rfl | rfl
    · simp only [show 5 * (6 - 4) = 10 from rfl, show 5 * (5 - 4) = 5 from rfl, show 5 * (5 - 0) = 25 from rfl]; omega
    · simp only [show 5 * (6 - 4) = 10 from rfl, show 5 * (5 - 4) = 5 from rfl, show 5 * (5 - 1) = 20 from rfl]; omega
    · simp only [show 5 * (6 - 4) = 10 from rfl, show 5 * (5 - 4) = 5 from rfl, show 5 * (5 - 2) = 15 from rfl]; omega
    · simp only [show 5 * (6 - 4) = 10 from rfl, show 5 * (5 - 4) = 5 from rfl, show 5 * (5 - 3) = 10 from rfl]; omega
  | 5, _ =>
    refine ⟨by simp only [show 5 * (6 - 5) = 5 from rfl, show 5 * (5 - 5) = 0 from rfl, show 5 * (6 - (5 + 1)) = 0 from rfl]; omega, fun i hi => ?_, by simp only [show 5 * (6 - 5) = 5 from rfl, show 5 * (5 - 5) = 0 from rfl]; omega⟩
    rcases (show i = 0 ∨ i = 1 ∨ i = 2 ∨ i = 3 ∨ i = 4 by omega) with rfl | rfl | rfl | rfl | rfl
    · simp only [show 5 * (6 - 5) = 5 from rfl, show 5 * (5 - 5) = 0 from rfl, show 5 * (5 - 0) = 25 from rfl]; omega
    · simp only [show 5 * (6 - 5) = 5 from rfl, show 5 * (5 - 5) = 0 from rfl, show 5 * (5 - 1) = 20 from rfl]; omega
    · simp only [show 5 * (6 - 5) = 5 from rfl, show 5 * (5 - 5) = 0 from rfl, show 5 * (5 - 2) = 15 from rfl]; omega
    · simp only [show 5 * (6 - 5) = 5 from rfl, show 5 * (5 - 5) = 0 from rfl, show 5 * (5 - 3) = 10 from rfl]; omega
    · simp only [show 5 * (6 - 5) = 5 from rfl, show 5 * (5 - 5) = 0 from rfl, show 5 * (5 - 4) = 5 from rfl]; omega
  | j + 6, hj => omega
theorem kL_zero {κ a j i : Nat} (hk : κ = 2 ^ (5 * (6 - j)) * a) (hi : j ≤ i) (hi6 : i < 6) : kL κ i = 0 := by
  unfold kL
  rw [hk, show 5 * (6 - j) = 5 * (5 - i) + 5 + 5 * (i - j) by omega, Nat.pow_add, Nat.pow_add, Nat.mul_assoc, Nat.mul_assoc, Nat.mul_div_cancel_left _ (Nat.two_pow_pos _)]
  exact Nat.mul_mod_right _ _
/-- the key of the letters from b on -/
def kB (f : Nat → Nat) (b : Nat) : Nat → Nat
  | 0 => 0
  | j + 1 => kW (kB f b j) j (kO (f (b + j)))
theorem kO_let {g : Nat} (h : 97 ≤ g ∧ g ≤ 122) : kO g = g - 96 := if_pos h
theorem kO_not {g : Nat} (h : ¬ (97 ≤ g ∧ g ≤ 122)) : kO g = 0 := if_neg h
theorem kB_ok {f : Nat → Nat} {b : Nat} : ∀ j, j ≤ 6 → (∀ i, i < j → 97 ≤ f (b + i) ∧ f (b + i) ≤ 122) → (∃ a, kB f b j = 2 ^ (5 * (6 - j)) * a) ∧ kB f b j < 2 ^ 30 ∧ ∀ i, i < j → kL (kB f b j) i = f (b + i) - 96
  | 0, _, _ => ⟨⟨0, rfl⟩, by show 0 < _; decide, fun i hi => absurd hi (Nat.not_lt_zero i)⟩
  | j + 1, hj, hl => by
    obtain ⟨⟨a, ha⟩, h1, h2⟩ := kB_ok (f := f) (b := b) j (by omega) fun i hi => hl i (by omega)
    have hlj := hl j (by omega)
    have ho := kO_let hlj
    obtain ⟨d1, d2, d3⟩ := kW_dig (κ := kB f b j) (a := a) (j := j) (v := kO (f (b + j))) (by omega) ha (by omega)
    refine ⟨⟨32 * a + kO (f (b + j)), d1⟩, kW_lt h1 (by omega) (kO_lt _), fun i hi => ?_⟩
    show kL (kW (kB f b j) j (kO (f (b + j)))) i = _
    rcases Nat.lt_or_ge i j with q | q
    · rw [d2 i q]; exact h2 i q
    · have e : i = j := by omega
      rw [e, d3, ho]
theorem kB_is {f : Nat → Nat} {b L : Nat} (h2 : 2 ≤ L) (h6 : L ≤ 6) (hl : ∀ i, i < L → 97 ≤ f (b + i) ∧ f (b + i) ≤ 122) : kIs (kB f b L) L (fun j => f (b + j)) := by
  obtain ⟨⟨a, ha⟩, h1, h3⟩ := kB_ok L h6 hl
  exact ⟨h2, h6, h1, fun j hj => ⟨(hl j hj).1, (hl j hj).2, h3 j hj⟩, fun j hj hj6 => kL_zero ha hj hj6⟩
theorem prd_run {t f : Nat → Nat} {b : Nat} {T : Rw} (h : prd t f b = some (0, 0, T)) : ∀ j, j ≤ 6 → (∀ i, i < j → 97 ≤ f (b + i) ∧ f (b + i) ≤ 122) → prd t f (b + j) = some (kB f b j, j, T)
  | 0, _, _ => h
  | j + 1, hj, hl => by
    have h1 := prd_run h j (by omega) fun i hi => hl i (by omega)
    have hlj := hl j (by omega)
    rw [show b + (j + 1) = b + j + 1 by omega, prd_s h1, pst_l (by rw [kO_let hlj]; omega) (by omega)]
    rfl
theorem prd_le {t f : Nat → Nat} : ∀ {i : Nat} {z : Nat × Nat × Rw}, prd t f i = some z → ∀ j, j ≤ i → (prd t f j).isNone = false
  | 0, z, h, j, hj => by
    have : j = 0 := by omega
    rw [this, h]; rfl
  | i + 1, z, h, j, hj => by
    rcases Nat.lt_or_ge i j with q | q
    · have : j = i + 1 := by omega
      rw [this, h]; rfl
    · cases e : prd t f i with
      | none => rw [prd, e] at h; cases h
      | some y => exact prd_le e j q
theorem inD_R {x : Int32} {n : Nat} (hn : n < 2 ^ 31) : inD x (nI 0) (nI n - nI 1) = inR x n := by
  rcases inR_or x n with h | ⟨i, hi, hi31, rfl⟩
  · rw [h]
    unfold inD
    rcases inR_out h (by omega) with q | q
    · have : ¬ nI 0 ≤ x := by rw [Int32.le_iff_toInt_le, nI_toInt (by omega)]; omega
      simp [this]
    · have : ¬ x ≤ nI n - nI 1 := by
        rcases Nat.eq_zero_or_pos n with z | z
        · subst z
          rw [Int32.le_iff_toInt_le, show (nI 0 - nI 1).toInt = -1 by decide]; omega
        · rw [gI_sub z, Int32.le_iff_toInt_le, nI_toInt (by omega)]; omega
      simp [this]
  · rw [inR_i hi hi31, gI_sub (by omega)]
    exact inD_t (Nat.zero_le i) (by omega) (by omega)
theorem inD_c {x : Int32} {h : Nat} (hh : h < 2 ^ 30) : inD x (nI 0) (nI h) = inR x (h + 1) := by
  rw [← inD_R (n := h + 1) (by omega), gI_sub (by omega)]; rfl
