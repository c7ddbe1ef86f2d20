/-! a key and the letters of a name -/
def kIs (κ L : Nat) (f : Nat → Nat) : Prop := 2 ≤ L ∧ L ≤ 6 ∧ κ < 2 ^ 30 ∧ (∀ j, j < L → 97 ≤ f j ∧ f j ≤ 122 ∧ kL κ j = f j - 96) ∧ ∀ j, L ≤ j → j < 6 → kL κ j = 0
theorem kIs.cg {κ L M : Nat} {f g : Nat → Nat} (h : kIs κ L f) (e : M = L) (hf : ∀ j, j < L → g j = f j) : kIs κ M g := by
  subst e
  obtain ⟨a, b, c, d, z⟩ := h
  exact ⟨a, b, c, fun j hj => by rw [hf j hj]; exact d j hj, z⟩
theorem kIs.nz {κ L : Nat} {f : Nat → Nat} (h : kIs κ L f) {j : Nat} (hj : j < 6) : kL κ j ≠ 0 ↔ j < L := by
  constructor
  · intro q
    rcases Nat.lt_or_ge j L with a | a
    · exact a
    · exact absurd (h.2.2.2.2 j a hj) q
  · intro q
    have := h.2.2.2.1 j q
    omega
theorem kS_pfx (κ o : Nat) : kS κ o = pfx (fun j => kL κ j != 0 && kL κ j == kL o j) 6 := rfl
/-- the common first letters, by the letters -/
theorem kS_is {κ o L M : Nat} {f g : Nat → Nat} (h : kIs κ L f) (h2 : kIs o M g) : kS κ o = pfx (fun j => decide (j < L) && decide (j < M) && f j == g j) 6 := by
  rw [kS_pfx]
  refine pfx_cong fun j hj => ?_
  rw [Bool.eq_iff_iff]
  simp only [Bool.and_eq_true, bne_iff_ne, ne_eq, beq_iff_eq, decide_eq_true_eq]
  constructor
  · rintro ⟨a, b⟩
    have hL := (h.nz hj).mp a
    have hM := (h2.nz hj).mp (by rw [← b]; exact a)
    have a1 := h.2.2.2.1 j hL
    have a2 := h2.2.2.2.1 j hM
    exact ⟨⟨hL, hM⟩, by omega⟩
  · rintro ⟨⟨hL, hM⟩, b⟩
    have a1 := h.2.2.2.1 j hL
    have a2 := h2.2.2.2.1 j hM
    exact ⟨by omega, by omega⟩
theorem kS_self {κ L : Nat} {f : Nat → Nat} (h : kIs κ L f) : kS κ κ = L := by
  rw [kS_is h h]
  exact pfx_at h.2.1 (fun j hj => by simp [hj]) (fun q => by simp)
theorem kDig {κ : Nat} (h : κ < 2 ^ 30) : κ = kL κ 0 * 2 ^ 25 + kL κ 1 * 2 ^ 20 + kL κ 2 * 2 ^ 15 + kL κ 3 * 2 ^ 10 + kL κ 4 * 2 ^ 5 + kL κ 5 := by
  unfold kL
  simp only [show 5 * (5 - 0) = 25 from rfl, show 5 * (5 - 1) = 20 from rfl, show 5 * (5 - 2) = 15 from rfl, show 5 * (5 - 3) = 10 from rfl, show 5 * (5 - 4) = 5 from rfl, show 5 * (5 - 5) = 0 from rfl]
  omega
theorem kExt {κ o : Nat} (h : κ < 2 ^ 30) (h2 : o < 2 ^ 30) (e : ∀ j, j < 6 → kL κ j = kL o j) : κ = o := by
  rw [kDig h, kDig h2, e 0 (by decide), e 1 (by decide), e 2 (by decide), e 3 (by decide), e 4 (by decide), e 5 (by decide)]
theorem kEq {κ o L M : Nat} {f g : Nat → Nat} (h : kIs κ L f) (h2 : kIs o M g) : κ = o ↔ L = M ∧ ∀ j, j < L → f j = g j := by
  constructor
  · intro e
    subst e
    have hL : L = M := by rw [← kS_self h, kS_self h2]
    subst hL
    refine ⟨rfl, fun j hj => ?_⟩
    have a1 := h.2.2.2.1 j hj
    have a2 := h2.2.2.2.1 j hj
    omega
  · rintro ⟨rfl, e⟩
    refine kExt h.2.2.1 h2.2.2.1 fun j hj => ?_
    rcases Nat.lt_or_ge j L with q | q
    · rw [(h.2.2.2.1 j q).2.2, (h2.2.2.2.1 j q).2.2, e j q]
    · rw [h.2.2.2.2 j q hj, h2.2.2.2.2 j q hj]
/-- the same: by the common first letters -/
theorem kEqS {κ o L M : Nat} {f g : Nat → Nat} (h : kIs κ L f) (h2 : kIs o M g) : κ = o ↔ kS κ o = L ∧ kS κ o = M := by
  constructor
  · intro e
    subst e
    exact ⟨kS_self h, kS_self h2⟩
  · rintro ⟨a, b⟩
    refine (kEq h h2).mpr ⟨by omega, fun j hj => ?_⟩
    rw [kS_is h h2] at a
    have := pfx_t (p := fun j => decide (j < L) && decide (j < M) && f j == g j) (n := 6) (j := j) (by rw [a]; exact hj)
    simp at this
    exact this.2
theorem kS_sy {κ o L M : Nat} {f g : Nat → Nat} (h : kIs κ L f) (h2 : kIs o M g) : kS κ o = kS o κ := by
  rw [kS_is h h2, kS_is h2 h]
  refine pfx_cong fun j _ => ?_
  rw [Bool.eq_iff_iff]
  simp only [Bool.and_eq_true, beq_iff_eq, decide_eq_true_eq]
  exact ⟨fun ⟨⟨a, b⟩, c⟩ => ⟨⟨b, a⟩, c.symm⟩, fun ⟨⟨a, b⟩, c⟩ => ⟨⟨b, a⟩, c.symm⟩⟩
theorem kCmp {κ o p : Nat} (h : κ < 2 ^ 30) (h2 : o < 2 ^ 30) (hp : p < 6) (e : ∀ j, j < p → kL κ j = kL o j) (hd : kL κ p ≠ kL o p) : κ < o ↔ kL κ p < kL o p := by
  have a0 := kL_lt κ 0; have a1 := kL_lt κ 1; have a2 := kL_lt κ 2; have a3 := kL_lt κ 3; have a4 := kL_lt κ 4; have a5 := kL_lt κ 5
  have b0 := kL_lt o 0; have b1 := kL_lt o 1; have b2 := kL_lt o 2; have b3 := kL_lt o 3; have b4 := kL_lt o 4; have b5 := kL_lt o 5
  have d1 := kDig h
  have d2 := kDig h2
  match p, hp with
  | 0, _ => omega
  | 1, _ => have := e 0 (by decide); omega
  | 2, _ => have := e 0 (by decide); have := e 1 (by decide); omega
  | 3, _ => have := e 0 (by decide); have := e 1 (by decide); have := e 2 (by decide); omega
  | 4, _ => have := e 0 (by decide); have := e 1 (by decide); have := e 2 (by decide); have := e 3 (by decide); omega
  | 5, _ => have := e 0 (by decide); have := e 1 (by decide); have := e 2 (by decide); have := e 3 (by decide); have := e 4 (by decide); omega
  | p + 6, hp => omega
/-- as in a dictionary -/
theorem kLt {κ o L M : Nat} {f g : Nat → Nat} (h : kIs κ L f) (h2 : kIs o M g) : κ < o ↔ if kS κ o = L ∨ kS κ o = M then L < M else f (kS κ o) < g (kS κ o) := by
  have hL := h.2.1
  have hM := h2.2.1
  generalize hp : kS κ o = p
  have hk := hp
  rw [kS_pfx] at hp
  have hlow : ∀ j, j < p → kL κ j ≠ 0 ∧ kL κ j = kL o j := fun j hj => by
    have := pfx_t (p := fun j => kL κ j != 0 && kL κ j == kL o j) (n := 6) (j := j) (by rw [hp]; exact hj)
    simpa using this
  have hp6 : p ≤ 6 := by rw [← hp]; exact pfx_le _ _
  have hpL : p ≤ L := by
    rcases Nat.lt_or_ge L p with q | q
    · exact absurd (h.2.2.2.2 L (Nat.le_refl _) (by omega)) (hlow L q).1
    · exact q
  have hpM : p ≤ M := by
    rcases Nat.lt_or_ge M p with q | q
    · have := hlow M q
      exact absurd (h2.2.2.2.2 M (Nat.le_refl _) (by omega)) (by rw [← this.2]; exact this.1)
    · exact q
  by_cases hc : p = L ∧ p = M
  · have e : κ = o := (kEqS h h2).mpr ⟨by omega, by omega⟩
    rw [if_pos (Or.inl hc.1)]
    omega
  · have hp' : p < 6 := by omega
    have hd : kL κ p ≠ kL o p := by
      intro e
      have h0 := pfx_f (p := fun j => kL κ j != 0 && kL κ j == kL o j) (n := 6) (by rw [hp]; exact hp')
      rw [hp] at h0
      have hz : kL κ p = 0 := by
        rcases Nat.eq_zero_or_pos (kL κ p) with z | z
        · exact z
        · have : (kL κ p != 0 && kL κ p == kL o p) = true := by simp [e]; omega
          rw [this] at h0; cases h0
      have hzo : kL o p = 0 := by omega
      have q1 : ¬ p < L := fun q => (h.nz hp').mpr q hz
      have q2 : ¬ p < M := fun q => (h2.nz hp').mpr q hzo
      exact hc ⟨by omega, by omega⟩
    rw [kCmp h.2.2.1 h2.2.2.1 hp' (fun j hj => (hlow j hj).2) hd]
    by_cases q1 : p = L
    · rw [if_pos (Or.inl q1), h.2.2.2.2 p (by omega) hp']
      have hz : kL κ p = 0 := h.2.2.2.2 p (by omega) hp'
      have := (h2.nz hp')
      omega
    · by_cases q2 : p = M
      · rw [if_pos (Or.inr q2), h2.2.2.2.2 p (by omega) hp']
        omega
      · rw [if_neg (by omega)]
        have a1 := h.2.2.2.1 p (by omega)
        have a2 := h2.2.2.2.1 p (by omega)
        omega
