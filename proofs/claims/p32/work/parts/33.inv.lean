/-! what an office's state keeps to, over any run of calls -/
def kK (κ : Nat) : Prop := kIs κ (kS κ κ) (fun j => 96 + kL κ j)
theorem kK_of {κ L : Nat} {f : Nat → Nat} (h : kIs κ L f) : kK κ := by
  have e := kS_self h
  unfold kK
  rw [e]
  exact h.cg rfl (fun j hj => by have := h.2.2.2.1 j hj; show 96 + kL κ j = f j; omega)
def jC (Y : ST) : Prop := (Y.2 0).1 = 3 ∧ ∀ i, i < 3 → 1 ≤ (Y.2 0).2 i ∧ (Y.2 0).2 i ≤ 99
def jN (Y : ST) : Prop := (Y.2 1).1 ≤ 40 ∧ (∀ k, 1 ≤ k → k ≤ 4 → (Y.2 k).1 = (Y.2 1).1) ∧ (∀ n, n < (Y.2 1).1 → kK ((Y.2 1).2 n)) ∧ (∀ a b, a < (Y.2 1).1 → b < (Y.2 1).1 → (Y.2 1).2 a = (Y.2 1).2 b → a = b) ∧ ∀ n, n < (Y.2 1).1 → (Y.2 2).2 n ≤ 1
def jL (Y : ST) : Prop := ∀ a, a < 6 → (Y.2 (5 + a)).1 ≤ 8 ∧ ∀ j, j < (Y.2 (5 + a)).1 → (Y.2 (5 + a)).2 j < (Y.2 1).1 ∧ (Y.2 2).2 ((Y.2 (5 + a)).2 j) = 0
def jU (Y : ST) : Prop := ∀ a b, a < 6 → b < 6 → a / 3 = b / 3 → ∀ i j, i < (Y.2 (5 + a)).1 → j < (Y.2 (5 + b)).1 → (Y.2 (5 + a)).2 i = (Y.2 (5 + b)).2 j → a = b ∧ i = j
def jG (Y : ST) : Prop := (Y.2 11).1 ≤ 16 ∧ (∀ k, 11 ≤ k → k ≤ 13 → (Y.2 k).1 = (Y.2 11).1) ∧ (∀ g, g < (Y.2 11).1 → (Y.2 11).2 g < (Y.2 1).1 ∧ (Y.2 12).2 g < 2 ∧ (Y.2 2).2 ((Y.2 11).2 g) = 0) ∧ ∀ g h, g < (Y.2 11).1 → h < (Y.2 11).1 → (Y.2 11).2 g = (Y.2 11).2 h → (Y.2 12).2 g = (Y.2 12).2 h → g = h
def jK (Y : ST) : Prop := (Y.2 14).1 ≤ 10 ∧ (∀ k, 14 ≤ k → k ≤ 16 → (Y.2 k).1 = (Y.2 14).1) ∧ ∀ k, k < (Y.2 14).1 → (Y.2 14).2 k < (Y.2 1).1
def jB (t : Nat) (Y : ST) : Prop := Y.1 ≤ t ∧ ∀ k, k < 17 → k ≠ 1 → rB (Y.2 k) (100 + 50 * t)
def IY (t : Nat) (Y : ST) : Prop := jC Y ∧ jN Y ∧ jL Y ∧ jU Y ∧ jG Y ∧ jK Y ∧ jB t Y
section
variable {t : Nat} {Y Z : ST}
theorem jC.cg (h : jC Y) (h0 : Z.2 0 = Y.2 0) : jC Z := by unfold jC; rw [h0]; exact h
theorem jN.cg (h : jN Y) (h1 : Z.2 1 = Y.2 1) (h2 : Z.2 2 = Y.2 2) (h3 : (Z.2 3).1 = (Y.2 3).1) (h4 : (Z.2 4).1 = (Y.2 4).1) : jN Z := by
  obtain ⟨a, b, c, d, e⟩ := h
  unfold jN; rw [h1, h2]
  refine ⟨a, fun k k1 k2 => ?_, c, d, e⟩
  rcases (show k = 1 ∨ k = 2 ∨ k = 3 ∨ k = 4 by omega) with rfl | rfl | rfl | rfl
  · rw [h1]
  · rw [h2]; exact b 2 (by decide) (by decide)
  · rw [h3]; exact b 3 (by decide) (by decide)
  · rw [h4]; exact b 4 (by decide) (by decide)
theorem jL.cg (h : jL Y) (hl : ∀ a, a < 6 → Z.2 (5 + a) = Y.2 (5 + a)) (h1 : (Y.2 1).1 ≤ (Z.2 1).1) (h2 : ∀ n, n < (Y.2 1).1 → (Z.2 2).2 n = (Y.2 2).2 n) : jL Z := by
  intro a ha
  obtain ⟨b, c⟩ := h a ha
  rw [hl a ha]
  refine ⟨b, fun j hj => ?_⟩
  obtain ⟨d, e⟩ := c j hj
  exact ⟨by omega, by rw [h2 _ d]; exact e⟩
theorem jU.cg (h : jU Y) (hl : ∀ a, a < 6 → Z.2 (5 + a) = Y.2 (5 + a)) : jU Z := by
  intro a b ha hb
  rw [hl a ha, hl b hb]; exact h a b ha hb
theorem jG.cg (h : jG Y) (h11 : Z.2 11 = Y.2 11) (h12 : Z.2 12 = Y.2 12) (h13 : (Z.2 13).1 = (Y.2 13).1) (h1 : (Y.2 1).1 ≤ (Z.2 1).1) (h2 : ∀ n, n < (Y.2 1).1 → (Z.2 2).2 n = (Y.2 2).2 n) : jG Z := by
  obtain ⟨a, b, c, d⟩ := h
  unfold jG; rw [h11, h12]
  refine ⟨a, fun k k1 k2 => ?_, fun g hg => ?_, d⟩
  · rcases (show k = 11 ∨ k = 12 ∨ k = 13 by omega) with rfl | rfl | rfl
    · rw [h11]
    · rw [h12]; exact b 12 (by decide) (by decide)
    · rw [h13]; exact b 13 (by decide) (by decide)
  · obtain ⟨c1, c2, c3⟩ := c g hg
    exact ⟨by omega, c2, by rw [h2 _ c1]; exact c3⟩
theorem jK.cg (h : jK Y) (h14 : Z.2 14 = Y.2 14) (h15 : (Z.2 15).1 = (Y.2 15).1) (h16 : (Z.2 16).1 = (Y.2 16).1) (h1 : (Y.2 1).1 ≤ (Z.2 1).1) : jK Z := by
  obtain ⟨a, b, c⟩ := h
  unfold jK; rw [h14]
  refine ⟨a, fun k k1 k2 => ?_, fun k hk => Nat.lt_of_lt_of_le (c k hk) h1⟩
  rcases (show k = 14 ∨ k = 15 ∨ k = 16 by omega) with rfl | rfl | rfl
  · rw [h14]
  · rw [h15]; exact b 15 (by decide) (by decide)
  · rw [h16]; exact b 16 (by decide) (by decide)
theorem jB.up {u : Nat} (h : jB t Y) (hu : t ≤ u) (hy : Z.1 ≤ u) (hk : ∀ k, k < 17 → k ≠ 1 → Z.2 k = Y.2 k ∨ rB (Z.2 k) (100 + 50 * u)) : jB u Z := by
  refine ⟨hy, fun k h1 h2 => ?_⟩
  rcases hk k h1 h2 with e | e
  · rw [e]; exact (h.2 k h1 h2).mono (by omega)
  · exact e
theorem jB.mono {u : Nat} (h : jB t Y) (hu : t ≤ u) : jB u Y := h.up hu (Nat.le_trans h.1 hu) (fun k _ _ => Or.inl rfl)
theorem IY.mono {u : Nat} (h : IY t Y) (hu : t ≤ u) : IY u Y := ⟨h.1, h.2.1, h.2.2.1, h.2.2.2.1, h.2.2.2.2.1, h.2.2.2.2.2.1, h.2.2.2.2.2.2.mono hu⟩
/-- the numbers are small -/
theorem IY.SOk (h : IY t Y) (ht : t ≤ 1000) : SOk Y ∧ rB (Y.2 15) (2 ^ 29) := by
  obtain ⟨-, ⟨-, -, c, -, -⟩, -, -, -, -, hy, hb⟩ := h
  refine ⟨⟨by omega, fun k hk => ?_, ?_⟩, ?_⟩
  · by_cases e : k = 1
    · subst e
      intro j hj
      exact (c j hj).2.2.1
    · exact (hb k hk e).mono (by omega)
  · exact (hb 13 (by decide) (by decide)).mono (by omega)
  · exact (hb 15 (by decide) (by decide)).mono (by omega)
/-! the changes -/
theorem rAdd_in {cap v : Nat} {R : Rw} (h : R.1 < cap) : rAdd cap R v = (R.1 + 1, va_up R.2 R.1 v) := if_pos h
theorem rCh_in {R : Rw} {i v : Nat} (h : i < R.1) : rCh R i v = (R.1, va_up R.2 i v) := if_pos h
theorem rCh_1 (R : Rw) (i v : Nat) : (rCh R i v).1 = R.1 := by unfold rCh; split <;> rfl
theorem rB_le {R : Rw} {B C : Nat} (h : rB R B) (hc : B ≤ C) : rB R C := h.mono hc
theorem IY.set {i v : Nat} (h : IY t Y) (hi : i < 3) (h1 : 1 ≤ v) (h2 : v ≤ 99) : IY t (Y.1, va_up Y.2 0 (rCh (Y.2 0) i v)) := by
  obtain ⟨hC, hN, hL, hU, hG, hK, hB⟩ := h
  have n : ∀ k, k ≠ 0 → ((Y.1, va_up Y.2 0 (rCh (Y.2 0) i v)) : ST).2 k = Y.2 k := fun k hk => vuN hk
  refine ⟨?_, hN.cg (n 1 (by decide)) (n 2 (by decide)) (by rw [n 3 (by decide)]) (by rw [n 4 (by decide)]), hL.cg (fun a _ => n _ (by omega)) (Nat.le_of_eq (by rw [n 1 (by decide)])) (fun m _ => by rw [n 2 (by decide)]), hU.cg (fun a _ => n _ (by omega)), hG.cg (n 11 (by decide)) (n 12 (by decide)) (by rw [n 13 (by decide)]) (Nat.le_of_eq (by rw [n 1 (by decide)])) (fun m _ => by rw [n 2 (by decide)]), hK.cg (n 14 (by decide)) (by rw [n 15 (by decide)]) (by rw [n 16 (by decide)]) (Nat.le_of_eq (by rw [n 1 (by decide)])), hB.up (Nat.le_refl t) hB.1 (fun k hk _ => ?_)⟩
  · obtain ⟨a, b⟩ := hC
    show (va_up Y.2 0 (rCh (Y.2 0) i v) 0).1 = 3 ∧ ∀ j, j < 3 → 1 ≤ (va_up Y.2 0 (rCh (Y.2 0) i v) 0).2 j ∧ (va_up Y.2 0 (rCh (Y.2 0) i v) 0).2 j ≤ 99
    rw [vuS, rCh_in (by omega)]
    refine ⟨a, fun j hj => ?_⟩
    show 1 ≤ va_up (Y.2 0).2 i v j ∧ va_up (Y.2 0).2 i v j ≤ 99
    by_cases e : j = i
    · subst e; rw [vuS]; exact ⟨h1, h2⟩
    · rw [vuN e]; exact b j hj
  · by_cases e : k = 0
    · subst e
      right
      show rB (va_up Y.2 0 (rCh (Y.2 0) i v) 0) _
      rw [vuS]; exact rB_ch (hB.2 0 (by decide) (by decide)) (by omega)
    · left; exact n k e
theorem rDrop_e2 {R : Rw} {p : Nat} (hp : p < R.1) : (rDrop R p).1 = R.1 - 1 ∧ ∀ j, j < R.1 - 1 → (rDrop R p).2 j = if p ≤ j then R.2 (j + 1) else R.2 j := by
  unfold rDrop
  rw [if_pos hp]
  refine ⟨rfl, fun j hj => ?_⟩
  show (if p ≤ j ∧ j + 1 < R.1 then R.2 (j + 1) else R.2 j) = _
  by_cases q : p ≤ j
  · rw [if_pos ⟨q, by omega⟩, if_pos q]
  · rw [if_neg (fun z => q z.1), if_neg q]
/-- what is left of a list stood on it: elsewhere -/
theorem rDrop_from {R : Rw} {p j : Nat} (hp : p < R.1) (hj : j < R.1 - 1) : ∃ i, i < R.1 ∧ i ≠ p ∧ (rDrop R p).2 j = R.2 i ∧ i = if p ≤ j then j + 1 else j := by
  rw [(rDrop_e2 hp).2 j hj]
  by_cases q : p ≤ j
  · exact ⟨j + 1, by omega, by omega, by rw [if_pos q], by rw [if_pos q]⟩
  · exact ⟨j, by omega, by omega, by rw [if_neg q], by rw [if_neg q]⟩
theorem jL.drop {a p : Nat} (h : jL Y) (ha : a < 6) (hp : p < (Y.2 (5 + a)).1) : jL (Y.1, va_up Y.2 (5 + a) (rDrop (Y.2 (5 + a)) p)) := by
  intro b hb
  show (va_up Y.2 (5 + a) (rDrop (Y.2 (5 + a)) p) (5 + b)).1 ≤ 8 ∧ ∀ j, j < (va_up Y.2 (5 + a) (rDrop (Y.2 (5 + a)) p) (5 + b)).1 → (va_up Y.2 (5 + a) (rDrop (Y.2 (5 + a)) p) (5 + b)).2 j < (va_up Y.2 (5 + a) (rDrop (Y.2 (5 + a)) p) 1).1 ∧ (va_up Y.2 (5 + a) (rDrop (Y.2 (5 + a)) p) 2).2 ((va_up Y.2 (5 + a) (rDrop (Y.2 (5 + a)) p) (5 + b)).2 j) = 0
  rw [vuN (k := 1) (by omega), vuN (k := 2) (by omega)]
  obtain ⟨c, d⟩ := h b hb
  by_cases e : b = a
  · subst e
    rw [vuS, (rDrop_e2 hp).1]
    refine ⟨by omega, fun j hj => ?_⟩
    obtain ⟨i, hi, -, e2, -⟩ := rDrop_from hp hj
    rw [e2]; exact d i hi
  · rw [vuN (by omega)]; exact ⟨c, d⟩
theorem jU.drop {a p : Nat} (h : jU Y) (ha : a < 6) (hp : p < (Y.2 (5 + a)).1) : jU (Y.1, va_up Y.2 (5 + a) (rDrop (Y.2 (5 + a)) p)) := by
  have key : ∀ b, b < 6 → ∀ j, j < (va_up Y.2 (5 + a) (rDrop (Y.2 (5 + a)) p) (5 + b)).1 → ∃ i, i < (Y.2 (5 + b)).1 ∧ (va_up Y.2 (5 + a) (rDrop (Y.2 (5 + a)) p) (5 + b)).2 j = (Y.2 (5 + b)).2 i ∧ i = if b = a ∧ p ≤ j then j + 1 else j := by
    intro b hb j hj
    by_cases e : b = a
    · subst e
      rw [vuS] at hj ⊢
      rw [(rDrop_e2 hp).1] at hj
      obtain ⟨i, hi, -, e2, e3⟩ := rDrop_from hp hj
      refine ⟨i, hi, e2, ?_⟩
      rw [e3]; by_cases q : p ≤ j
      · rw [if_pos q, if_pos ⟨rfl, q⟩]
      · rw [if_neg q, if_neg (fun z => q z.2)]
    · rw [vuN (by omega)] at hj ⊢
      exact ⟨j, hj, rfl, by rw [if_neg (fun z => e z.1)]⟩
  intro b c hb hc hbc i j hi hj e
  obtain ⟨i', hi', e1, e1'⟩ := key b hb i hi
  obtain ⟨j', hj', e2, e2'⟩ := key c hc j hj
  obtain ⟨r1, r2⟩ := h b c hb hc hbc i' j' hi' hj' (e1.symm.trans (e.trans e2))
  subst r1
  refine ⟨rfl, ?_⟩
  by_cases q : b = a
  · subst q
    simp only [true_and] at e1' e2'
    split at e1' <;> split at e2' <;> omega
  · simp only [q, false_and, if_false] at e1' e2'
    omega
theorem IY.drop {a p : Nat} (h : IY t Y) (ha : a < 6) (hp : p < (Y.2 (5 + a)).1) : IY t (Y.1, va_up Y.2 (5 + a) (rDrop (Y.2 (5 + a)) p)) := by
  obtain ⟨hC, hN, hL, hU, hG, hK, hB⟩ := h
  have n : ∀ k, k ≠ 5 + a → ((Y.1, va_up Y.2 (5 + a) (rDrop (Y.2 (5 + a)) p)) : ST).2 k = Y.2 k := fun k hk => vuN hk
  refine ⟨hC.cg (n 0 (by omega)), hN.cg (n 1 (by omega)) (n 2 (by omega)) (by rw [n 3 (by omega)]) (by rw [n 4 (by omega)]), hL.drop ha hp, hU.drop ha hp, hG.cg (n 11 (by omega)) (n 12 (by omega)) (by rw [n 13 (by omega)]) (Nat.le_of_eq (by rw [n 1 (by omega)])) (fun m _ => by rw [n 2 (by omega)]), hK.cg (n 14 (by omega)) (by rw [n 15 (by omega)]) (by rw [n 16 (by omega)]) (Nat.le_of_eq (by rw [n 1 (by omega)])), hB.up (Nat.le_refl t) hB.1 (fun k hk h1 => ?_)⟩
  by_cases e : k = 5 + a
  · subst e
    right
    show rB (va_up Y.2 (5 + a) (rDrop (Y.2 (5 + a)) p) (5 + a)) _
    rw [vuS]
    have := rB_drop (x := nI p) (hB.2 (5 + a) hk h1)
    rw [rDx_n (by have := (hL a ha).1; omega)] at this
    exact this
  · left; exact n k e
/-- a name stands on a coast -/
theorem stO_t {v c : Nat} : stO Y v c = true ↔ ∃ k j, k < 3 ∧ j < (Lst Y c k).1 ∧ (Lst Y c k).2 j = v := by
  unfold stO
  rw [aN_t]
  constructor
  · rintro ⟨k, hk, e⟩
    unfold rPl at e
    rw [fF_isSome, aN_t] at e
    obtain ⟨j, hj, e⟩ := e
    exact ⟨k, j, hk, hj, by simpa using e⟩
  · rintro ⟨k, j, hk, hj, e⟩
    refine ⟨k, hk, ?_⟩
    unfold rPl
    rw [fF_isSome, aN_t]
    exact ⟨j, hj, by simpa using e⟩
theorem stO_f {v c : Nat} : stO Y v c = false ↔ ∀ k j, k < 3 → j < (Lst Y c k).1 → (Lst Y c k).2 j ≠ v := by
  rw [← Bool.not_eq_true, stO_t]
  constructor
  · intro h k j hk hj e; exact h ⟨k, j, hk, hj, e⟩
  · rintro h ⟨k, j, hk, hj, e⟩; exact h k j hk hj e
theorem lix_d {c k : Nat} (hc : c < 2) (hk : k < 3) : lix c k / 3 = c ∧ lix c k % 3 = k := by unfold lix; omega
theorem lix_of {a : Nat} : a = lix (a / 3) (a % 3) := by unfold lix; omega
/-- struck: no more on the coast -/
theorem IY.struck {c k p : Nat} (h : IY t Y) (hc : c < 2) (hk : k < 3) (hp : p < (Lst Y c k).1) : stO (Y.1, va_up Y.2 (5 + lix c k) (rDrop (Y.2 (5 + lix c k)) p)) ((Lst Y c k).2 p) c = false := by
  have hU := h.2.2.2.1
  have ha := lix_lt hc hk
  rw [stO_f]
  intro q j hq hj e
  have hb := lix_lt hc hq
  change j < (va_up Y.2 (5 + lix c k) (rDrop (Y.2 (5 + lix c k)) p) (5 + lix c q)).1 at hj
  change (va_up Y.2 (5 + lix c k) (rDrop (Y.2 (5 + lix c k)) p) (5 + lix c q)).2 j = _ at e
  by_cases z : q = k
  · subst z
    rw [vuS] at hj e
    rw [(rDrop_e2 hp).1] at hj
    obtain ⟨i, hi, hn, e2, -⟩ := rDrop_from hp hj
    rw [e2] at e
    exact hn (hU _ _ ha ha rfl i p hi hp e).2
  · have hne : 5 + lix c q ≠ 5 + lix c k := by unfold lix; omega
    rw [vuN hne] at hj e
    have := (hU _ _ hb ha (by rw [(lix_d hc hq).1, (lix_d hc hk).1]) j p hj hp e).1
    exact hne (by rw [this])
/-- a storm -/
theorem IY.storm {v c : Nat} (h : IY t Y) (hc : c < 2) (hv : v < (Y.2 1).1) (h16 : (Y.2 11).1 < 16) (hr : (Y.2 2).2 v = 0) (hg : wGv Y v c = false) : IY (t + 1) (adS Y v c) := by
  obtain ⟨hC, hN, hL, hU, hG, hK, hB⟩ := h
  obtain ⟨g1, g2, g3, g4⟩ := id hG
  have n12 := g2 12 (by decide) (by decide)
  have n13 := g2 13 (by decide) (by decide)
  have n3 := hN.2.1 3 (by decide) (by decide)
  have d11 : (adS Y v c).2 11 = ((Y.2 11).1 + 1, va_up (Y.2 11).2 (Y.2 11).1 v) := by
    show va_up (va_up (va_up (va_up Y.2 11 (rAdd 16 (Y.2 11) v)) 12 (rAdd 16 (Y.2 12) c)) 13 (rAdd 16 (Y.2 13) 0)) 3 (rCh (Y.2 3) v (rA (Y.2 3) v + 1)) 11 = _
    rw [vuN (by omega), vuN (by omega), vuN (by omega), vuS, rAdd_in h16]
  have d12 : (adS Y v c).2 12 = ((Y.2 11).1 + 1, va_up (Y.2 12).2 (Y.2 11).1 c) := by
    show va_up (va_up (va_up (va_up Y.2 11 (rAdd 16 (Y.2 11) v)) 12 (rAdd 16 (Y.2 12) c)) 13 (rAdd 16 (Y.2 13) 0)) 3 (rCh (Y.2 3) v (rA (Y.2 3) v + 1)) 12 = _
    rw [vuN (by omega), vuN (by omega), vuS, rAdd_in (by omega), n12]
  have d13 : (adS Y v c).2 13 = ((Y.2 11).1 + 1, va_up (Y.2 13).2 (Y.2 11).1 0) := by
    show va_up (va_up (va_up (va_up Y.2 11 (rAdd 16 (Y.2 11) v)) 12 (rAdd 16 (Y.2 12) c)) 13 (rAdd 16 (Y.2 13) 0)) 3 (rCh (Y.2 3) v (rA (Y.2 3) v + 1)) 13 = _
    rw [vuN (by omega), vuS, rAdd_in (by omega), n13]
  have d3 : (adS Y v c).2 3 = rCh (Y.2 3) v (rA (Y.2 3) v + 1) := by
    show va_up (va_up (va_up (va_up Y.2 11 (rAdd 16 (Y.2 11) v)) 12 (rAdd 16 (Y.2 12) c)) 13 (rAdd 16 (Y.2 13) 0)) 3 (rCh (Y.2 3) v (rA (Y.2 3) v + 1)) 3 = _
    rw [vuS]
  have dn : ∀ k, k ≠ 3 → k ≠ 11 → k ≠ 12 → k ≠ 13 → (adS Y v c).2 k = Y.2 k := fun k a b d e => by
    show va_up (va_up (va_up (va_up Y.2 11 (rAdd 16 (Y.2 11) v)) 12 (rAdd 16 (Y.2 12) c)) 13 (rAdd 16 (Y.2 13) 0)) 3 (rCh (Y.2 3) v (rA (Y.2 3) v + 1)) k = _
    rw [vuN a, vuN e, vuN d, vuN b]
  have d1 := dn 1 (by omega) (by omega) (by omega) (by omega)
  have d2 := dn 2 (by omega) (by omega) (by omega) (by omega)
  refine ⟨hC.cg (dn 0 (by omega) (by omega) (by omega) (by omega)), hN.cg d1 d2 (by rw [d3, rCh_1]) (by rw [dn 4 (by omega) (by omega) (by omega) (by omega)]), hL.cg (fun a _ => dn _ (by omega) (by omega) (by omega) (by omega)) (Nat.le_of_eq (by rw [d1])) (fun m _ => by rw [d2]), hU.cg (fun a _ => dn _ (by omega) (by omega) (by omega) (by omega)), ?_, hK.cg (dn 14 (by omega) (by omega) (by omega) (by omega)) (by rw [dn 15 (by omega) (by omega) (by omega) (by omega)]) (by rw [dn 16 (by omega) (by omega) (by omega) (by omega)]) (Nat.le_of_eq (by rw [d1])), hB.up (Nat.le_succ t) (by have := hB.1; show Y.1 ≤ t + 1; omega) (fun k hk hk1 => ?_)⟩
  · have hgv := aN_f.mp hg
    have hA : ∀ g, g < (Y.2 11).1 → ¬ ((Y.2 11).2 g = v ∧ (Y.2 12).2 g = c) := fun g hg ⟨a, b⟩ => by
      have := hgv g hg
      rw [rA_in (by rw [n12]; exact hg), a, b] at this
      simp at this
    unfold jG
    rw [d11, d12]
    refine ⟨by show _ + 1 ≤ 16; omega, fun k k1 k2 => ?_, fun g hg => ?_, fun g k hg hk a b => ?_⟩
    · rcases (show k = 11 ∨ k = 12 ∨ k = 13 by omega) with rfl | rfl | rfl
      · rw [d11]
      · rw [d12]
      · rw [d13]
    · rw [d1, d2]
      change g < (Y.2 11).1 + 1 at hg
      show va_up (Y.2 11).2 (Y.2 11).1 v g < _ ∧ va_up (Y.2 12).2 (Y.2 11).1 c g < 2 ∧ (Y.2 2).2 (va_up (Y.2 11).2 (Y.2 11).1 v g) = 0
      by_cases e : g = (Y.2 11).1
      · rw [e, vuS, vuS]; exact ⟨hv, hc, hr⟩
      · rw [vuN e, vuN e]; exact g3 g (by omega)
    · change g < (Y.2 11).1 + 1 at hg
      change k < (Y.2 11).1 + 1 at hk
      change va_up (Y.2 11).2 (Y.2 11).1 v g = va_up (Y.2 11).2 (Y.2 11).1 v k at a
      change va_up (Y.2 12).2 (Y.2 11).1 c g = va_up (Y.2 12).2 (Y.2 11).1 c k at b
      by_cases e : g = (Y.2 11).1
      · by_cases e' : k = (Y.2 11).1
        · omega
        · rw [e, vuS, vuN e'] at a b
          exact absurd ⟨a.symm, b.symm⟩ (hA k (by omega))
      · by_cases e' : k = (Y.2 11).1
        · rw [e', vuS, vuN e] at a b
          exact absurd ⟨a, b⟩ (hA g (by omega))
        · rw [vuN e, vuN e'] at a b
          exact g4 g k (by omega) (by omega) a b
  · by_cases e3 : k = 3
    · subst e3; right; rw [d3]
      refine rB_ch ((hB.2 3 (by decide) (by decide)).mono (by omega)) ?_
      have := rA_lt (i := v) (hB.2 3 (by decide) (by decide)) (by omega)
      omega
    · by_cases e11 : k = 11
      · subst e11; right; rw [d11, ← rAdd_in h16]
        exact rB_add ((hB.2 11 (by decide) (by decide)).mono (by omega)) (by have := hN.1; omega)
      · by_cases e12 : k = 12
        · subst e12; right; rw [d12, show ((Y.2 11).1 + 1, va_up (Y.2 12).2 (Y.2 11).1 c) = rAdd 16 (Y.2 12) c by rw [rAdd_in (by omega), n12]]
          exact rB_add ((hB.2 12 (by decide) (by decide)).mono (by omega)) (by omega)
        · by_cases e13 : k = 13
          · subst e13; right; rw [d13, show ((Y.2 11).1 + 1, va_up (Y.2 13).2 (Y.2 11).1 0) = rAdd 16 (Y.2 13) 0 by rw [rAdd_in (by omega), n13]]
            exact rB_add ((hB.2 13 (by decide) (by decide)).mono (by omega)) (by omega)
          · left; exact dn k e3 e11 e12 e13
/-- harm -/
theorem IY.harm {g b : Nat} (h : IY t Y) (hg : g < (Y.2 11).1) (hb : b ≤ 50) : IY (t + 1) (hmS Y g b) := by
  obtain ⟨hC, hN, hL, hU, hG, hK, hB⟩ := h
  have d4 : (hmS Y g b).2 4 = rCh (Y.2 4) (rA (Y.2 11) g) (rA (Y.2 4) (rA (Y.2 11) g) + b) := by
    show va_up (va_up Y.2 4 (rCh (Y.2 4) (rA (Y.2 11) g) (rA (Y.2 4) (rA (Y.2 11) g) + b))) 13 (rCh (Y.2 13) g (rA (Y.2 13) g + b)) 4 = _
    rw [vuN (by decide), vuS]
  have d13 : (hmS Y g b).2 13 = rCh (Y.2 13) g (rA (Y.2 13) g + b) := by
    show va_up (va_up Y.2 4 (rCh (Y.2 4) (rA (Y.2 11) g) (rA (Y.2 4) (rA (Y.2 11) g) + b))) 13 (rCh (Y.2 13) g (rA (Y.2 13) g + b)) 13 = _
    rw [vuS]
  have dn : ∀ k, k ≠ 4 → k ≠ 13 → (hmS Y g b).2 k = Y.2 k := fun k a c => by
    show va_up (va_up Y.2 4 (rCh (Y.2 4) (rA (Y.2 11) g) (rA (Y.2 4) (rA (Y.2 11) g) + b))) 13 (rCh (Y.2 13) g (rA (Y.2 13) g + b)) k = _
    rw [vuN c, vuN a]
  have d1 := dn 1 (by omega) (by omega)
  have d2 := dn 2 (by omega) (by omega)
  refine ⟨hC.cg (dn 0 (by omega) (by omega)), hN.cg d1 d2 (by rw [dn 3 (by omega) (by omega)]) (by rw [d4, rCh_1]), hL.cg (fun a _ => dn _ (by omega) (by omega)) (Nat.le_of_eq (by rw [d1])) (fun m _ => by rw [d2]), hU.cg (fun a _ => dn _ (by omega) (by omega)), hG.cg (dn 11 (by omega) (by omega)) (dn 12 (by omega) (by omega)) (by rw [d13, rCh_1]) (Nat.le_of_eq (by rw [d1])) (fun m _ => by rw [d2]), hK.cg (dn 14 (by omega) (by omega)) (by rw [dn 15 (by omega) (by omega)]) (by rw [dn 16 (by omega) (by omega)]) (Nat.le_of_eq (by rw [d1])), hB.up (Nat.le_succ t) (by have := hB.1; show Y.1 ≤ t + 1; omega) (fun k hk hk1 => ?_)⟩
  by_cases e : k = 4
  · subst e; right; rw [d4]
    refine rB_ch ((hB.2 4 (by decide) (by decide)).mono (by omega)) ?_
    have := rA_lt (i := rA (Y.2 11) g) (hB.2 4 (by decide) (by decide)) (by omega)
    omega
  · by_cases e2 : k = 13
    · subst e2; right; rw [d13]
      refine rB_ch ((hB.2 13 (by decide) (by decide)).mono (by omega)) ?_
      have := rA_lt (i := g) (hB.2 13 (by decide) (by decide)) (by omega)
      omega
    · left; exact dn k e e2
/-- a letter to a namesake -/
theorem IY.apo {g : Nat} (h : IY t Y) (hg : g < (Y.2 15).1) : IY (t + 1) (apS Y g) := by
  obtain ⟨hC, hN, hL, hU, hG, hK, hB⟩ := h
  have d15 : (apS Y g).2 15 = rCh (Y.2 15) g (rA (Y.2 15) g - 1) := by
    show va_up (va_up Y.2 15 (rCh (Y.2 15) g (rA (Y.2 15) g - 1))) 16 (rCh (Y.2 16) g (rA (Y.2 16) g + 1)) 15 = _
    rw [vuN (by decide), vuS]
  have d16 : (apS Y g).2 16 = rCh (Y.2 16) g (rA (Y.2 16) g + 1) := by
    show va_up (va_up Y.2 15 (rCh (Y.2 15) g (rA (Y.2 15) g - 1))) 16 (rCh (Y.2 16) g (rA (Y.2 16) g + 1)) 16 = _
    rw [vuS]
  have dn : ∀ k, k ≠ 15 → k ≠ 16 → (apS Y g).2 k = Y.2 k := fun k a c => by
    show va_up (va_up Y.2 15 (rCh (Y.2 15) g (rA (Y.2 15) g - 1))) 16 (rCh (Y.2 16) g (rA (Y.2 16) g + 1)) k = _
    rw [vuN c, vuN a]
  have d1 := dn 1 (by omega) (by omega)
  have d2 := dn 2 (by omega) (by omega)
  refine ⟨hC.cg (dn 0 (by omega) (by omega)), hN.cg d1 d2 (by rw [dn 3 (by omega) (by omega)]) (by rw [dn 4 (by omega) (by omega)]), hL.cg (fun a _ => dn _ (by omega) (by omega)) (Nat.le_of_eq (by rw [d1])) (fun m _ => by rw [d2]), hU.cg (fun a _ => dn _ (by omega) (by omega)), hG.cg (dn 11 (by omega) (by omega)) (dn 12 (by omega) (by omega)) (by rw [dn 13 (by omega) (by omega)]) (Nat.le_of_eq (by rw [d1])) (fun m _ => by rw [d2]), hK.cg (dn 14 (by omega) (by omega)) (by rw [d15, rCh_1]) (by rw [d16, rCh_1]) (Nat.le_of_eq (by rw [d1])), hB.up (Nat.le_succ t) (by have := hB.1; show Y.1 ≤ t + 1; omega) (fun k hk hk1 => ?_)⟩
  by_cases e : k = 15
  · subst e; right; rw [d15]
    refine rB_ch ((hB.2 15 (by decide) (by decide)).mono (by omega)) ?_
    have := rA_lt (i := g) (hB.2 15 (by decide) (by decide)) (by omega)
    omega
  · by_cases e2 : k = 16
    · subst e2; right; rw [d16]
      refine rB_ch ((hB.2 16 (by decide) (by decide)).mono (by omega)) ?_
      have := rA_lt (i := g) (hB.2 16 (by decide) (by decide)) (by omega)
      omega
    · left; exact dn k e e2
end
