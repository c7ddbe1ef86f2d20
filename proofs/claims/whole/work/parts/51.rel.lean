/-! the class's state and the reference's row: what they have in common -/
def rY (Y : ST) (S : Nat → Nat) : Prop := Y.1 = S 3 ∧ S 3 ≤ 999
def rC (Y : ST) (S : Nat → Nat) : Prop := (Y.2 0).1 = 3 ∧ ∀ i, i < 3 → (Y.2 0).2 i = S i
def rN (Y : ST) (S : Nat → Nat) : Prop := S 4 ≤ 40 ∧ (∀ k, 1 ≤ k → k ≤ 4 → (Y.2 k).1 = S 4) ∧ (∀ n, n < S 4 → kIs ((Y.2 1).2 n) (S (9 + 10 * n)) (fun j => S (9 + 10 * n + 1 + j)) ∧ (Y.2 2).2 n = S (9 + 10 * n + 7) ∧ (Y.2 3).2 n = S (9 + 10 * n + 8) ∧ (Y.2 4).2 n = S (9 + 10 * n + 9)) ∧ ∀ a b, a < S 4 → b < S 4 → (Y.2 1).2 a = (Y.2 1).2 b → a = b
def rL (Y : ST) (S : Nat → Nat) : Prop := ∀ a, a < 6 → (Y.2 (5 + a)).1 = S (409 + 9 * a) ∧ S (409 + 9 * a) ≤ 8 ∧ (∀ j, j < S (409 + 9 * a) → (Y.2 (5 + a)).2 j = S (409 + 9 * a + 1 + j) ∧ S (409 + 9 * a + 1 + j) < S 4) ∧ ∀ i j, i < S (409 + 9 * a) → j < S (409 + 9 * a) → S (409 + 9 * a + 1 + i) = S (409 + 9 * a + 1 + j) → i = j
def rG (Y : ST) (S : Nat → Nat) : Prop := S 5 ≤ 16 ∧ (∀ k, 11 ≤ k → k ≤ 13 → (Y.2 k).1 = S 5) ∧ (∀ g, g < S 5 → (Y.2 11).2 g = S (463 + 3 * g) ∧ (Y.2 12).2 g = S (463 + 3 * g + 1) ∧ (Y.2 13).2 g = S (463 + 3 * g + 2) ∧ S (463 + 3 * g) < S 4 ∧ S (463 + 3 * g + 1) < 2) ∧ ∀ g h, g < S 5 → h < S 5 → S (463 + 3 * g) = S (463 + 3 * h) → S (463 + 3 * g + 1) = S (463 + 3 * h + 1) → g = h
def rK (Y : ST) (S : Nat → Nat) : Prop := S 7 ≤ 10 ∧ (∀ k, 14 ≤ k → k ≤ 16 → (Y.2 k).1 = S 7) ∧ ∀ k, k < S 7 → (Y.2 14).2 k = S (511 + 3 * k) ∧ S (511 + 3 * k) < S 4 ∧ (Y.2 15).2 k = S (511 + 3 * k + 1) ∧ (Y.2 16).2 k = S (511 + 3 * k + 2)
def rU (S : Nat → Nat) : Prop := S 6 = sN (fun n => S (9 + 10 * n + 8)) (S 4) ∧ S 8 = sN (fun k => S (511 + 3 * k + 2)) (S 7)
def RS (Y : ST) (S : Nat → Nat) : Prop := rY Y S ∧ rC Y S ∧ rN Y S ∧ rL Y S ∧ rG Y S ∧ rK Y S ∧ rU S
def bB (t : Nat) (S : Nat → Nat) : Prop := ∀ k, k < 541 → S k ≤ 200 + 50 * t
def RB (t : Nat) (Y : ST) (S : Nat → Nat) : Prop := RS Y S ∧ bB t S
section
variable {Y Z : ST} {S T : Nat → Nat}
theorem rY.cg (h : rY Y S) (h1 : Z.1 = Y.1) (h2 : T 3 = S 3) : rY Z T := ⟨by rw [h1, h2]; exact h.1, by rw [h2]; exact h.2⟩
theorem rC.cg (h : rC Y S) (h1 : Z.2 0 = Y.2 0) (h2 : ∀ i, i < 3 → T i = S i) : rC Z T := ⟨by rw [h1]; exact h.1, fun i hi => by rw [h1, h2 i hi]; exact h.2 i hi⟩
theorem rN.cg (h : rN Y S) (h1 : ∀ k, 1 ≤ k → k ≤ 4 → Z.2 k = Y.2 k) (h4 : T 4 = S 4) (h2 : ∀ x, 9 ≤ x → x < 409 → T x = S x) : rN Z T := by
  obtain ⟨a, b, c, d⟩ := h
  rw [← h4] at a c d b
  refine ⟨a, fun k k1 k2 => by rw [h1 k k1 k2]; exact b k k1 k2, fun n hn => ?_, fun u v hu hv e => ?_⟩
  · obtain ⟨c1, c2, c3, c4⟩ := c n hn
    rw [h1 1 (by decide) (by decide), h1 2 (by decide) (by decide), h1 3 (by decide) (by decide), h1 4 (by decide) (by decide)]
    refine ⟨c1.cg (h2 _ (by omega) (by omega)) (fun j hj => h2 _ (by omega) (by have := c1.2.1; omega)), ?_, ?_, ?_⟩
    · rw [h2 _ (by omega) (by omega)]; exact c2
    · rw [h2 _ (by omega) (by omega)]; exact c3
    · rw [h2 _ (by omega) (by omega)]; exact c4
  · rw [h1 1 (by decide) (by decide)] at e
    exact d u v hu hv e
theorem rL.cg (h : rL Y S) (h1 : ∀ a, a < 6 → Z.2 (5 + a) = Y.2 (5 + a)) (h4 : S 4 ≤ T 4) (h2 : ∀ x, 409 ≤ x → x < 463 → T x = S x) : rL Z T := by
  intro a ha
  obtain ⟨b, c, d, e⟩ := h a ha
  have hq := h2 (409 + 9 * a) (by omega) (by omega)
  rw [h1 a ha, hq]
  refine ⟨b, c, fun j hj => ?_, fun i j hi hj => ?_⟩
  · rw [h2 _ (by omega) (by omega)]
    exact ⟨(d j hj).1, Nat.lt_of_lt_of_le (d j hj).2 h4⟩
  · rw [h2 _ (by omega) (by omega), h2 _ (by omega) (by omega)]
    exact e i j hi hj
theorem rG.cg (h : rG Y S) (h1 : ∀ k, 11 ≤ k → k ≤ 13 → Z.2 k = Y.2 k) (h5 : T 5 = S 5) (h4 : S 4 ≤ T 4) (h2 : ∀ x, 463 ≤ x → x < 511 → T x = S x) : rG Z T := by
  obtain ⟨a, b, c, d⟩ := h
  rw [← h5] at a b c d
  refine ⟨a, fun k k1 k2 => by rw [h1 k k1 k2]; exact b k k1 k2, fun g hg => ?_, fun g k hg hk => ?_⟩
  · rw [h1 11 (by decide) (by decide), h1 12 (by decide) (by decide), h1 13 (by decide) (by decide), h2 _ (by omega) (by omega), h2 _ (by omega) (by omega), h2 _ (by omega) (by omega)]
    obtain ⟨c1, c2, c3, c4, c5⟩ := c g hg
    exact ⟨c1, c2, c3, Nat.lt_of_lt_of_le c4 h4, c5⟩
  · rw [h2 _ (by omega) (by omega), h2 _ (by omega) (by omega), h2 _ (by omega) (by omega), h2 _ (by omega) (by omega)]
    exact d g k hg hk
theorem rK.cg (h : rK Y S) (h1 : ∀ k, 14 ≤ k → k ≤ 16 → Z.2 k = Y.2 k) (h7 : T 7 = S 7) (h4 : S 4 ≤ T 4) (h2 : ∀ x, 511 ≤ x → x < 541 → T x = S x) : rK Z T := by
  obtain ⟨a, b, c⟩ := h
  rw [← h7] at a b c
  refine ⟨a, fun k k1 k2 => by rw [h1 k k1 k2]; exact b k k1 k2, fun g hg => ?_⟩
  rw [h1 14 (by decide) (by decide), h1 15 (by decide) (by decide), h1 16 (by decide) (by decide), h2 (511 + 3 * g) (by omega) (by omega), h2 (511 + 3 * g + 1) (by omega) (by omega), h2 (511 + 3 * g + 2) (by omega) (by omega)]
  obtain ⟨c1, c2, c3, c4⟩ := c g hg
  exact ⟨c1, Nat.lt_of_lt_of_le c2 h4, c3, c4⟩
theorem rU.cg (h : rU S) (h4 : T 4 = S 4) (h7 : T 7 = S 7) (h6 : T 6 = S 6) (h8 : T 8 = S 8) (h1 : ∀ n, n < S 4 → T (9 + 10 * n + 8) = S (9 + 10 * n + 8)) (h2 : ∀ k, k < S 7 → T (511 + 3 * k + 2) = S (511 + 3 * k + 2)) : rU T := by
  refine ⟨?_, ?_⟩
  · rw [h6, h4, h.1]; exact (sN_cong fun n hn => h1 n hn).symm
  · rw [h8, h7, h.2]; exact (sN_cong fun n hn => h2 n hn).symm
theorem RS.cS (h : RS Y S) (h2 : ∀ x, x < 541 → T x = S x) : RS Y T := by
  obtain ⟨a, b, c, d, e, f, g⟩ := h
  have h40 := c.1
  have h10 := f.1
  exact ⟨a.cg rfl (h2 _ (by decide)), b.cg rfl (fun i hi => h2 _ (by omega)), c.cg (fun _ _ _ => rfl) (h2 _ (by decide)) (fun x _ hx => h2 _ (by omega)), d.cg (fun _ _ => rfl) (Nat.le_of_eq (h2 _ (by decide)).symm) (fun x _ hx => h2 _ (by omega)), e.cg (fun _ _ _ => rfl) (h2 _ (by decide)) (Nat.le_of_eq (h2 _ (by decide)).symm) (fun x _ hx => h2 _ (by omega)), f.cg (fun _ _ _ => rfl) (h2 _ (by decide)) (Nat.le_of_eq (h2 _ (by decide)).symm) (fun x _ hx => h2 _ (by omega)),
    g.cg (h2 _ (by decide)) (h2 _ (by decide)) (h2 _ (by decide)) (h2 _ (by decide)) (fun n hn => h2 _ (by omega)) (fun k hk => h2 _ (by omega))⟩
/-- rows that are alike where they count -/
def eqY (Z Y : ST) : Prop := Z.1 = Y.1 ∧ ∀ k, k < 17 → (Z.2 k).1 = (Y.2 k).1 ∧ ∀ j, j < (Y.2 k).1 → (Z.2 k).2 j = (Y.2 k).2 j
theorem RS.cY (h : RS Y S) (h2 : eqY Z Y) : RS Z S := by
  obtain ⟨a, b, c, d, e, f, g⟩ := h
  refine ⟨⟨h2.1.trans a.1, a.2⟩, ⟨(h2.2 0 (by decide)).1.trans b.1, fun i hi => ((h2.2 0 (by decide)).2 i (by rw [b.1]; exact hi)).trans (b.2 i hi)⟩, ?_, ?_, ?_, ?_, g⟩
  · obtain ⟨c1, c2, c3, c4⟩ := c
    refine ⟨c1, fun k k1 k2 => (h2.2 k (by omega)).1.trans (c2 k k1 k2), fun n hn => ?_, fun u v hu hv q => ?_⟩
    · obtain ⟨d1, d2, d3, d4⟩ := c3 n hn
      rw [(h2.2 1 (by decide)).2 n (by rw [c2 1 (by decide) (by decide)]; exact hn), (h2.2 2 (by decide)).2 n (by rw [c2 2 (by decide) (by decide)]; exact hn), (h2.2 3 (by decide)).2 n (by rw [c2 3 (by decide) (by decide)]; exact hn), (h2.2 4 (by decide)).2 n (by rw [c2 4 (by decide) (by decide)]; exact hn)]
      exact ⟨d1, d2, d3, d4⟩
    · rw [(h2.2 1 (by decide)).2 u (by rw [c2 1 (by decide) (by decide)]; exact hu), (h2.2 1 (by decide)).2 v (by rw [c2 1 (by decide) (by decide)]; exact hv)] at q
      exact c4 u v hu hv q
  · intro x hx
    obtain ⟨d1, d2, d3, d4⟩ := d x hx
    refine ⟨(h2.2 (5 + x) (by omega)).1.trans d1, d2, fun j hj => ?_, d4⟩
    rw [(h2.2 (5 + x) (by omega)).2 j (by rw [d1]; exact hj)]
    exact d3 j hj
  · obtain ⟨c1, c2, c3, c4⟩ := e
    refine ⟨c1, fun k k1 k2 => (h2.2 k (by omega)).1.trans (c2 k k1 k2), fun n hn => ?_, c4⟩
    rw [(h2.2 11 (by decide)).2 n (by rw [c2 11 (by decide) (by decide)]; exact hn), (h2.2 12 (by decide)).2 n (by rw [c2 12 (by decide) (by decide)]; exact hn), (h2.2 13 (by decide)).2 n (by rw [c2 13 (by decide) (by decide)]; exact hn)]
    exact c3 n hn
  · obtain ⟨c1, c2, c3⟩ := f
    refine ⟨c1, fun k k1 k2 => (h2.2 k (by omega)).1.trans (c2 k k1 k2), fun n hn => ?_⟩
    rw [(h2.2 14 (by decide)).2 n (by rw [c2 14 (by decide) (by decide)]; exact hn), (h2.2 15 (by decide)).2 n (by rw [c2 15 (by decide) (by decide)]; exact hn), (h2.2 16 (by decide)).2 n (by rw [c2 16 (by decide) (by decide)]; exact hn)]
    exact c3 n hn
theorem eqY.cp (Z Y : ST) : eqY (cpL Z Y 17) Y := by
  refine ⟨rfl, fun k hk => ?_⟩
  show (if k < 17 then rCp (Z.2 k) (Y.2 k) else Z.2 k).1 = _ ∧ ∀ j, j < (Y.2 k).1 → (if k < 17 then rCp (Z.2 k) (Y.2 k) else Z.2 k).2 j = _
  rw [if_pos hk]
  exact ⟨rfl, fun j hj => if_pos hj⟩
theorem bB.mono {t u : Nat} (h : bB t S) (ht : t ≤ u) : bB u S := fun k hk => by have := h k hk; omega
theorem RB.mono {t u : Nat} (h : RB t Y S) (ht : t ≤ u) : RB u Y S := ⟨h.1, h.2.mono ht⟩
theorem RB.cS {t : Nat} (h : RB t Y S) (h2 : ∀ x, x < 541 → T x = S x) : RB t Y T := ⟨h.1.cS h2, fun k hk => by rw [h2 k hk]; exact h.2 k hk⟩
theorem RB.cY {t : Nat} (h : RB t Y S) (h2 : eqY Z Y) : RB t Z S := ⟨h.1.cY h2, h.2⟩
theorem qLix (c k : Nat) : 409 + 27 * c + 9 * k = 409 + 9 * lix c k := by unfold lix; omega
/-- what the reference's contracts ask -/
theorem RB.mOk {t : Nat} (h : RB t Y S) (ht : t ≤ 1000) : mOk S := by
  obtain ⟨⟨-, -, c, d, e, f, -⟩, hb⟩ := h
  refine ⟨c.1, e.1, f.1, fun i hi k hk => ?_, fun g hg => (e.2.2.1 g hg).2.2.2.1, fun k hk => (f.2.2 k hk).2.1, fun n hn => (c.2.2.1 n hn).1.2.1, fun k hk => ?_⟩
  · rw [qLix]
    obtain ⟨-, d2, d3, -⟩ := d (lix i k) (lix_lt hi hk)
    exact ⟨d2, fun j hj => (d3 j hj).2⟩
  · have := hb k hk; omega
theorem RB.hB {t : Nat} (h : RB t Y S) (ht : t ≤ 1000) : ∀ k, k < 541 → S k < 2 ^ 25 := fun k hk => by have := h.2 k hk; omega
theorem RB.hch {t : Nat} (h : RB t Y S) : ∀ n, n < S 4 → ∀ j, j < S (9 + 10 * n) → S (9 + 10 * n + 1 + j) < 2 ^ 16 := fun n hn j hj => by
  have h1 : S (9 + 10 * n + 1 + j) ≤ 122 := ((h.1.2.2.1.2.2.1 n hn).1.2.2.2.1 j hj).2.1
  omega
theorem RB.SOk {t : Nat} (h : RB t Y S) (ht : t ≤ 1000) : SOk Y ∧ rB (Y.2 15) (2 ^ 29) := by
  obtain ⟨⟨a, b, c, d, e, f, -⟩, hb⟩ := h
  have h26 : ∀ k, k < 541 → S k < 2 ^ 26 := fun k hk => by have := hb k hk; omega
  have hl : ∀ x, x < 6 → rB (Y.2 (5 + x)) (2 ^ 26) := fun x hx j hj => by
    obtain ⟨d1, d2, d3, -⟩ := d x hx
    rw [d1] at hj
    rw [(d3 j hj).1]; exact h26 _ (by omega)
  have hn : ∀ k, 2 ≤ k → k ≤ 4 → rB (Y.2 k) (2 ^ 26) := fun k k1 k2 j hj => by
    rw [c.2.1 k (by omega) k2] at hj
    have h40 := c.1
    obtain ⟨-, q2, q3, q4⟩ := c.2.2.1 j hj
    rcases (show k = 2 ∨ k = 3 ∨ k = 4 by omega) with rfl | rfl | rfl
    · rw [q2]; exact h26 _ (by omega)
    · rw [q3]; exact h26 _ (by omega)
    · rw [q4]; exact h26 _ (by omega)
  have hg : ∀ k, 11 ≤ k → k ≤ 13 → rB (Y.2 k) (2 ^ 26) := fun k k1 k2 j hj => by
    rw [e.2.1 k (by omega) k2] at hj
    have h16 := e.1
    obtain ⟨q1, q2, q3, -, -⟩ := e.2.2.1 j hj
    rcases (show k = 11 ∨ k = 12 ∨ k = 13 by omega) with rfl | rfl | rfl
    · rw [q1]; exact h26 _ (by omega)
    · rw [q2]; exact h26 _ (by omega)
    · rw [q3]; exact h26 _ (by omega)
  have hk : ∀ k, 14 ≤ k → k ≤ 16 → rB (Y.2 k) (2 ^ 26) := fun k k1 k2 j hj => by
    rw [f.2.1 k (by omega) k2] at hj
    have h16 := f.1
    obtain ⟨q1, -, q2, q3⟩ := f.2.2 j hj
    rcases (show k = 14 ∨ k = 15 ∨ k = 16 by omega) with rfl | rfl | rfl
    · rw [q1]; exact h26 _ (by omega)
    · rw [q2]; exact h26 _ (by omega)
    · rw [q3]; exact h26 _ (by omega)
  have up : ∀ {R : Rw}, rB R (2 ^ 26) → rB R (2 ^ 30) := fun h => h.mono (by decide)
  refine ⟨⟨by have := a.1; have := a.2; omega, ro_all ?_ ?_ (up (hn 2 (by decide) (by decide))) (up (hn 3 (by decide) (by decide))) (up (hn 4 (by decide) (by decide))) (up (hl 0 (by decide))) (up (hl 1 (by decide))) (up (hl 2 (by decide))) (up (hl 3 (by decide))) (up (hl 4 (by decide))) (up (hl 5 (by decide))) (up (hg 11 (by decide) (by decide))) (up (hg 12 (by decide) (by decide))) (up (hg 13 (by decide) (by decide))) (up (hk 14 (by decide) (by decide))) (up (hk 15 (by decide) (by decide))) (up (hk 16 (by decide) (by decide))), hg 13 (by decide) (by decide)⟩, (hk 15 (by decide) (by decide)).mono (by decide)⟩
  · intro j hj
    rw [b.1] at hj
    rw [b.2 j hj]
    have := h26 j (by omega)
    omega
  · intro j hj
    rw [c.2.1 1 (by decide) (by decide)] at hj
    exact (c.2.2.1 j hj).1.2.2.1
end
