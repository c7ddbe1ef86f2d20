/-! names: ranks, likeness, the order of letters -/
section
variable {t : Nat} {Y : ST}
theorem cN_1 {p : Nat → Bool} : ∀ {n : Nat}, (∀ i j, i < n → j < n → p i = true → p j = true → i = j) → cN p n = if aN p n then 1 else 0
  | 0, _ => rfl
  | n + 1, h => by
    have ih := cN_1 (p := p) (n := n) (fun i j hi hj => h i j (by omega) (by omega))
    rw [cN_s, aN_s, ih]
    cases e : p n with
    | false => simp
    | true =>
      have : aN p n = false := aN_f.mpr fun j hj => by
        cases e2 : p j with
        | false => rfl
        | true => have := h j n (by omega) (by omega) e2 e; omega
      rw [this]; rfl
theorem sN_le1 {f : Nat → Nat} : ∀ {n : Nat}, (∀ j, j < n → f j ≤ 1) → sN f n ≤ n
  | 0, _ => Nat.le_refl 0
  | n + 1, h => by
    have h1 := sN_le1 (n := n) (fun j hj => h j (by omega))
    have h2 := h n (by omega)
    rw [sN_s]; omega
theorem sN_hole {f : Nat → Nat} {r : Nat} : ∀ {n : Nat}, (∀ j, j < n → f j ≤ 1) → r < n → f r = 0 → sN f n + 1 ≤ n
  | 0, _, h, _ => absurd h (Nat.not_lt_zero r)
  | n + 1, h, hr, h0 => by
    rw [sN_s]
    by_cases e : r = n
    · subst e
      have := sN_le1 (n := r) (fun j hj => h j (by omega))
      omega
    · have h1 := sN_hole (n := n) (fun j hj => h j (by omega)) (by omega) h0
      have h2 := h n (by omega)
      omega
/-- n numbers below n, no two alike: each is there -/
theorem perm_sur {f : Nat → Nat} {n : Nat} (hlt : ∀ i, i < n → f i < n) (hinj : ∀ i j, i < n → j < n → f i = f j → i = j) {r : Nat} (hr : r < n) : ∃ i, i < n ∧ f i = r := by
  have h1 := sN_cnt hlt
  have h2 : ∀ v, cN (fun j => f j == v) n = if aN (fun j => f j == v) n then 1 else 0 := fun v => cN_1 (fun i j hi hj a b => hinj i j hi hj (by rw [beq_iff_eq] at a b; omega))
  cases e : aN (fun j => f j == r) n with
  | true =>
    obtain ⟨j, hj, q⟩ := aN_t.mp e
    exact ⟨j, hj, by simpa using q⟩
  | false =>
    have h3 := sN_hole (f := fun v => cN (fun j => f j == v) n) (r := r) (n := n) (fun v _ => by
      show cN (fun j => f j == v) n ≤ 1
      rw [h2]; split <;> omega) hr (by show cN (fun j => f j == r) n = 0; rw [h2, e]; rfl)
    omega
theorem cN_sub {p q : Nat → Bool} : ∀ {n : Nat}, (∀ j, j < n → p j = true → q j = true) → cN p n ≤ cN q n
  | 0, _ => Nat.le_refl 0
  | n + 1, h => by
    have ih := cN_sub (n := n) (fun j hj => h j (by omega))
    have h2 := h n (by omega)
    rw [cN_s, cN_s]
    cases e : p n with
    | false => simp; omega
    | true => rw [h2 e]; omega
theorem cN_lt {p q : Nat → Bool} {i : Nat} : ∀ {n : Nat}, (∀ j, j < n → p j = true → q j = true) → i < n → p i = false → q i = true → cN p n < cN q n
  | 0, _, h, _, _ => absurd h (Nat.not_lt_zero i)
  | n + 1, h, hi, h1, h2 => by
    rw [cN_s, cN_s]
    by_cases e : i = n
    · subst e
      have := cN_sub (p := p) (q := q) (n := i) (fun j hj => h j (by omega))
      rw [h1, h2]; simp; omega
    · have ih := cN_lt (n := n) (fun j hj => h j (by omega)) (by omega) h1 h2
      have h3 := h n (by omega)
      cases e : p n with
      | false => simp; omega
      | true => rw [h3 e]; omega
theorem cN_all : ∀ n, cN (fun _ => true) n = n
  | 0 => rfl
  | n + 1 => by rw [cN_s, cN_all n]; rfl
theorem rk_in (h : IY t Y) {a : Nat} (ha : a < (Y.2 1).1) : rnk Y a = cN (fun j => decide ((Y.2 1).2 j < (Y.2 1).2 a)) (Y.2 1).1 := by
  unfold rnk; rw [rA_in ha]
theorem rk_lt (h : IY t Y) {a : Nat} (ha : a < (Y.2 1).1) : rnk Y a < (Y.2 1).1 := by
  rw [rk_in h ha]
  have := cN_lt (p := fun j => decide ((Y.2 1).2 j < (Y.2 1).2 a)) (q := fun _ => true) (i := a) (n := (Y.2 1).1) (fun _ _ _ => rfl) ha (by simp) rfl
  rw [cN_all] at this; exact this
theorem rk_mo (h : IY t Y) {a b : Nat} (ha : a < (Y.2 1).1) (hb : b < (Y.2 1).1) (hk : (Y.2 1).2 a < (Y.2 1).2 b) : rnk Y a < rnk Y b := by
  rw [rk_in h ha, rk_in h hb]
  exact cN_lt (i := a) (fun j _ e => by simp at e ⊢; omega) ha (by simp) (by simpa using hk)
theorem rk_inj (h : IY t Y) {a b : Nat} (ha : a < (Y.2 1).1) (hb : b < (Y.2 1).1) (e : rnk Y a = rnk Y b) : a = b := by
  refine h.2.1.2.2.2.1 a b ha hb ?_
  rcases Nat.lt_trichotomy ((Y.2 1).2 a) ((Y.2 1).2 b) with q | q | q
  · have := rk_mo h ha hb q; omega
  · exact q
  · have := rk_mo h hb ha q; omega
theorem rk_or (h : IY t Y) {a b : Nat} (ha : a < (Y.2 1).1) (hb : b < (Y.2 1).1) (e : rnk Y a < rnk Y b) : (Y.2 1).2 a < (Y.2 1).2 b := by
  rcases Nat.lt_trichotomy ((Y.2 1).2 a) ((Y.2 1).2 b) with q | q | q
  · exact q
  · have := h.2.1.2.2.2.1 a b ha hb q; subst this; omega
  · have := rk_mo h hb ha q; omega
theorem rk_at (h : IY t Y) {r : Nat} (hr : r < (Y.2 1).1) : ∃ a, a < (Y.2 1).1 ∧ rnk Y a = r ∧ cRanked Y (nI r) = nI a := by
  have h40 := h.n40
  obtain ⟨i, hi, e⟩ := perm_sur (f := rnk Y) (fun i hi => rk_lt h hi) (fun i j hi hj e => rk_inj h hi hj e) hr
  refine ⟨i, hi, e, ?_⟩
  unfold cRanked
  rw [fF_some hi (by rw [e]; simp) (fun j hj => by
    have : rnk Y j ≠ r := fun z => by have := rk_inj h (a := j) (b := i) (by omega) hi (by omega); omega
    have h2 := rk_lt h (a := j) (by omega)
    have : ¬ nI (rnk Y j) = nI r := fun z => this ((nI_eqi (by omega) (by omega)).mp z)
    simpa using this)]
  rfl
theorem rk_no (h : IY t Y) {r : Int32} (hr : ∀ i, i < (Y.2 1).1 → ¬ nI i = r) : cRanked Y r = -1 := by
  unfold cRanked
  rw [fF_none (fun j hj => by
    have := hr _ (rk_lt h hj)
    simpa using this)]
  rfl
theorem rk_n (h : IY t Y) : cRanked Y (nI (Y.2 1).1) = -1 := rk_no h (fun i hi z => by
  have h40 := h.n40
  have := (nI_eqi (by omega) (by omega)).mp z
  omega)
theorem nI_m1 {i : Nat} (h : i < 2 ^ 31) : ¬ nI i = -1 := fun e => by
  have : nI i < 0 := by rw [e]; decide
  exact absurd this (nI_pos h)
theorem rk_m (h : IY t Y) : cRanked Y (-1) = -1 := rk_no h (fun i hi => nI_m1 (by have := h.n40; omega))
theorem kal_i (κ l : Nat) : kAl κ κ l = false := by unfold kAl; simp
theorem kal_t {κ o l : Nat} (h : κ ≠ o) (h2 : l ≤ kS κ o) : kAl κ o l = true := by unfold kAl; simp [h, h2]
theorem kal_f {κ o l : Nat} (h2 : kS κ o < l) : kAl κ o l = false := by unfold kAl; simp; intro _; omega
theorem alT_in (h : IY t Y) {a : Nat} (ha : a < (Y.2 1).1) : alT Y a = cN (fun j => kAl ((Y.2 1).2 a) ((Y.2 1).2 j) ((Y.2 0).2 2)) (Y.2 1).1 := by
  unfold alT lik; rw [rA_in ha, (h.set3 (i := 2) (by decide)).1]
theorem kS_leM {κ o : Nat} (h : kK κ) (h2 : kK o) : kS κ o ≤ kS o o := by
  rcases Nat.lt_or_ge (kS o o) (kS κ o) with q | q
  · have e := kS_is h h2
    have := pfx_t (p := fun j => decide (j < kS κ κ) && decide (j < kS o o) && (96 + kL κ j) == (96 + kL o j)) (n := 6) (j := kS o o) (by rw [← e]; exact q)
    simp at this
  · exact q
theorem ah_ok {κ o : Nat} (h : kK κ) (h2 : kK o) (hlt : κ < o) (hp : kS κ o < kS κ κ) : kS κ o < kS o o ∧ kL κ (kS κ o) < kL o (kS κ o) := by
  have hM := kS_leM h h2
  have := (kLt h h2).mp hlt
  by_cases q : kS κ o = kS o o
  · rw [if_pos (Or.inr q)] at this; omega
  · rw [if_neg (by omega)] at this
    change 96 + kL κ (kS κ o) < 96 + kL o (kS κ o) at this
    exact ⟨by omega, by omega⟩
theorem coF_2 (v : Nat) : coF Y v 2 = (if stO Y v 0 then 1 else 0) + (if stO Y v 1 then 2 else 0) := by
  show (if stO Y v 1 = true then (if stO Y v 0 = true then 0 ||| 2 ^ 0 else 0) ||| 2 ^ 1 else (if stO Y v 0 = true then 0 ||| 2 ^ 0 else 0)) = _
  cases stO Y v 0 <;> cases stO Y v 1 <;> rfl
theorem coF_lt (v : Nat) : coF Y v 2 ≤ 3 := by rw [coF_2]; split <;> split <;> omega
theorem coF_b {v c : Nat} (hc : c < 2) : coF Y v 2 / 2 ^ c &&& 1 = if stO Y v c then 1 else 0 := by
  rw [coF_2]
  rcases (show c = 0 ∨ c = 1 by omega) with rfl | rfl
  · cases stO Y v 0 <;> cases stO Y v 1 <;> decide
  · cases stO Y v 0 <;> cases stO Y v 1 <;> decide
theorem IY.off (h : IY t Y) {v c : Nat} (hc : c < 2) (hr : (Y.2 2).2 v ≠ 0) : stO Y v c = false := stO_f.mpr (fun k j hk hj e => hr (by
  rw [← e]; exact ((h.2.2.1 _ (lix_lt hc hk)).2 j hj).2))
theorem IY.ret0 (h : IY t Y) {v : Nat} (hr : (Y.2 2).2 v ≠ 0) : coF Y v 2 = 0 := by
  rw [coF_2, h.off (c := 0) (by decide) hr, h.off (c := 1) (by decide) hr]; rfl
end
