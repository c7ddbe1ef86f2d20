/-! the pad is read alike -/
def RT (T : Rw) (td : Nat) (rr pd : Nat → Nat) : Prop := T.1 = td ∧ ∀ w, w < td → kIs (T.2 w) (rr (2 * w + 1)) (fun j => pd (rr (2 * w) + j))
theorem kW_dig {κ a j v : Nat} (hj : j < 6) (hk : κ = 2 ^ (5 * (6 - j)) * a) (hv : v < 32) : kW κ j v = 2 ^ (5 * (6 - (j + 1))) * (32 * a + v) ∧ (∀ i, i < j → kL (kW κ j v) i = kL κ i) ∧ kL (kW κ j v) j = v := by
  have e0 : kW κ j v = κ + v * 2 ^ (5 * (5 - j)) := by
    unfold kW
    rw [hk]
    refine (Nat.two_pow_add_eq_or_of_lt ?_ a).symm
    rw [show 5 * (6 - j) = 5 + 5 * (5 - j) by omega, Nat.pow_add]
    exact Nat.mul_lt_mul_of_pos_right hv (Nat.two_pow_pos _)
  rw [e0, hk]
  unfold kL
  match j, hj with
  | 0, _ => exact ⟨by simp only [show 5 * (6 - 0) = 30 from rfl, show 5 * (5 - 0) = 25 from rfl, show 5 * (6 - (0 + 1)) = 25 from rfl]; omega, fun i hi => absurd hi (Nat.not_lt_zero i), by simp only [show 5 * (6 - 0) = 30 from rfl, show 5 * (5 - 0) = 25 from rfl]; omega⟩
  | 1, _ =>
    refine ⟨by simp only [show 5 * (6 - 1) = 25 from rfl, show 5 * (5 - 1) = 20 from rfl, show 5 * (6 - (1 + 1)) = 20 from rfl]; omega, fun i hi => ?_, by simp only [show 5 * (6 - 1) = 25 from rfl, show 5 * (5 - 1) = 20 from rfl]; omega⟩
    have : i = 0 := by omega
    subst this
    simp only [show 5 * (6 - 1) = 25 from rfl, show 5 * (5 - 1) = 20 from rfl, show 5 * (5 - 0) = 25 from rfl]; omega
  | 2, _ =>
    refine ⟨by simp only [show 5 * (6 - 2) = 20 from rfl, show 5 * (5 - 2) = 15 from rfl, show 5 * (6 - (2 + 1)) = 15 from rfl]; omega, fun i hi => ?_, by simp only [show 5 * (6 - 2) = 20 from rfl, show 5 * (5 - 2) = 15 from rfl]; omega⟩
    rcases (show i = 0 ∨ i = 1 by omega) with rfl | rfl
    · simp only [show 5 * (6 - 2) = 20 from rfl, show 5 * (5 - 2) = 15 from rfl, show 5 * (5 - 0) = 25 from rfl]; omega
    · simp only [show 5 * (6 - 2) = 20 from rfl, show 5 * (5 - 2) = 15 from rfl, show 5 * (5 - 1) = 20 from rfl]; omega
  | 3, _ =>
    refine ⟨by simp only [show 5 * (6 - 3) = 15 from rfl, show 5 * (5 - 3) = 10 from rfl, show 5 * (6 - (3 + 1)) = 10 from rfl]; omega, fun i hi => ?_, by simp only [show 5 * (6 - 3) = 15 from rfl, show 5 * (5 - 3) = 10 from rfl]; omega⟩
    rcases (show i = 0 ∨ i = 1 ∨ i = 2 by omega) with rfl | rfl | rfl
    · simp only [show 5 * (6 - 3) = 15 from rfl, show 5 * (5 - 3) = 10 from rfl, show 5 * (5 - 0) = 25 from rfl]; omega
    · simp only [show 5 * (6 - 3) = 15 from rfl, show 5 * (5 - 3) = 10 from rfl, show 5 * (5 - 1) = 20 from rfl]; omega
    · simp only [show 5 * (6 - 3) = 15 from rfl, show 5 * (5 - 3) = 10 from rfl, show 5 * (5 - 2) = 15 from rfl]; omega
  | 4, _ =>
    refine ⟨by simp only [show 5 * (6 - 4) = 10 from rfl, show 5 * (5 - 4) = 5 from rfl, show 5 * (6 - (4 + 1)) = 5 from rfl]; omega, fun i hi => ?_, by simp only [show 5 * (6 - 4) = 10 from rfl, show 5 * (5 - 4) = 5 from rfl]; omega⟩
    rcases (show i = 0 ∨ i = 1 ∨ i = 2 ∨ i = 3 by omega) with rfl | rfl | rfl | rfl
    · simp only [show 5 * (6 - 4) = 10 from rfl, show 5 * (5 - 4) = 5 from rfl, show 5 * (5 - 0) = 25 from rfl]; omega
    · simp only [show 5 * (6 - 4) = 10 from rfl, show 5 * (5 - 4) = 5 from rfl, show 5 * (5 - 1) = 20 from rfl]; omega
    · simp only [show 5 * (6 - 4) = 10 from rfl, show 5 * (5 - 4) = 5 from rfl, show 5 * (5 - 2) = 15 from rfl]; omega
    · simp only [show 5 * (6 - 4) = 10 from rfl, show 5 * (5 - 4) = 5 from rfl, show 5 * (5 - 3) = 10 from rfl]; omega
  | 5, _ =>
    refine ⟨by simp only [show 5 * (6 - 5) = 5 from rfl, show 5 * (5 - 5) = 0 from rfl, show 5 * (6 - (5 + 1)) = 0 from rfl]; omega, fun i hi => ?_, by simp only [show 5 * (6 - 5) = 5 from rfl, show 5 * (5 - 5) = 0 from rfl]; omega⟩
    rcases (show i = 0 ∨ i = 1 ∨ i = 2 ∨ i = 3 ∨ i = 4 by omega) with rfl | rfl | rfl | rfl | rfl
    · simp only [show 5 * (6 - 5) = 5 from rfl, show 5 * (5 - 5) = 0 from rfl, show 5 * (5 - 0) = 25 from rfl]; omega
    · simp only [show 5 * (6 - 5) = 5 from rfl, show 5 * (5 - 5) = 0 from rfl, show 5 * (5 - 1) = 20 from rfl]; omega
    · simp only [show 5 * (6 - 5) = 5 from rfl, show 5 * (5 - 5) = 0 from rfl, show 5 * (5 - 2) = 15 from rfl]; omega
    · simp only [show 5 * (6 - 5) = 5 from rfl, show 5 * (5 - 5) = 0 from rfl, show 5 * (5 - 3) = 10 from rfl]; omega
    · simp only [show 5 * (6 - 5) = 5 from rfl, show 5 * (5 - 5) = 0 from rfl, show 5 * (5 - 4) = 5 from rfl]; omega
  | j + 6, hj => omega
theorem kL_zero {κ a j i : Nat} (hk : κ = 2 ^ (5 * (6 - j)) * a) (hi : j ≤ i) (hi6 : i < 6) : kL κ i = 0 := by
  unfold kL
  rw [hk, show 5 * (6 - j) = 5 * (5 - i) + 5 + 5 * (i - j) by omega, Nat.pow_add, Nat.pow_add, Nat.mul_assoc, Nat.mul_assoc, Nat.mul_div_cancel_left _ (Nat.two_pow_pos _)]
  exact Nat.mul_mod_right _ _
/-- the key of the letters from b on -/
def kB (f : Nat → Nat) (b : Nat) : Nat → Nat
  | 0 => 0
  | j + 1 => kW (kB f b j) j (kO (f (b + j)))
theorem kO_let {g : Nat} (h : 97 ≤ g ∧ g ≤ 122) : kO g = g - 96 := if_pos h
theorem kO_not {g : Nat} (h : ¬ (97 ≤ g ∧ g ≤ 122)) : kO g = 0 := if_neg h
theorem kB_ok {f : Nat → Nat} {b : Nat} : ∀ j, j ≤ 6 → (∀ i, i < j → 97 ≤ f (b + i) ∧ f (b + i) ≤ 122) → (∃ a, kB f b j = 2 ^ (5 * (6 - j)) * a) ∧ kB f b j < 2 ^ 30 ∧ ∀ i, i < j → kL (kB f b j) i = f (b + i) - 96
  | 0, _, _ => ⟨⟨0, rfl⟩, by show 0 < _; decide, fun i hi => absurd hi (Nat.not_lt_zero i)⟩
  | j + 1, hj, hl => by
    obtain ⟨⟨a, ha⟩, h1, h2⟩ := kB_ok (f := f) (b := b) j (by omega) fun i hi => hl i (by omega)
    have hlj := hl j (by omega)
    have ho := kO_let hlj
    obtain ⟨d1, d2, d3⟩ := kW_dig (κ := kB f b j) (a := a) (j := j) (v := kO (f (b + j))) (by omega) ha (by omega)
    refine ⟨⟨32 * a + kO (f (b + j)), d1⟩, kW_lt h1 (by omega) (kO_lt _), fun i hi => ?_⟩
    show kL (kW (kB f b j) j (kO (f (b + j)))) i = _
    rcases Nat.lt_or_ge i j with q | q
    · rw [d2 i q]; exact h2 i q
    · have e : i = j := by omega
      rw [e, d3, ho]
theorem kB_is {f : Nat → Nat} {b L : Nat} (h2 : 2 ≤ L) (h6 : L ≤ 6) (hl : ∀ i, i < L → 97 ≤ f (b + i) ∧ f (b + i) ≤ 122) : kIs (kB f b L) L (fun j => f (b + j)) := by
  obtain ⟨⟨a, ha⟩, h1, h3⟩ := kB_ok L h6 hl
  exact ⟨h2, h6, h1, fun j hj => ⟨(hl j hj).1, (hl j hj).2, h3 j hj⟩, fun j hj hj6 => kL_zero ha hj hj6⟩
theorem prd_run {t f : Nat → Nat} {b : Nat} {T : Rw} (h : prd t f b = some (0, 0, T)) : ∀ j, j ≤ 6 → (∀ i, i < j → 97 ≤ f (b + i) ∧ f (b + i) ≤ 122) → prd t f (b + j) = some (kB f b j, j, T)
  | 0, _, _ => h
  | j + 1, hj, hl => by
    have h1 := prd_run h j (by omega) fun i hi => hl i (by omega)
    have hlj := hl j (by omega)
    rw [show b + (j + 1) = b + j + 1 by omega, prd_s h1, pst_l (by rw [kO_let hlj]; omega) (by omega)]
    rfl
theorem prd_le {t f : Nat → Nat} : ∀ {i : Nat} {z : Nat × Nat × Rw}, prd t f i = some z → ∀ j, j ≤ i → (prd t f j).isNone = false
  | 0, z, h, j, hj => by
    have : j = 0 := by omega
    rw [this, h]; rfl
  | i + 1, z, h, j, hj => by
    rcases Nat.lt_or_ge i j with q | q
    · have : j = i + 1 := by omega
      rw [this, h]; rfl
    · cases e : prd t f i with
      | none => rw [prd, e] at h; cases h
      | some y => exact prd_le e j q
def RD (p : Option Nat × Rw) (q : Nat × Nat × (Nat → Nat) × Bool) (pd : Nat → Nat) : Prop := (q.2.2.2 = true → p.1 = none ∧ RT p.2 q.2.1 q.2.2.1 pd) ∧ (q.2.2.2 = false → p.1 = some q.1)
theorem mLt_iff {pd : Nat → Nat} {ln a : Nat} : mLt pd ln a = true ↔ a < ln ∧ 97 ≤ pd a ∧ pd a ≤ 122 := by
  unfold mLt
  simp only [Bool.and_eq_true, decide_eq_true_eq, and_assoc]
theorem pr_run {tt pd : Nat → Nat} {ln : Nat} {P : Rw} (hP : RP P pd ln) : ∀ (u b : Nat) (T : Rw) (t : Nat) (r : Nat → Nat), b ≤ ln → prd tt P.2 b = some (0, 0, T) → RT T t r pd → 3 * t ≤ b → ln - wEnd pd ln b ≤ u → RD (pRs tt P) (fQ pd ln u (wEnd pd ln b) (t + if 1 < wEnd pd ln b - b then 1 else 0) (rUp r t b (wEnd pd ln b)) (decide (1 < wEnd pd ln b - b))) pd := by
  intro u
  induction u with
  | zero => ?_
  | succ u ih => ?_
  all_goals
    intro b T t r hb hp hT h3 hu
    obtain ⟨p1, p2, p3, -⟩ := id hP
    have hge := wEnd_ge pd ln b
    have hle := wEnd_le (pd := pd) hb
    obtain ⟨L, hLe⟩ : ∃ L, wEnd pd ln b = b + L := ⟨wEnd pd ln b - b, by omega⟩
    have hLp : pfx (fun j => mLt pd ln (b + j)) 6 = L := by unfold wEnd at hLe; omega
    have h6 : L ≤ 6 := by rw [← hLp]; exact pfx_le _ _
    have hlet : ∀ i, i < L → b + i < ln ∧ 97 ≤ pd (b + i) ∧ pd (b + i) ≤ 122 := fun i hi => mLt_iff.mp (pfx_t (p := fun j => mLt pd ln (b + j)) (n := 6) (j := i) (by rw [hLp]; exact hi))
    have hletP : ∀ i, i < L → 97 ≤ P.2 (b + i) ∧ P.2 (b + i) ≤ 122 := fun i hi => by
      obtain ⟨a, c⟩ := hlet i hi
      rw [(p3 _ a).1]; exact c
    have hnl : L < 6 → b + L < ln → kO (P.2 (b + L)) = 0 := fun q q2 => by
      have := pfx_f (p := fun j => mLt pd ln (b + j)) (n := 6) (by rw [hLp]; exact q)
      rw [hLp] at this
      refine kO_not fun z => ?_
      rw [(p3 _ q2).1] at z
      have h1 : mLt pd ln (b + L) = true := mLt_iff.mpr ⟨q2, z⟩
      rw [h1] at this; cases this
    have hrun := prd_run hp L h6 hletP
    have hall := prd_le hrun
    rw [hLe] at hu hle ⊢
    have eL : b + L - b = L := by omega
    rw [eL]
    have hstop : b + L < ln → (L < 2 ∨ P.2 (b + L) ≠ 44) → (pRs tt P).1 = some (b + L) := fun q2 q => by
      rw [pRs_f (by rw [p1]; exact q2) hall hrun (pst_n (fun z => by rcases Nat.lt_or_ge L 6 with d | d; exact z.1 (hnl d q2); exact absurd z.2 (by omega)) (fun z => by rcases q with d | d; omega; exact d z.1))]
    by_cases h2 : 1 < L
    · have hkB := kB_is (f := P.2) (b := b) h2 h6 hletP
      have hT' : RT (rAdd 27 T (kB P.2 b L)) (t + 1) (rUp r t b (b + L)) pd := by
        obtain ⟨t1, t2⟩ := hT
        rw [rAdd_in (by omega)]
        refine ⟨by show T.1 + 1 = _; rw [t1], fun w hw => ?_⟩
        show kIs (va_up T.2 T.1 (kB P.2 b L) w) _ _
        rw [t1]
        by_cases e : w = t
        · subst e
          unfold rUp
          rw [vuS, vuS, vuN (by omega), vuS, eL]
          exact hkB.cg rfl fun j hj => ((p3 _ (hlet j hj).1).1).symm
        · unfold rUp
          rw [vuN e, vuN (by omega), vuN (by omega), vuN (by omega), vuN (by omega)]
          exact t2 w (by omega)
      rw [if_pos h2, decide_eq_true h2]
      by_cases hend : b + L < ln
      · first
        | omega
        | skip
          by_cases hc : pd (b + L) = 44
          · rw [fQ_c hend hc]
            refine ih (b + L + 1) _ (t + 1) _ hend ?_ hT' (by omega) ?_
            · rw [prd_s hrun, pst_c (fun z => z.1 (by rw [(p3 _ hend).1, hc]; rfl)) (by rw [(p3 _ hend).1]; exact hc) h2]
            · have := wEnd_ge pd ln (b + L + 1)
              omega
          · rw [fQ_n hend hc]
            exact ⟨fun q => absurd q Bool.false_ne_true, fun _ => hstop hend (Or.inr (by rw [(p3 _ hend).1]; exact hc))⟩
      · rw [fQ_e hend]
        have ee : b + L = ln := by omega
        refine ⟨fun _ => ?_, fun q => absurd q.symm Bool.false_ne_true⟩
        rw [pRs_e (z := (kB P.2 b L, L, T)) (by rw [p1, ← ee]; exact hall) (by rw [p1, ← ee]; exact hrun)]
        rw [if_neg (by show ¬ L < 2; omega)]
        exact ⟨rfl, hT'⟩
    · rw [decide_eq_false h2, fQ_0]
      refine ⟨fun q => absurd q Bool.false_ne_true, fun _ => ?_⟩
      by_cases hend : b + L < ln
      · exact hstop hend (Or.inl (by omega))
      · have ee : b + L = ln := by omega
        rw [pRs_e (z := (kB P.2 b L, L, T)) (by rw [p1, ← ee]; exact hall) (by rw [p1, ← ee]; exact hrun)]
        rw [if_pos (by show L < 2; omega), p1, ee]
theorem rd_ok {tt pd rr : Nat → Nat} {ln : Nat} {P : Rw} (hP : RP P pd ln) : RD (pRs tt P) (mFq pd ln rr) pd := by
  unfold mFq
  refine pr_run hP 82 0 (0, tt) 0 rr (Nat.zero_le _) rfl ⟨rfl, fun w hw => absurd hw (Nat.not_lt_zero w)⟩ (Nat.zero_le _) ?_
  have := hP.2.1
  omega
