/-! a name learnt, a name on a list, a namesake, a list filled -/
section
variable {t : Nat} {Y Z : ST}
theorem va_n {α : Type} {f : Nat → α} {i k : Nat} {v : α} (h : k ≠ i) : va_up f i v k = f k := if_neg h
theorem rPl_s {R : Rw} {v i : Nat} (h : rPl R v = some i) : i < R.1 ∧ R.2 i = v := by
  obtain ⟨a, b, -⟩ := fF_s h
  exact ⟨a, by simpa using b⟩
theorem rPl_n {R : Rw} {v : Nat} (h : rPl R v = none) : ∀ i, i < R.1 → R.2 i ≠ v := fun i hi => by simpa using fF_n h i hi
theorem rPl_of {R : Rw} {v i : Nat} (hi : i < R.1) (hv : R.2 i = v) (hu : ∀ j, j < R.1 → R.2 j = v → j = i) : rPl R v = some i := by
  refine fF_some hi (by simpa using hv) (fun j hj => ?_)
  have : R.2 j ≠ v := fun e => by have := hu j (by omega) e; omega
  simpa using this
theorem jN.at (h : jN Y) {n : Nat} (hn : n < (Y.2 1).1) : rPl (Y.2 1) ((Y.2 1).2 n) = some n :=
  rPl_of hn rfl (fun j hj e => h.2.2.2.1 j n hj hn e)
/-- the state with a name more, at the place n -/
theorem IY.learnN {κ : Nat} (h : IY t Y) (hk : kK κ) (hn : rPl (Y.2 1) κ = none) (h40 : (Y.2 1).1 < 40) : IY t (lrn Y κ) ∧ lrnN Y κ = (Y.2 1).1 ∧ (lrn Y κ).1 = Y.1 ∧ ((lrn Y κ).2 1) = ((Y.2 1).1 + 1, va_up (Y.2 1).2 (Y.2 1).1 κ) ∧ (lrn Y κ).2 2 = ((Y.2 1).1 + 1, va_up (Y.2 2).2 (Y.2 1).1 0) ∧ ∀ k, 5 ≤ k → (lrn Y κ).2 k = Y.2 k := by
  obtain ⟨hC, hN, hL, hU, hG, hK, hB⟩ := h
  obtain ⟨e1, e2⟩ := lrn_n hn
  obtain ⟨a, b, c, d, f⟩ := id hN
  have b2 := b 2 (by decide) (by decide)
  have b3 := b 3 (by decide) (by decide)
  have b4 := b 4 (by decide) (by decide)
  have d1 : (lrn Y κ).2 1 = ((Y.2 1).1 + 1, va_up (Y.2 1).2 (Y.2 1).1 κ) := by
    rw [e1]; show va_up (va_up (va_up (va_up Y.2 1 (rAdd 40 (Y.2 1) κ)) 2 (rAdd 40 (Y.2 2) 0)) 3 (rAdd 40 (Y.2 3) 0)) 4 (rAdd 40 (Y.2 4) 0) 1 = _
    rw [vuN (by omega), vuN (by omega), vuN (by omega), vuS, rAdd_in h40]
  have d2 : (lrn Y κ).2 2 = ((Y.2 1).1 + 1, va_up (Y.2 2).2 (Y.2 1).1 0) := by
    rw [e1]; show va_up (va_up (va_up (va_up Y.2 1 (rAdd 40 (Y.2 1) κ)) 2 (rAdd 40 (Y.2 2) 0)) 3 (rAdd 40 (Y.2 3) 0)) 4 (rAdd 40 (Y.2 4) 0) 2 = _
    rw [vuN (by omega), vuN (by omega), vuS, rAdd_in (by omega), b2]
  have d3 : (lrn Y κ).2 3 = ((Y.2 1).1 + 1, va_up (Y.2 3).2 (Y.2 1).1 0) := by
    rw [e1]; show va_up (va_up (va_up (va_up Y.2 1 (rAdd 40 (Y.2 1) κ)) 2 (rAdd 40 (Y.2 2) 0)) 3 (rAdd 40 (Y.2 3) 0)) 4 (rAdd 40 (Y.2 4) 0) 3 = _
    rw [vuN (by omega), vuS, rAdd_in (by omega), b3]
  have d4 : (lrn Y κ).2 4 = ((Y.2 1).1 + 1, va_up (Y.2 4).2 (Y.2 1).1 0) := by
    rw [e1]; show va_up (va_up (va_up (va_up Y.2 1 (rAdd 40 (Y.2 1) κ)) 2 (rAdd 40 (Y.2 2) 0)) 3 (rAdd 40 (Y.2 3) 0)) 4 (rAdd 40 (Y.2 4) 0) 4 = _
    rw [vuS, rAdd_in (by omega), b4]
  have dn : ∀ k, k ≠ 1 → k ≠ 2 → k ≠ 3 → k ≠ 4 → (lrn Y κ).2 k = Y.2 k := fun k k1 k2 k3 k4 => by
    rw [e1]; show va_up (va_up (va_up (va_up Y.2 1 (rAdd 40 (Y.2 1) κ)) 2 (rAdd 40 (Y.2 2) 0)) 3 (rAdd 40 (Y.2 3) 0)) 4 (rAdd 40 (Y.2 4) 0) k = _
    rw [vuN k4, vuN k3, vuN k2, vuN k1]
  have dy : (lrn Y κ).1 = Y.1 := by rw [e1]
  have h1 : (Y.2 1).1 ≤ ((lrn Y κ).2 1).1 := by rw [d1]; exact Nat.le_succ _
  have h2 : ∀ n, n < (Y.2 1).1 → ((lrn Y κ).2 2).2 n = (Y.2 2).2 n := fun n hn => by
    rw [d2]; show va_up (Y.2 2).2 (Y.2 1).1 0 n = _; rw [vuN (by omega)]
  have hno := rPl_n hn
  refine ⟨⟨hC.cg (dn 0 (by omega) (by omega) (by omega) (by omega)), ?_, hL.cg (fun a _ => dn _ (by omega) (by omega) (by omega) (by omega)) h1 h2, hU.cg (fun a _ => dn _ (by omega) (by omega) (by omega) (by omega)), hG.cg (dn 11 (by omega) (by omega) (by omega) (by omega)) (dn 12 (by omega) (by omega) (by omega) (by omega)) (by rw [dn 13 (by omega) (by omega) (by omega) (by omega)]) h1 h2, hK.cg (dn 14 (by omega) (by omega) (by omega) (by omega)) (by rw [dn 15 (by omega) (by omega) (by omega) (by omega)]) (by rw [dn 16 (by omega) (by omega) (by omega) (by omega)]) h1, hB.up (Nat.le_refl t) (by rw [dy]; exact hB.1) (fun k hk hk1 => ?_)⟩, ?_, dy, d1, d2, fun k hk => dn k (by omega) (by omega) (by omega) (by omega)⟩
  · unfold jN
    rw [d1, d2]
    refine ⟨h40, fun k k1 k2 => ?_, fun n hn => ?_, fun u v hu hv e => ?_, fun n hn => ?_⟩
    · rcases (show k = 1 ∨ k = 2 ∨ k = 3 ∨ k = 4 by omega) with rfl | rfl | rfl | rfl
      · rw [d1]
      · rw [d2]
      · rw [d3]
      · rw [d4]
    · change n < (Y.2 1).1 + 1 at hn
      show kK (va_up (Y.2 1).2 (Y.2 1).1 κ n)
      by_cases q : n = (Y.2 1).1
      · rw [q, vuS]; exact hk
      · rw [vuN q]; exact c n (by omega)
    · change u < (Y.2 1).1 + 1 at hu
      change v < (Y.2 1).1 + 1 at hv
      change va_up (Y.2 1).2 (Y.2 1).1 κ u = va_up (Y.2 1).2 (Y.2 1).1 κ v at e
      by_cases q : u = (Y.2 1).1
      · by_cases q' : v = (Y.2 1).1
        · omega
        · rw [q, vuS, vuN q'] at e
          exact absurd e.symm (hno v (by omega))
      · by_cases q' : v = (Y.2 1).1
        · rw [q', vuS, vuN q] at e
          exact absurd e (hno u (by omega))
        · rw [vuN q, vuN q'] at e
          exact d u v (by omega) (by omega) e
    · change n < (Y.2 1).1 + 1 at hn
      show va_up (Y.2 2).2 (Y.2 1).1 0 n ≤ 1
      by_cases q : n = (Y.2 1).1
      · rw [q, vuS]; exact Nat.zero_le 1
      · rw [vuN q]; exact f n (by omega)
  · by_cases k2 : k = 2
    · subst k2; right; rw [d2, show ((Y.2 1).1 + 1, va_up (Y.2 2).2 (Y.2 1).1 0) = rAdd 40 (Y.2 2) 0 by rw [rAdd_in (by omega), b2]]
      exact rB_add (hB.2 2 (by decide) (by decide)) (by omega)
    · by_cases k3 : k = 3
      · subst k3; right; rw [d3, show ((Y.2 1).1 + 1, va_up (Y.2 3).2 (Y.2 1).1 0) = rAdd 40 (Y.2 3) 0 by rw [rAdd_in (by omega), b3]]
        exact rB_add (hB.2 3 (by decide) (by decide)) (by omega)
      · by_cases k4 : k = 4
        · subst k4; right; rw [d4, show ((Y.2 1).1 + 1, va_up (Y.2 4).2 (Y.2 1).1 0) = rAdd 40 (Y.2 4) 0 by rw [rAdd_in (by omega), b4]]
          exact rB_add (hB.2 4 (by decide) (by decide)) (by omega)
        · left; exact dn k hk1 k2 k3 k4
  · rw [e2, rAdd_in h40]; show (Y.2 1).1 + 1 - 1 = _; omega
/-- a name more on a list -/
theorem IY.addl {a v : Nat} (h : IY t Y) (ha : a < 6) (hv : v < (Y.2 1).1) (h8 : (Y.2 (5 + a)).1 < 8) (hr : (Y.2 2).2 v = 0) (hn : ∀ b, b < 6 → b / 3 = a / 3 → ∀ j, j < (Y.2 (5 + b)).1 → (Y.2 (5 + b)).2 j ≠ v) : IY t (Y.1, va_up Y.2 (5 + a) (rAdd 8 (Y.2 (5 + a)) v)) := by
  obtain ⟨hC, hN, hL, hU, hG, hK, hB⟩ := h
  have n : ∀ k, k ≠ 5 + a → ((Y.1, va_up Y.2 (5 + a) (rAdd 8 (Y.2 (5 + a)) v)) : ST).2 k = Y.2 k := fun k hk => vuN hk
  have da : ((Y.1, va_up Y.2 (5 + a) (rAdd 8 (Y.2 (5 + a)) v)) : ST).2 (5 + a) = ((Y.2 (5 + a)).1 + 1, va_up (Y.2 (5 + a)).2 (Y.2 (5 + a)).1 v) := by
    show va_up Y.2 (5 + a) (rAdd 8 (Y.2 (5 + a)) v) (5 + a) = _
    rw [vuS, rAdd_in h8]
  have key : ∀ b, b < 6 → ∀ j, j < (((Y.1, va_up Y.2 (5 + a) (rAdd 8 (Y.2 (5 + a)) v)) : ST).2 (5 + b)).1 → (j < (Y.2 (5 + b)).1 ∧ (((Y.1, va_up Y.2 (5 + a) (rAdd 8 (Y.2 (5 + a)) v)) : ST).2 (5 + b)).2 j = (Y.2 (5 + b)).2 j) ∨ (b = a ∧ j = (Y.2 (5 + a)).1 ∧ (((Y.1, va_up Y.2 (5 + a) (rAdd 8 (Y.2 (5 + a)) v)) : ST).2 (5 + b)).2 j = v) := by
    intro b hb j hj
    by_cases e : b = a
    · subst e
      rw [da] at hj ⊢
      change j < (Y.2 (5 + b)).1 + 1 at hj
      by_cases q : j = (Y.2 (5 + b)).1
      · right; exact ⟨rfl, q, by show va_up _ _ _ j = v; rw [q, vuS]⟩
      · left; exact ⟨by omega, by show va_up _ _ _ j = _; rw [vuN q]⟩
    · left
      rw [n (5 + b) (by omega)] at hj ⊢
      exact ⟨hj, rfl⟩
  refine ⟨hC.cg (n 0 (by omega)), hN.cg (n 1 (by omega)) (n 2 (by omega)) (by rw [n 3 (by omega)]) (by rw [n 4 (by omega)]), ?_, ?_, hG.cg (n 11 (by omega)) (n 12 (by omega)) (by rw [n 13 (by omega)]) (Nat.le_of_eq (by rw [n 1 (by omega)])) (fun m _ => by rw [n 2 (by omega)]), hK.cg (n 14 (by omega)) (by rw [n 15 (by omega)]) (by rw [n 16 (by omega)]) (Nat.le_of_eq (by rw [n 1 (by omega)])), hB.up (Nat.le_refl t) hB.1 (fun k hk h1 => ?_)⟩
  · intro b hb
    rw [n 1 (by omega), n 2 (by omega)]
    refine ⟨?_, fun j hj => ?_⟩
    · by_cases e : b = a
      · subst e; rw [da]; exact h8
      · rw [n _ (by omega)]; exact (hL b hb).1
    · rcases key b hb j hj with ⟨q1, q2⟩ | ⟨-, -, q2⟩
      · rw [q2]; exact (hL b hb).2 j q1
      · rw [q2]; exact ⟨hv, hr⟩
  · intro b c hb hc hbc i j hi hj e
    rcases key b hb i hi with ⟨q1, q2⟩ | ⟨q1, q2, q3⟩ <;> rcases key c hc j hj with ⟨p1, p2⟩ | ⟨p1, p2, p3⟩
    · rw [q2, p2] at e; exact hU b c hb hc hbc i j q1 p1 e
    · rw [q2, p3] at e; exact absurd e (hn b hb (by rw [hbc, p1]) i q1)
    · rw [q3, p2] at e; exact absurd e.symm (hn c hc (by rw [← hbc, q1]) j p1)
    · exact ⟨by omega, by omega⟩
  · by_cases e : k = 5 + a
    · subst e; right
      show rB (va_up Y.2 (5 + a) (rAdd 8 (Y.2 (5 + a)) v) (5 + a)) _
      rw [vuS]; exact rB_add (hB.2 _ hk h1) (by have := hN.1; omega)
    · left; exact n k e
/-- a namesake -/
theorem IY.adk {v : Nat} (h : IY t Y) (hv : v < (Y.2 1).1) (h10 : (Y.2 14).1 < 10) : IY t (adK Y v) ∧ (adK Y v).2 14 = ((Y.2 14).1 + 1, va_up (Y.2 14).2 (Y.2 14).1 v) ∧ (adK Y v).2 15 = ((Y.2 14).1 + 1, va_up (Y.2 15).2 (Y.2 14).1 0) := by
  obtain ⟨hC, hN, hL, hU, hG, hK, hB⟩ := h
  obtain ⟨a, b, c⟩ := id hK
  have b15 := b 15 (by decide) (by decide)
  have b16 := b 16 (by decide) (by decide)
  have d14 : (adK Y v).2 14 = ((Y.2 14).1 + 1, va_up (Y.2 14).2 (Y.2 14).1 v) := by
    show va_up (va_up (va_up Y.2 14 (rAdd 10 (Y.2 14) v)) 15 (rAdd 10 (Y.2 15) 0)) 16 (rAdd 10 (Y.2 16) 0) 14 = _
    rw [vuN (by omega), vuN (by omega), vuS, rAdd_in h10]
  have d15 : (adK Y v).2 15 = ((Y.2 14).1 + 1, va_up (Y.2 15).2 (Y.2 14).1 0) := by
    show va_up (va_up (va_up Y.2 14 (rAdd 10 (Y.2 14) v)) 15 (rAdd 10 (Y.2 15) 0)) 16 (rAdd 10 (Y.2 16) 0) 15 = _
    rw [vuN (by omega), vuS, rAdd_in (by omega), b15]
  have d16 : (adK Y v).2 16 = ((Y.2 14).1 + 1, va_up (Y.2 16).2 (Y.2 14).1 0) := by
    show va_up (va_up (va_up Y.2 14 (rAdd 10 (Y.2 14) v)) 15 (rAdd 10 (Y.2 15) 0)) 16 (rAdd 10 (Y.2 16) 0) 16 = _
    rw [vuS, rAdd_in (by omega), b16]
  have dn : ∀ k, k ≠ 14 → k ≠ 15 → k ≠ 16 → (adK Y v).2 k = Y.2 k := fun k k1 k2 k3 => by
    show va_up (va_up (va_up Y.2 14 (rAdd 10 (Y.2 14) v)) 15 (rAdd 10 (Y.2 15) 0)) 16 (rAdd 10 (Y.2 16) 0) k = _
    rw [vuN k3, vuN k2, vuN k1]
  have d1 := dn 1 (by omega) (by omega) (by omega)
  have d2 := dn 2 (by omega) (by omega) (by omega)
  refine ⟨⟨hC.cg (dn 0 (by omega) (by omega) (by omega)), hN.cg d1 d2 (by rw [dn 3 (by omega) (by omega) (by omega)]) (by rw [dn 4 (by omega) (by omega) (by omega)]), hL.cg (fun a _ => dn _ (by omega) (by omega) (by omega)) (Nat.le_of_eq (by rw [d1])) (fun m _ => by rw [d2]), hU.cg (fun a _ => dn _ (by omega) (by omega) (by omega)), hG.cg (dn 11 (by omega) (by omega) (by omega)) (dn 12 (by omega) (by omega) (by omega)) (by rw [dn 13 (by omega) (by omega) (by omega)]) (Nat.le_of_eq (by rw [d1])) (fun m _ => by rw [d2]), ?_, hB.up (Nat.le_refl t) hB.1 (fun k hk h1 => ?_)⟩, d14, d15⟩
  · unfold jK
    rw [d14, d1]
    refine ⟨h10, fun k k1 k2 => ?_, fun k hk => ?_⟩
    · rcases (show k = 14 ∨ k = 15 ∨ k = 16 by omega) with rfl | rfl | rfl
      · rw [d14]
      · rw [d15]
      · rw [d16]
    · change k < (Y.2 14).1 + 1 at hk
      show va_up (Y.2 14).2 (Y.2 14).1 v k < _
      by_cases e : k = (Y.2 14).1
      · rw [e, vuS]; exact hv
      · rw [vuN e]; exact c k (by omega)
  · by_cases k1 : k = 14
    · subst k1; right; rw [d14, ← rAdd_in h10]; exact rB_add (hB.2 14 (by decide) (by decide)) (by have := hN.1; omega)
    · by_cases k2 : k = 15
      · subst k2; right; rw [d15, show ((Y.2 14).1 + 1, va_up (Y.2 15).2 (Y.2 14).1 0) = rAdd 10 (Y.2 15) 0 by rw [rAdd_in (by omega), b15]]; exact rB_add (hB.2 15 (by decide) (by decide)) (by omega)
      · by_cases k3 : k = 16
        · subst k3; right; rw [d16, show ((Y.2 14).1 + 1, va_up (Y.2 16).2 (Y.2 14).1 0) = rAdd 10 (Y.2 16) 0 by rw [rAdd_in (by omega), b16]]; exact rB_add (hB.2 16 (by decide) (by decide)) (by omega)
        · left; exact dn k k1 k2 k3
/-- learnt, known or not: the number, and what stays -/
theorem IY.learn {κ : Nat} (h : IY t Y) (hk : kK κ) (h40 : rPl (Y.2 1) κ = none → (Y.2 1).1 < 40) : IY t (lrn Y κ) ∧ lrnN Y κ < ((lrn Y κ).2 1).1 ∧ ((lrn Y κ).2 1).2 (lrnN Y κ) = κ ∧ (∀ k, 5 ≤ k → (lrn Y κ).2 k = Y.2 k) ∧ (Y.2 1).1 ≤ ((lrn Y κ).2 1).1 ∧ ((lrn Y κ).2 1).1 = (Y.2 1).1 + (if (rPl (Y.2 1) κ).isSome then 0 else 1) ∧ (∀ n, n < (Y.2 1).1 → ((lrn Y κ).2 1).2 n = (Y.2 1).2 n ∧ ((lrn Y κ).2 2).2 n = (Y.2 2).2 n) ∧ (rPl (Y.2 1) κ = none → ((lrn Y κ).2 2).2 (lrnN Y κ) = 0 ∧ (Y.2 1).1 ≤ lrnN Y κ) := by
  cases e : rPl (Y.2 1) κ with
  | some i =>
    obtain ⟨e1, e2⟩ := lrn_s e
    obtain ⟨a, b⟩ := rPl_s e
    rw [e1, e2]
    exact ⟨h, a, b, fun _ _ => rfl, Nat.le_refl _, rfl, fun _ _ => ⟨rfl, rfl⟩, fun q => by cases q⟩
  | none =>
    obtain ⟨a, b, c, d1, d2, dn⟩ := h.learnN hk e (h40 e)
    refine ⟨a, by rw [b, d1]; exact Nat.lt_succ_self _, by rw [b, d1]; exact vuS, dn, by rw [d1]; exact Nat.le_succ _, by rw [d1]; rfl, fun n hn => ⟨?_, ?_⟩, fun _ => ⟨?_, by rw [b]; exact Nat.le_refl _⟩⟩
    · rw [d1]; exact vuN (by omega)
    · rw [d2]; exact vuN (by omega)
    · rw [d2, b]; exact vuS
end
