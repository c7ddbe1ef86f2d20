/-! what is read; a name learnt; a name at the end of a list; a namesake -/
section
variable {t : Nat} {X : XS} {Y : ST} {S sp bf sv iz rr pd : Nat → Nat} {ln sts td ac : Nat}
theorem xr_ok (hP : RP X.2.1.1 pd ln) (rr : Nat → Nat) : ((xRs X).1 = none ∧ RT (xRs X).2 (mFq pd ln rr).2.1 (mFq pd ln rr).2.2.1 pd ∧ 1 ≤ (mFq pd ln rr).2.1 ∧ (mFq pd ln rr).2.1 ≤ 27 ∧ mFo (mFq pd ln rr) = -1) ∨ ((xRs X).1 = some (mFq pd ln rr).1 ∧ mFo (mFq pd ln rr) = nI (mFq pd ln rr).1 ∧ (mFq pd ln rr).1 ≤ 80) := by
  have h1 := rd_ok (tt := X.2.1.2.2) (rr := rr) hP
  have h2 := mFq_ok (pd := pd) (rr := rr) hP.2.1
  have h80 := hP.2.1
  cases e : (mFq pd ln rr).2.2.2 with
  | true =>
    obtain ⟨a, b⟩ := h1.1 e
    refine Or.inl ⟨a, b, h2.2.2.2 e, ?_, ?_⟩
    · have := h2.1; have := h2.2.1; omega
    · unfold mFo; rw [e, if_pos rfl]
  | false =>
    refine Or.inr ⟨h1.2 e, ?_, ?_⟩
    · unfold mFo; rw [e, if_neg Bool.false_ne_true]
    · have := h2.1; omega
theorem tz_fault (h : RX t X (S, sp, bf, sv, iz, rr, pd, ln, sts, td, ac)) : RA (t + 1) (cFault X) (mxFault S sp bf sv iz rr pd ln sts td ac) := by
  have hP : RP X.2.1.1 pd ln := h.2.1
  have e : oI (-6) (xRs X).1 = if mFo (mFq pd ln rr) < 0 then -6 else mFo (mFq pd ln rr) := by
    rcases xr_ok hP rr with ⟨a, -, -, -, b⟩ | ⟨a, b, c⟩
    · rw [a, b]; decide
    · rw [a, b, if_neg (nI_pos (by omega))]; rfl
  unfold cFault mxFault
  rw [e]
  exact h.pad hP
theorem q_mt (h : RS Y S) {κ w n : Nat} (hk : kIs κ (rr (2 * w + 1)) (fun j => pd (rr (2 * w) + j))) (hn : n < S 4) : mtB S rr pd w n = ((Y.2 1).2 n == κ) := by
  rw [Bool.eq_iff_iff]
  unfold mtB
  rw [Bool.and_eq_true, beq_iff_eq, beq_iff_eq, Bool.not_eq_true', aN_f]
  rw [kEq (h.is hn) hk]
  constructor
  · rintro ⟨a, b⟩
    exact ⟨a, fun j hj => by have := b j (by omega); simpa using this⟩
  · rintro ⟨a, b⟩
    exact ⟨a, fun j hj => by have := b j (by omega); simpa using this⟩
theorem q_kn (h : RS Y S) {κ w : Nat} (hk : kIs κ (rr (2 * w + 1)) (fun j => pd (rr (2 * w) + j))) : rPl (Y.2 1) κ = mKn S rr pd w := by
  unfold rPl mKn
  rw [h.n4 (by decide) (by decide), fF_cong (q := mtB S rr pd w) (fun j hj => (q_mt h hk hj).symm)]
  refine fFlF fun i j hi hj pi pj => ?_
  rw [q_mt h hk hi, beq_iff_eq] at pi
  rw [q_mt h hk hj, beq_iff_eq] at pj
  exact h.inj hi hj (pi.trans pj.symm)
theorem xOne_iff (hP : RP X.2.1.1 pd ln) (rr : Nat → Nat) : xOne X = true ↔ ¬ 0 ≤ mFo (mFq pd ln rr) ∧ ¬ 1 < (mFq pd ln rr).2.1 := by
  unfold xOne
  rw [Bool.and_eq_true, beq_iff_eq]
  rcases xr_ok hP rr with ⟨a, b, c, -, d⟩ | ⟨a, b, c⟩
  · rw [a, d, b.1]
    constructor
    · rintro ⟨-, q⟩; exact ⟨by decide, by omega⟩
    · rintro ⟨-, q⟩; exact ⟨rfl, by omega⟩
  · rw [a, b]
    constructor
    · rintro ⟨q, -⟩; cases q
    · rintro ⟨q, -⟩
      refine absurd ?_ q
      rw [Int32.le_iff_toInt_le, nI_toInt (by omega)]
      exact Int.natCast_nonneg _
/-- the one name of the pad -/
theorem xOne_t (hP : RP X.2.1.1 pd ln) (h : ¬ 0 ≤ mFo (mFq pd ln rr) ∧ ¬ 1 < (mFq pd ln rr).2.1) : (xRs X).2.1 = 1 ∧ kIs (rA (xRs X).2 0) ((mFq pd ln rr).2.2.1 (2 * 0 + 1)) (fun j => pd ((mFq pd ln rr).2.2.1 (2 * 0) + j)) := by
  rcases xr_ok hP rr with ⟨a, b, c, -, d⟩ | ⟨a, b, c⟩
  · have e1 : (xRs X).2.1 = 1 := by rw [b.1]; omega
    refine ⟨e1, ?_⟩
    rw [rA_in (by omega)]
    exact b.2 0 (by omega)
  · refine absurd ?_ h.1
    rw [b, Int32.le_iff_toInt_le, nI_toInt (by omega)]
    exact Int.natCast_nonneg _
theorem RX.rd {x : Int32} (h : RX t X (S, sp, bf, sv, iz, rr, pd, ln, sts, td, ac)) : RA (t + 1) (x, xTd X) (zFq S sp bf sv iz rr pd ln sts x) := h.pad h.2.1
theorem tz_find (h : RX t X (S, sp, bf, sv, iz, rr, pd, ln, sts, td, ac)) : RA (t + 1) (cFind X) (mxFind S sp bf sv iz rr pd ln sts td ac) := by
  have hP : RP X.2.1.1 pd ln := h.2.1
  have hs : RS X.1 S := h.1.1
  unfold cFind mxFind
  by_cases q : ¬ 0 ≤ mFo (mFq pd ln rr) ∧ ¬ 1 < (mFq pd ln rr).2.1
  · rw [if_pos ((xOne_iff hP rr).mpr q), if_neg q.1, if_neg q.2, q_kn hs (xOne_t hP q).2]
    exact h.rd
  · rw [if_neg (fun z => q ((xOne_iff hP rr).mp z))]
    have : (if 0 ≤ mFo (mFq pd ln rr) then (-3 : Int32) else if 1 < (mFq pd ln rr).2.1 then -3 else oI (-6) (mKn S (mFq pd ln rr).2.2.1 pd 0)) = -3 := by
      by_cases a : 0 ≤ mFo (mFq pd ln rr)
      · rw [if_pos a]
      · rw [if_neg a, if_pos (Classical.byContradiction fun b => q ⟨a, b⟩)]
    rw [this]
    exact h.rd
theorem tz_beg (h : RX t X (S, sp, bf, sv, iz, rr, pd, ln, sts, td, ac)) : RA (t + 1) (cBeg X) (mxBeg S sp bf sv iz rr pd ln sts td ac) := by
  have hP : RP X.2.1.1 pd ln := h.2.1
  have hs : RS X.1 S := h.1.1
  unfold cBeg mxBeg
  by_cases q : ¬ 0 ≤ mFo (mFq pd ln rr) ∧ ¬ 1 < (mFq pd ln rr).2.1
  · have hk := (xOne_t hP q).2
    have e : bgW X.1 (rA (xRs X).2 0) = cN (fun n => mSa S (mFq pd ln rr).2.2.1 pd 0 n == (mFq pd ln rr).2.2.1 1) (S 4) := by
      unfold bgW
      rw [hs.n4 (by decide) (by decide)]
      refine cN_cong fun n hn => ?_
      rw [kS_self hk, kS_is hk (hs.is hn)]
      rfl
    rw [if_pos ((xOne_iff hP rr).mpr q), if_neg q.1, if_neg q.2, e]
    exact h.rd
  · rw [if_neg (fun z => q ((xOne_iff hP rr).mp z))]
    have : (if 0 ≤ mFo (mFq pd ln rr) then (-3 : Int32) else if 1 < (mFq pd ln rr).2.1 then -3 else nI (cN (fun n => mSa S (mFq pd ln rr).2.2.1 pd 0 n == (mFq pd ln rr).2.2.1 1) (S 4))) = -3 := by
      by_cases a : 0 ≤ mFo (mFq pd ln rr)
      · rw [if_pos a]
      · rw [if_neg a, if_pos (Classical.byContradiction fun b => q ⟨a, b⟩)]
    rw [this]
    exact h.rd
/-! a name is learnt -/
def lnS (Y : ST) (κ : Nat) : ST := (Y.1, va_up (va_up (va_up (va_up Y.2 1 (rAdd 40 (Y.2 1) κ)) 2 (rAdd 40 (Y.2 2) 0)) 3 (rAdd 40 (Y.2 3) 0)) 4 (rAdd 40 (Y.2 4) 0))
theorem lrn_ln {κ : Nat} (h : rPl (Y.2 1) κ = none) : lrn Y κ = lnS Y κ := (lrn_n h).1
theorem ln_n {κ k : Nat} (h1 : k ≠ 1) (h2 : k ≠ 2) (h3 : k ≠ 3) (h4 : k ≠ 4) : (lnS Y κ).2 k = Y.2 k := by
  show va_up (va_up (va_up (va_up Y.2 1 (rAdd 40 (Y.2 1) κ)) 2 (rAdd 40 (Y.2 2) 0)) 3 (rAdd 40 (Y.2 3) 0)) 4 (rAdd 40 (Y.2 4) 0) k = _
  rw [vuN h4, vuN h3, vuN h2, vuN h1]
theorem ln_1 {κ : Nat} : (lnS Y κ).2 1 = rAdd 40 (Y.2 1) κ := by
  show va_up (va_up (va_up (va_up Y.2 1 (rAdd 40 (Y.2 1) κ)) 2 (rAdd 40 (Y.2 2) 0)) 3 (rAdd 40 (Y.2 3) 0)) 4 (rAdd 40 (Y.2 4) 0) 1 = _
  rw [vuN (by omega), vuN (by omega), vuN (by omega), vuS]
theorem ln_2 {κ : Nat} : (lnS Y κ).2 2 = rAdd 40 (Y.2 2) 0 := by
  show va_up (va_up (va_up (va_up Y.2 1 (rAdd 40 (Y.2 1) κ)) 2 (rAdd 40 (Y.2 2) 0)) 3 (rAdd 40 (Y.2 3) 0)) 4 (rAdd 40 (Y.2 4) 0) 2 = _
  rw [vuN (by omega), vuN (by omega), vuS]
theorem ln_3 {κ : Nat} : (lnS Y κ).2 3 = rAdd 40 (Y.2 3) 0 := by
  show va_up (va_up (va_up (va_up Y.2 1 (rAdd 40 (Y.2 1) κ)) 2 (rAdd 40 (Y.2 2) 0)) 3 (rAdd 40 (Y.2 3) 0)) 4 (rAdd 40 (Y.2 4) 0) 3 = _
  rw [vuN (by omega), vuS]
theorem ln_4 {κ : Nat} : (lnS Y κ).2 4 = rAdd 40 (Y.2 4) 0 := by
  show va_up (va_up (va_up (va_up Y.2 1 (rAdd 40 (Y.2 1) κ)) 2 (rAdd 40 (Y.2 2) 0)) 3 (rAdd 40 (Y.2 3) 0)) 4 (rAdd 40 (Y.2 4) 0) 4 = _
  rw [vuS]
theorem RS.learn {κ w : Nat} (h : RS Y S) (hk : kIs κ (rr (2 * w + 1)) (fun j => pd (rr (2 * w) + j))) (h40 : mKn S rr pd w = none → S 4 < 40) : RS (lrn Y κ) (mLS S rr pd w) ∧ lrnN Y κ = zLn S rr pd w := by
  have hkn := q_kn h hk
  cases e : mKn S rr pd w with
  | some v =>
    rw [e] at hkn
    rw [mLS_o (by rw [e]; simp), zLn_s e, (lrn_s hkn).1, (lrn_s hkn).2]
    exact ⟨h, rfl⟩
  | none =>
    rw [e] at hkn
    have h40 := h40 e
    have hr6 := hk.2.1
    rw [mLS_n e, zLn_n e, lrn_ln hkn, (lrn_n hkn).2]
    have n1 := h.n4 (k := 1) (by decide) (by decide)
    have n2 := h.n4 (k := 2) (by decide) (by decide)
    have n3 := h.n4 (k := 3) (by decide) (by decide)
    have n4 := h.n4 (k := 4) (by decide) (by decide)
    obtain ⟨hY, hC, hN, hL, hG, hK, hU⟩ := h
    have h10 := hK.1
    have h16 := hG.1
    refine ⟨⟨hY.cg rfl (lS_lo (by omega) (by omega)), hC.cg ?_ (fun i hi => lS_lo (by omega) (by omega)), ?_, hL.cg (fun a ha => ?_) (by rw [lS_4]; omega) (fun x _ _ => lS_hi (by omega) hr6), hG.cg (fun k _ _ => ?_) (lS_lo (by omega) (by omega)) (by rw [lS_4]; omega) (fun x _ _ => lS_hi (by omega) hr6), hK.cg (fun k _ _ => ?_) (lS_lo (by omega) (by omega)) (by rw [lS_4]; omega) (fun x _ _ => lS_hi (by omega) hr6), ?_, ?_⟩, by rw [rAdd_in (by omega)]; show (Y.2 1).1 + 1 - 1 = _; rw [n1]; rfl⟩
    · exact ln_n (by omega) (by omega) (by omega) (by omega)
    · obtain ⟨c1, c2, c3, c4⟩ := hN
      have d1 : (lnS Y κ).2 1 = (S 4 + 1, va_up (Y.2 1).2 (S 4) κ) := by rw [ln_1, rAdd_in (by omega), n1]
      have d2 : (lnS Y κ).2 2 = (S 4 + 1, va_up (Y.2 2).2 (S 4) 0) := by rw [ln_2, rAdd_in (by omega), n2]
      have d3 : (lnS Y κ).2 3 = (S 4 + 1, va_up (Y.2 3).2 (S 4) 0) := by rw [ln_3, rAdd_in (by omega), n3]
      have d4 : (lnS Y κ).2 4 = (S 4 + 1, va_up (Y.2 4).2 (S 4) 0) := by rw [ln_4, rAdd_in (by omega), n4]
      refine ⟨by rw [lS_4]; omega, fun k k1 k2 => ?_, fun n hn => ?_, fun a b ha hb q => ?_⟩
      · rw [lS_4]
        rcases (show k = 1 ∨ k = 2 ∨ k = 3 ∨ k = 4 by omega) with rfl | rfl | rfl | rfl
        · rw [d1]
        · rw [d2]
        · rw [d3]
        · rw [d4]
      · rw [lS_4] at hn
        rw [d1, d2, d3, d4]
        show kIs (va_up (Y.2 1).2 (S 4) κ n) _ _ ∧ va_up (Y.2 2).2 (S 4) 0 n = _ ∧ va_up (Y.2 3).2 (S 4) 0 n = _ ∧ va_up (Y.2 4).2 (S 4) 0 n = _
        by_cases q : n = S 4
        · subst q
          rw [vuS, vuS, vuS, vuS]
          refine ⟨hk.cg lS_n (fun j hj => lS_c hj), ?_, ?_, ?_⟩
          · exact (lS_z (j := 7) (by omega) (by decide)).symm
          · exact (lS_z (j := 8) (by omega) (by decide)).symm
          · exact (lS_z (j := 9) (by omega) (by decide)).symm
        · obtain ⟨q1, q2, q3, q4⟩ := c3 n (by omega)
          have hl6 := q1.2.1
          rw [vuN q, vuN q, vuN q, vuN q, lS_lo (x := 9 + 10 * n + 7) (by omega) (by omega), lS_lo (x := 9 + 10 * n + 8) (by omega) (by omega), lS_lo (x := 9 + 10 * n + 9) (by omega) (by omega)]
          exact ⟨q1.cg (lS_lo (by omega) (by omega)) (fun j hj => lS_lo (by omega) (by omega)), q2, q3, q4⟩
      · rw [lS_4] at ha hb
        rw [d1] at q
        have q : va_up (Y.2 1).2 (S 4) κ a = va_up (Y.2 1).2 (S 4) κ b := q
        have hno := fF_n hkn
        rw [n1] at hno
        by_cases qa : a = S 4
        · by_cases qb : b = S 4
          · omega
          · rw [qa, vuS, vuN qb] at q
            have := hno b (by omega)
            rw [← q] at this
            simp at this
        · rw [vuN qa] at q
          by_cases qb : b = S 4
          · rw [qb, vuS] at q
            have := hno a (by omega)
            rw [q] at this
            simp at this
          · rw [vuN qb] at q
            exact c4 a b (by omega) (by omega) q
    · exact ln_n (by omega) (by omega) (by omega) (by omega)
    · exact ln_n (by omega) (by omega) (by omega) (by omega)
    · exact ln_n (by omega) (by omega) (by omega) (by omega)
    · rw [lS_lo (by omega) (by omega), lS_4, sN_s, hU.1]
      have hz : lS S rr pd w (9 + 10 * S 4 + 8) = 0 := lS_z (j := 8) (by omega) (by decide)
      rw [hz, Nat.add_zero]
      exact sN_cong fun n hn => (lS_lo (by omega) (by omega)).symm
    · rw [lS_lo (by omega) (by omega), lS_lo (x := 7) (by omega) (by omega), hU.2]
      exact sN_cong fun k hk => (lS_hi (by omega) hr6).symm
theorem bB.learn {w : Nat} (h : bB t S) (h40 : mKn S rr pd w = none → S 4 < 40) (hl6 : rr (2 * w + 1) ≤ 6) (hlet : ∀ j, j < rr (2 * w + 1) → pd (rr (2 * w) + j) ≤ 126) : bB t (mLS S rr pd w) := by
  by_cases e : mKn S rr pd w = none
  · rw [mLS_n e]
    have := h40 e
    intro x hx
    rw [lS_at]
    split
    · omega
    · split
      · have := hlet (x - (9 + 10 * S 4 + 1)) (by omega); omega
      · split
        · omega
        · split
          · omega
          · exact h x hx
  · rw [mLS_o e]; exact h
/-! a name at the end of a list -/
theorem RS.addl {a v : Nat} (h : RS Y S) (ha : a < 6) (hv : v < S 4) (h8 : S (409 + 9 * a) < 8) (hn : ∀ j, j < S (409 + 9 * a) → S (409 + 9 * a + 1 + j) ≠ v) : RS (Y.1, va_up Y.2 (5 + a) (rAdd 8 (Y.2 (5 + a)) v)) (adL S (409 + 9 * a) v) := by
  obtain ⟨hY, hC, hN, hL, hG, hK, hU⟩ := h
  have h40 := hN.1
  have h10 := hK.1
  have h16 := hG.1
  refine ⟨hY.cg rfl (adL_lo (by omega)), hC.cg (vuN (by omega)) (fun i _ => adL_lo (by omega)), hN.cg (fun k _ _ => vuN (by omega)) (adL_lo (by omega)) (fun x _ _ => adL_lo (by omega)), ?_, hG.cg (fun k _ _ => vuN (by omega)) (adL_lo (by omega)) (Nat.le_of_eq (adL_lo (by omega)).symm) (fun x _ _ => adL_hi (by omega)), hK.cg (fun k _ _ => vuN (by omega)) (adL_lo (by omega)) (Nat.le_of_eq (adL_lo (by omega)).symm) (fun x _ _ => adL_hi (by omega)), hU.cg (adL_lo (by omega)) (adL_lo (by omega)) (adL_lo (by omega)) (adL_lo (by omega)) (fun n _ => adL_lo (by omega)) (fun k _ => adL_hi (by omega))⟩
  intro b hb
  have e4 : adL S (409 + 9 * a) v 4 = S 4 := adL_lo (by omega)
  obtain ⟨a1, a2, a3, a4⟩ := hL a ha
  by_cases e : b = a
  · subst e
    rw [adL_q, e4]
    show (va_up Y.2 (5 + b) (rAdd 8 (Y.2 (5 + b)) v) (5 + b)).1 = _ ∧ _ ∧ (∀ j, j < _ → (va_up Y.2 (5 + b) (rAdd 8 (Y.2 (5 + b)) v) (5 + b)).2 j = _ ∧ _) ∧ _
    rw [vuS, rAdd_in (by omega)]
    refine ⟨by show (Y.2 (5 + b)).1 + 1 = _; rw [a1], h8, fun j hj => ?_, fun i j hi hj => ?_⟩
    · show va_up (Y.2 (5 + b)).2 (Y.2 (5 + b)).1 v j = _ ∧ _
      rw [a1]
      by_cases q : j = S (409 + 9 * b)
      · subst q; rw [vuS, adL_v]; exact ⟨rfl, hv⟩
      · rw [vuN q, adL_e (by omega)]; exact a3 j (by omega)
    · by_cases qi : i = S (409 + 9 * b)
      · by_cases qj : j = S (409 + 9 * b)
        · omega
        · subst qi
          rw [adL_v, adL_e (by omega)]
          intro q; exact absurd q.symm (hn j (by omega))
      · rw [adL_e (by omega)]
        by_cases qj : j = S (409 + 9 * b)
        · subst qj
          rw [adL_v]
          intro q; exact absurd q (hn i (by omega))
        · rw [adL_e (by omega)]
          exact a4 i j (by omega) (by omega)
  · obtain ⟨b1, b2, b3, b4⟩ := hL b hb
    have h0 : adL S (409 + 9 * a) v (409 + 9 * b) = S (409 + 9 * b) := by
      rcases Nat.lt_or_ge b a with q | q
      · exact adL_lo (by omega)
      · exact adL_hi (by omega)
    have hj0 : ∀ j, j < S (409 + 9 * b) → adL S (409 + 9 * a) v (409 + 9 * b + 1 + j) = S (409 + 9 * b + 1 + j) := fun j hj => by
      rcases Nat.lt_or_ge b a with q | q
      · exact adL_lo (by omega)
      · exact adL_hi (by omega)
    rw [h0, e4]
    show (va_up Y.2 (5 + a) _ (5 + b)).1 = _ ∧ _ ∧ (∀ j, j < _ → (va_up Y.2 (5 + a) _ (5 + b)).2 j = _ ∧ _) ∧ _
    rw [vuN (by omega)]
    refine ⟨b1, b2, fun j hj => by rw [hj0 j hj]; exact b3 j hj, fun i j hi hj => ?_⟩
    rw [hj0 i hi, hj0 j hj]; exact b4 i j hi hj
theorem bB.addl {q v : Nat} (h : bB t S) (hv : v ≤ 200) (h8 : S q < 8) : bB t (adL S q v) := fun x hx => by
  rw [adL_at]
  split
  · omega
  · split
    · omega
    · exact h x hx
/-! a namesake -/
def akS (S : Nat → Nat) (v : Nat) : Nat → Nat := va_up (va_up (va_up (va_up S (511 + 3 * S 7) v) (511 + 3 * S 7 + 1) 0) (511 + 3 * S 7 + 2) 0) 7 (S 7 + 1)
theorem ak_n {v x : Nat} (h7 : x ≠ 7) (h : x < 511 + 3 * S 7 ∨ 511 + 3 * S 7 + 2 < x) : akS S v x = S x := by
  unfold akS
  rw [vuN h7, vuN (by omega), vuN (by omega), vuN (by omega)]
theorem ak_7 {v : Nat} : akS S v 7 = S 7 + 1 := by unfold akS; rw [vuS]
theorem ak_a {v : Nat} : akS S v (511 + 3 * S 7) = v ∧ akS S v (511 + 3 * S 7 + 1) = 0 ∧ akS S v (511 + 3 * S 7 + 2) = 0 := by
  unfold akS
  refine ⟨?_, ?_, ?_⟩
  · rw [vuN (by omega), vuN (by omega), vuN (by omega), vuS]
  · rw [vuN (by omega), vuN (by omega), vuS]
  · rw [vuN (by omega), vuS]
theorem RS.adk {v : Nat} (h : RS Y S) (hv : v < S 4) (h7 : S 7 < 10) : RS (adK Y v) (akS S v) := by
  have n14 := h.n7 (k := 14) (by decide) (by decide)
  have n15 := h.n7 (k := 15) (by decide) (by decide)
  have n16 := h.n7 (k := 16) (by decide) (by decide)
  obtain ⟨hY, hC, hN, hL, hG, hK, hU⟩ := h
  have h40 := hN.1
  have h16 := hG.1
  have e4 : akS S v 4 = S 4 := ak_n (by omega) (by omega)
  have d14 : (adK Y v).2 14 = (S 7 + 1, va_up (Y.2 14).2 (S 7) v) := by
    show va_up (va_up (va_up Y.2 14 (rAdd 10 (Y.2 14) v)) 15 (rAdd 10 (Y.2 15) 0)) 16 (rAdd 10 (Y.2 16) 0) 14 = _
    rw [vuN (by omega), vuN (by omega), vuS, rAdd_in (by omega), n14]
  have d15 : (adK Y v).2 15 = (S 7 + 1, va_up (Y.2 15).2 (S 7) 0) := by
    show va_up (va_up (va_up Y.2 14 (rAdd 10 (Y.2 14) v)) 15 (rAdd 10 (Y.2 15) 0)) 16 (rAdd 10 (Y.2 16) 0) 15 = _
    rw [vuN (by omega), vuS, rAdd_in (by omega), n15]
  have d16 : (adK Y v).2 16 = (S 7 + 1, va_up (Y.2 16).2 (S 7) 0) := by
    show va_up (va_up (va_up Y.2 14 (rAdd 10 (Y.2 14) v)) 15 (rAdd 10 (Y.2 15) 0)) 16 (rAdd 10 (Y.2 16) 0) 16 = _
    rw [vuS, rAdd_in (by omega), n16]
  have dn : ∀ k, k ≠ 14 → k ≠ 15 → k ≠ 16 → (adK Y v).2 k = Y.2 k := fun k a b d => by
    show va_up (va_up (va_up Y.2 14 (rAdd 10 (Y.2 14) v)) 15 (rAdd 10 (Y.2 15) 0)) 16 (rAdd 10 (Y.2 16) 0) k = _
    rw [vuN d, vuN b, vuN a]
  obtain ⟨za, zb, zc⟩ := ak_a (S := S) (v := v)
  refine ⟨hY.cg rfl (ak_n (by omega) (by omega)), hC.cg (dn 0 (by omega) (by omega) (by omega)) (fun i hi => ak_n (by omega) (by omega)), hN.cg (fun k _ _ => dn k (by omega) (by omega) (by omega)) e4 (fun x _ _ => ak_n (by omega) (by omega)), hL.cg (fun a ha => dn _ (by omega) (by omega) (by omega)) (Nat.le_of_eq e4.symm) (fun x _ _ => ak_n (by omega) (by omega)), hG.cg (fun k _ _ => dn k (by omega) (by omega) (by omega)) (ak_n (by omega) (by omega)) (Nat.le_of_eq e4.symm) (fun x _ _ => ak_n (by omega) (by omega)), ?_, ?_, ?_⟩
  · obtain ⟨g1, g2, g3⟩ := hK
    refine ⟨by rw [ak_7]; exact h7, fun k k1 k2 => ?_, fun n hn => ?_⟩
    · rw [ak_7]
      rcases (show k = 14 ∨ k = 15 ∨ k = 16 by omega) with rfl | rfl | rfl
      · rw [d14]
      · rw [d15]
      · rw [d16]
    · rw [ak_7] at hn
      rw [d14, d15, d16, e4]
      show va_up (Y.2 14).2 (S 7) v n = _ ∧ _ ∧ va_up (Y.2 15).2 (S 7) 0 n = _ ∧ va_up (Y.2 16).2 (S 7) 0 n = _
      by_cases q : n = S 7
      · subst q
        rw [vuS, vuS, vuS, za, zb, zc]
        exact ⟨rfl, hv, rfl, rfl⟩
      · rw [vuN q, vuN q, vuN q, ak_n (x := 511 + 3 * n) (by omega) (by omega), ak_n (x := 511 + 3 * n + 1) (by omega) (by omega), ak_n (x := 511 + 3 * n + 2) (by omega) (by omega)]
        exact g3 n (by omega)
  · rw [ak_n (by omega) (by omega), e4, hU.1]
    exact sN_cong fun n hn => (ak_n (by omega) (by omega)).symm
  · rw [ak_n (by omega) (by omega), ak_7, sN_s, zc, Nat.add_zero, hU.2]
    exact sN_cong fun k hk => (ak_n (by omega) (by omega)).symm
theorem bB.adk {v : Nat} (h : bB t S) (hv : v ≤ 200) (h7 : S 7 < 10) : bB t (akS S v) := fun x hx => by
  obtain ⟨za, zb, zc⟩ := ak_a (S := S) (v := v)
  by_cases e : x = 7
  · subst e; rw [ak_7]; omega
  by_cases e1 : x = 511 + 3 * S 7
  · subst e1; rw [za]; omega
  by_cases e2 : x = 511 + 3 * S 7 + 1
  · subst e2; rw [zb]; omega
  by_cases e3 : x = 511 + 3 * S 7 + 2
  · subst e3; rw [zc]; omega
  rw [ak_n e (by omega)]; exact h x hx
theorem tz_nk (h : RX t X (S, sp, bf, sv, iz, rr, pd, ln, sts, td, ac)) : RA (t + 1) (cNmk X) (mxNk S sp bf sv iz rr pd ln sts td ac) := by
  have hP : RP X.2.1.1 pd ln := h.2.1
  have hs : RS X.1 S := h.1.1
  have hb : bB t S := h.1.2
  unfold cNmk mxNk
  by_cases q : ¬ 0 ≤ mFo (mFq pd ln rr) ∧ ¬ 1 < (mFq pd ln rr).2.1
  · obtain ⟨e1, hk⟩ := xOne_t hP q
    rw [if_pos ((xOne_iff hP rr).mpr q), if_neg q.1, if_neg q.2]
    have hkn := q_kn hs hk
    have h10 := hs.2.2.2.2.2.1.1
    have h40 := hs.le40
    have hw : 40 < knW X.1 (xRs X).2 ↔ mKn S (mFq pd ln rr).2.2.1 pd 0 = none ∧ S 4 = 40 := by
      unfold knW
      rw [e1, hs.n4 (by decide) (by decide)]
      show 40 < S 4 + (0 + (if (!(rPl (X.1.2 1) ((xRs X).2.2 0)).isSome) = true then 1 else 0)) ↔ _
      rw [show (xRs X).2.2 0 = rA (xRs X).2 0 from (rA_in (by omega)).symm, hkn]
      cases e : mKn S (mFq pd ln rr).2.2.1 pd 0 with
      | none => simp; omega
      | some v => simp; omega
    by_cases z : S 7 = 10 ∨ (mKn S (mFq pd ln rr).2.2.1 pd 0 = none ∧ S 4 = 40)
    · rw [if_pos (z.imp (fun a => by rw [hs.n7 (by decide) (by decide)]; omega) hw.mpr), if_pos z]
      exact h.rd
    · have z2 : ¬ (10 ≤ (X.1.2 14).1 ∨ 40 < knW X.1 (xRs X).2) := fun y => z (y.imp (fun a => by rw [hs.n7 (by decide) (by decide)] at a; omega) hw.mp)
      rw [if_neg z2, if_neg z]
      have h40' : mKn S (mFq pd ln rr).2.2.1 pd 0 = none → S 4 < 40 := fun y => by
        have : S 4 ≠ 40 := fun y2 => z (Or.inr ⟨y, y2⟩)
        omega
      obtain ⟨hl, hn⟩ := hs.learn hk h40'
      have hT7 : mLS S (mFq pd ln rr).2.2.1 pd 0 7 = S 7 := by
        by_cases y : mKn S (mFq pd ln rr).2.2.1 pd 0 = none
        · rw [mLS_n y]; exact lS_lo (by omega) (by omega)
        · rw [mLS_o y]
      have h7 : S 7 < 10 := by
        have : S 7 ≠ 10 := fun y => z (Or.inl y)
        omega
      have hE : nkS S (mFq pd ln rr).2.2.1 pd = akS (mLS S (mFq pd ln rr).2.2.1 pd 0) (zLn S (mFq pd ln rr).2.2.1 pd 0) := by
        unfold nkS nkS3 akS
        rw [hT7]
        congr 1
        rw [vuN (by omega), vuN (by omega), vuN (by omega), hT7]
      have hzl := zLn_lt (S := S) (rr := (mFq pd ln rr).2.2.1) (pd := pd) (w := 0)
      have h40T := hl.le40
      have hlet : ∀ j, j < (mFq pd ln rr).2.2.1 (2 * 0 + 1) → pd ((mFq pd ln rr).2.2.1 (2 * 0) + j) ≤ 126 := fun j hj => by
        have := (hk.2.2.2.1 j hj).2.1
        exact Nat.le_trans this (by decide)
      rw [hn, hE]
      refine ⟨?_, h.rec ⟨hl.adk hzl (by omega), ((hb.learn h40' hk.2.1 hlet).adk (by omega) (by omega)).mono (Nat.le_succ t)⟩ (hP.nil _)⟩
      show nI _ = nI _
      rw [ak_7, hT7, rAdd_in (by rw [hl.n7 (by decide) (by decide)]; omega)]
      show nI (((lrn X.1 (rA (xRs X).2 0)).2 14).1 + 1 - 1) = _
      rw [hl.n7 (by decide) (by decide), hT7]
  · rw [if_neg (fun z => q ((xOne_iff hP rr).mp z))]
    by_cases a : 0 ≤ mFo (mFq pd ln rr)
    · rw [if_pos a]; exact h.rd
    · rw [if_neg a, if_pos (Classical.byContradiction fun b => q ⟨a, b⟩)]; exact h.rd
end
