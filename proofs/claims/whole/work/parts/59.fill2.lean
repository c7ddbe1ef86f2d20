/-! fill: the errors agree; the names come to the list -/
section
variable {t : Nat} {X : XS} {Y : ST} {S sp bf sv iz rr pd : Nat → Nat} {ln sts td ac : Nat} {T : Rw} {c k : Nat}
theorem mJ_eq (hS : RS Y S) (hT : RT T td rr pd) (hc : c < 2) (hk : k < 3) : mJ Y T c (5 + lix c k) = !aN (qBad Y S rr pd T td c k) td := by
  unfold mJ
  rw [hT.1]
  congr 1
  have hlik := q_lk hS
  have hll : (Y.2 (5 + lix c k)).1 = S (409 + 27 * c + 9 * k) := hS.ll hc hk
  have hknown : ∀ w n, n < S 4 → T.2 w = (Y.2 1).2 n → rPl (Y.2 1) (T.2 w) = some n := fun w n hn e => by
    refine fF_some (by rw [hS.n4 (by decide) (by decide)]; exact hn) (by rw [e]; simp) fun j hj => ?_
    rw [beq_eq_false_iff_ne]
    intro q
    have := hS.inj (by omega) hn (q.trans e)
    omega
  have honl : ∀ w j, j < S (409 + 27 * c + 9 * k) → T.2 w = (Y.2 1).2 (S (409 + 27 * c + 9 * k + 1 + j)) → tkn Y (T.2 w) c = true := fun w j hj e => by
    have hn := (hS.le hc hk hj).2
    rw [tkn_s (hknown w _ hn e), Bool.or_eq_true]
    right
    unfold stO
    refine aN_t.mpr ⟨k, hk, ?_⟩
    show (rPl (Lst Y c k) _).isSome = true
    rw [q_ls hS hc hk]
    exact aN_t.mpr ⟨j, hj, by simp⟩
  rw [Bool.eq_iff_iff, aN_t, aN_t]
  constructor
  · rintro ⟨w, hw, h⟩
    rw [Bool.or_eq_true, Bool.or_eq_true] at h
    rcases h with (h | h) | h
    · exact ⟨w, hw, by unfold qBad; rw [h]; rfl⟩
    · refine ⟨w, hw, ?_⟩
      unfold qBad mBd
      rw [Bool.or_eq_true, Bool.or_eq_true]
      right; right
      unfold alL at h
      rw [hll] at h
      obtain ⟨j, hj, hp⟩ := aN_t.mp h
      refine aN_t.mpr ⟨j, hj, ?_⟩
      have hle := hS.le hc hk hj
      have e1 : (Y.2 (5 + lix c k)).2 j = S (409 + 27 * c + 9 * k + 1 + j) := hle.1
      rw [e1, hS.key hle.2, hlik] at hp
      unfold kAl at hp
      rw [Bool.and_eq_true, decide_eq_true_eq] at hp
      show mB2 S rr pd w (S (409 + 27 * c + 9 * k + 1 + j)) = true
      unfold mB2
      rw [mSa_eq hT hS hw hle.2, decide_eq_true hp.2, Bool.or_true]
    · unfold mJ1 at h
      obtain ⟨j, hj, hp⟩ := aN_t.mp h
      refine ⟨w, hw, ?_⟩
      unfold qBad mBd
      rw [Bool.or_eq_true, Bool.or_eq_true]
      right; left
      refine aN_t.mpr ⟨j, by omega, ?_⟩
      unfold mB1
      rw [mSp_eq hT hw (by omega), show (j != w) = true by simp; omega, Bool.true_and]
      rw [Bool.or_eq_true, beq_iff_eq] at hp
      rcases hp with hp | hp
      · have := (kEqS (hT.2 w hw) (hT.2 j (by omega))).mp hp
        rw [Bool.or_eq_true, Bool.and_eq_true, beq_iff_eq, beq_iff_eq]
        exact Or.inl this
      · rw [hlik] at hp
        unfold kAl at hp
        rw [Bool.and_eq_true] at hp
        rw [hp.2, Bool.or_true]
  · rintro ⟨w, hw, h⟩
    unfold qBad at h
    rw [Bool.or_eq_true] at h
    rcases h with h | h
    · exact ⟨w, hw, by rw [h]; rfl⟩
    · unfold mBd at h
      rw [Bool.or_eq_true] at h
      rcases h with h | h
      · obtain ⟨v, hv, hp⟩ := aN_t.mp h
        unfold mB1 at hp
        rw [mSp_eq hT hw hv, Bool.and_eq_true, Bool.or_eq_true, Bool.and_eq_true, beq_iff_eq, beq_iff_eq, bne_iff_ne, decide_eq_true_eq] at hp
        have key : ∀ a b, a < td → b < td → b < a → (T.2 a = T.2 b ∨ S 2 ≤ kS (T.2 a) (T.2 b)) → ∃ j, j < td ∧ (tkn Y (T.2 j) c || alL Y (T.2 j) (5 + lix c k) || mJ1 Y T j) = true := fun a b ha hb hab q => by
          refine ⟨a, ha, ?_⟩
          rw [Bool.or_eq_true]
          right
          unfold mJ1
          refine aN_t.mpr ⟨b, hab, ?_⟩
          rw [Bool.or_eq_true, beq_iff_eq]
          by_cases e : T.2 a = T.2 b
          · exact Or.inl e
          · right
            rw [hlik]
            unfold kAl
            rw [Bool.and_eq_true, bne_iff_ne, decide_eq_true_eq]
            exact ⟨e, q.resolve_left e⟩
        have q : T.2 w = T.2 v ∨ S 2 ≤ kS (T.2 w) (T.2 v) := by
          rcases hp.2 with a | a
          · exact Or.inl ((kEqS (hT.2 w hw) (hT.2 v hv)).mpr a)
          · exact Or.inr a
        rcases Nat.lt_or_ge v w with d | d
        · exact key w v hw hv d q
        · exact key v w hv hw (by have := hp.1; omega) (q.imp Eq.symm (fun a => by rw [kS_sy (hT.2 v hv) (hT.2 w hw)]; exact a))
      · obtain ⟨j, hj, hp⟩ := aN_t.mp h
        refine ⟨w, hw, ?_⟩
        have hle := hS.le hc hk hj
        have hp : mB2 S rr pd w (S (409 + 27 * c + 9 * k + 1 + j)) = true := hp
        unfold mB2 at hp
        rw [mSa_eq hT hS hw hle.2, Bool.or_eq_true, Bool.and_eq_true, beq_iff_eq, beq_iff_eq, decide_eq_true_eq] at hp
        by_cases e : T.2 w = (Y.2 1).2 (S (409 + 27 * c + 9 * k + 1 + j))
        · rw [honl w j hj e]; rfl
        · have h2 : S 2 ≤ kS (T.2 w) ((Y.2 1).2 (S (409 + 27 * c + 9 * k + 1 + j))) := by
            rcases hp with a | a
            · exact absurd ((kEqS (hT.2 w hw) (hS.is hle.2)).mpr a) e
            · exact a
          rw [Bool.or_eq_true, Bool.or_eq_true]
          left; right
          unfold alL
          rw [hll]
          refine aN_t.mpr ⟨j, hj, ?_⟩
          have e1 : (Y.2 (5 + lix c k)).2 j = S (409 + 27 * c + 9 * k + 1 + j) := hle.1
          rw [e1, hS.key hle.2, hlik]
          unfold kAl
          rw [Bool.and_eq_true, bne_iff_ne, decide_eq_true_eq]
          exact ⟨e, h2⟩
/-- the list with the first i names -/
def flR (Y : ST) (T : Rw) (a : Nat) : Nat → Rw
  | 0 => Y.2 (5 + a)
  | i + 1 => rAdd 8 (flR Y T a i) (lrnN (lq Y T i) (T.2 i))
theorem lrn_at {Z : ST} {a κ : Nat} {R : Rw} : lrn (Z.1, va_up Z.2 (5 + a) R) κ = ((lrn Z κ).1, va_up (lrn Z κ).2 (5 + a) R) ∧ lrnN (Z.1, va_up Z.2 (5 + a) R) κ = lrnN Z κ := by
  have e1 : ((Z.1, va_up Z.2 (5 + a) R) : ST).2 1 = Z.2 1 := vY (by omega)
  cases e : rPl (Z.2 1) κ with
  | some m =>
    have e2 : rPl (((Z.1, va_up Z.2 (5 + a) R) : ST).2 1) κ = some m := by rw [e1]; exact e
    rw [(lrn_s e).1, (lrn_s e).2, (lrn_s e2).1, (lrn_s e2).2]
    exact ⟨rfl, rfl⟩
  | none =>
    have e2 : rPl (((Z.1, va_up Z.2 (5 + a) R) : ST).2 1) κ = none := by rw [e1]; exact e
    rw [lrn_ln e, (lrn_n e).2, lrn_ln e2, (lrn_n e2).2, e1]
    refine ⟨?_, rfl⟩
    have hr : ∀ j, (lnS (Z.1, va_up Z.2 (5 + a) R) κ).2 j = va_up (lnS Z κ).2 (5 + a) R j := fun j => by
      by_cases q : j = 5 + a
      · rw [q, vuS, ln_n (by omega) (by omega) (by omega) (by omega)]
        show va_up Z.2 (5 + a) R (5 + a) = R
        rw [vuS]
      · rw [vuN q]
        have hz : ∀ i, i ≠ 5 + a → ((Z.1, va_up Z.2 (5 + a) R) : ST).2 i = Z.2 i := fun i hi => vY hi
        by_cases q1 : j = 1
        · rw [q1, ln_1, ln_1, hz 1 (by omega)]
        by_cases q2 : j = 2
        · rw [q2, ln_2, ln_2, hz 2 (by omega)]
        by_cases q3 : j = 3
        · rw [q3, ln_3, ln_3, hz 3 (by omega)]
        by_cases q4 : j = 4
        · rw [q4, ln_4, ln_4, hz 4 (by omega)]
        rw [ln_n q1 q2 q3 q4, ln_n q1 q2 q3 q4, hz j q]
    show lnS (Z.1, va_up Z.2 (5 + a) R) κ = ((lnS Z κ).1, va_up (lnS Z κ).2 (5 + a) R)
    have h1 : (lnS (Z.1, va_up Z.2 (5 + a) R) κ).2 = va_up (lnS Z κ).2 (5 + a) R := funext hr
    rw [← h1]
    rfl
theorem flS_eq {a : Nat} : ∀ i, flS Y T a i = ((lq Y T i).1, va_up (lq Y T i).2 (5 + a) (flR Y T a i))
  | 0 => by
    show Y = (Y.1, va_up Y.2 (5 + a) (Y.2 (5 + a)))
    rw [vu_id]
  | i + 1 => by
    have ih := flS_eq (a := a) i
    have h1 := lrn_at (Z := lq Y T i) (a := a) (κ := T.2 i) (R := flR Y T a i)
    show ((lrn (flS Y T a i) (T.2 i)).1, va_up (lrn (flS Y T a i) (T.2 i)).2 (5 + a) (rAdd 8 ((lrn (flS Y T a i) (T.2 i)).2 (5 + a)) (lrnN (flS Y T a i) (T.2 i)))) = _
    rw [ih, h1.1, h1.2]
    have e5 : (((lrn (lq Y T i) (T.2 i)).1, va_up (lrn (lq Y T i) (T.2 i)).2 (5 + a) (flR Y T a i)) : ST).2 (5 + a) = flR Y T a i := vuS
    rw [e5]
    show ((lrn (lq Y T i) (T.2 i)).1, va_up (va_up (lrn (lq Y T i) (T.2 i)).2 (5 + a) (flR Y T a i)) (5 + a) (rAdd 8 (flR Y T a i) (lrnN (lq Y T i) (T.2 i)))) = ((lrn (lq Y T i) (T.2 i)).1, va_up (lrn (lq Y T i) (T.2 i)).2 (5 + a) (rAdd 8 (flR Y T a i) (lrnN (lq Y T i) (T.2 i))))
    congr 1
    funext j
    by_cases q : j = 5 + a
    · rw [q, vuS, vuS]
    · rw [vuN q, vuN q, vuN q]
theorem fl_go (hS : RS Y S) (hb : bB t S) (hM : mOk S) (hR : rOk rr pd td) (hT : RT T td rr pd) (hc : c < 2) (hk : k < 3) (hno : aN (qBad Y S rr pd T td c k) td = false) (hroom : (cmA S rr pd td c k td).2.2 = false) (h8 : (cmA S rr pd td c k td).1 (409 + 27 * c + 9 * k) + td ≤ 8) :
    ∀ u, u ≤ td → RS ((lq Y T td).1, va_up (lq Y T td).2 (5 + lix c k) (flR Y T (lix c k) u)) (flM (cmA S rr pd td c k td).1 rr pd (409 + 27 * c + 9 * k) u) ∧ bB t (flM (cmA S rr pd td c k td).1 rr pd (409 + 27 * c + 9 * k) u) ∧ ∀ j, j < flM (cmA S rr pd td c k td).1 rr pd (409 + 27 * c + 9 * k) u (409 + 27 * c + 9 * k) → ((lq Y T td).2 1).2 (flM (cmA S rr pd td c k td).1 rr pd (409 + 27 * c + 9 * k) u (409 + 27 * c + 9 * k + 1 + j)) = ((lq Y T td).2 1).2 (S (409 + 27 * c + 9 * k + 1 + j)) ∧ j < S (409 + 27 * c + 9 * k) ∨ ∃ w, w < u ∧ ((lq Y T td).2 1).2 (flM (cmA S rr pd td c k td).1 rr pd (409 + 27 * c + 9 * k) u (409 + 27 * c + 9 * k + 1 + j)) = T.2 w := by
  have F := fa_ok hS hb hM hR hT hc hk td (Nat.le_refl _)
  have he : (cmA S rr pd td c k td).2.1 = false := by rw [F.1]; exact hno
  obtain ⟨g1, -, -, g4⟩ := F.2 he
  obtain ⟨s1, s2, s3⟩ := sz_all hS
  have hPt := lq_pf (T := T) s1 s2 td
  have hA := cmA_ok (c := c) (k := k) hM hR td (Nat.le_refl _)
  have hkn := cmA_kn (c := c) (k := k) (S := S) hR td (Nat.le_refl _) he hroom
  have hqS : (cmA S rr pd td c k td).1 (409 + 27 * c + 9 * k) = S (409 + 27 * c + 9 * k) := hA.2.1 _ (Or.inr (by omega)) (by omega)
  have hla := lix_lt hc hk
  have hrow5 : (lq Y T td).2 (5 + lix c k) = Y.2 (5 + lix c k) := hPt.2.1 _ (Or.inr (by omega))
  intro u
  induction u with
  | zero =>
    intro _
    refine ⟨?_, g4, fun j hj => ?_⟩
    · show RS ((lq Y T td).1, va_up (lq Y T td).2 (5 + lix c k) (Y.2 (5 + lix c k))) (cmA S rr pd td c k td).1
      rw [← hrow5, vu_id]
      exact g1
    · left
      have hj : j < (cmA S rr pd td c k td).1 (409 + 27 * c + 9 * k) := hj
      show ((lq Y T td).2 1).2 ((cmA S rr pd td c k td).1 (409 + 27 * c + 9 * k + 1 + j)) = _ ∧ _
      rw [hA.2.1 _ (Or.inr (by omega)) (by omega)]
      exact ⟨rfl, by omega⟩
  | succ u ih =>
    intro hu
    obtain ⟨i1, i2, i3⟩ := ih (by omega)
    have hfn := flM_ok (c := c) (k := k) hA.1 hR hc hk h8 hkn u (by omega)
    have h4 := hkn u (by omega)
    have hcg := mKn_cg (w := u) hR (by omega) hA.1.n hfn.2.2
    have hq := q_kn g1 (hT.2 u (by omega))
    -- the number of the name
    have hnum : mKn (cmA S rr pd td c k td).1 rr pd u = some (lrnN (lq Y T u) (T.2 u)) := by
      rw [← hq]
      cases e : rPl ((lq Y T u).2 1) (T.2 u) with
      | some m =>
        rw [(lrn_s e).2]
        have := lq_ext (T := T) s1 s2 e (td - u)
        rw [show u + (td - u) = td by omega] at this
        exact this
      | none =>
        have hPu := lq_pf (T := T) s1 s2 u
        have hnf : ((lq Y T u).2 1).1 < 40 := by
          rcases Nat.lt_or_ge ((lq Y T u).2 1).1 40 with d | d
          · exact d
          · exfalso
            have hsame : ∀ d, lq Y T (u + d) = lq Y T u := fun d => by
              induction d with
              | zero => rfl
              | succ d ihd =>
                show lrn (lq Y T (u + d)) _ = _
                rw [ihd]
                exact lrn_full fun j k1 k2 => by rw [hPu.2.2.1 j k1 k2]; have := hPu.2.2.2.1; omega
            have := hsame (td - u)
            rw [show u + (td - u) = td by omega] at this
            rw [← hq, this, e] at h4
            exact h4 rfl
        have e1 : rPl ((lq Y T (u + 1)).2 1) (T.2 u) = some ((lq Y T u).2 1).1 := by
          rw [show lq Y T (u + 1) = lnS (lq Y T u) (T.2 u) from lrn_ln e, ln_1, rAdd_in hnf]
          have hno := fF_n e
          refine fF_some (Nat.lt_succ_self _) ?_ fun j hj => ?_
          · show (va_up ((lq Y T u).2 1).2 ((lq Y T u).2 1).1 (T.2 u) ((lq Y T u).2 1).1 == T.2 u) = true
            rw [vuS]; simp
          · show (va_up ((lq Y T u).2 1).2 ((lq Y T u).2 1).1 (T.2 u) j == T.2 u) = false
            rw [vuN (by omega)]; exact hno j hj
        rw [(lrn_n e).2, rAdd_in hnf]
        have := lq_ext (T := T) s1 s2 e1 (td - (u + 1))
        rw [show u + 1 + (td - (u + 1)) = td by omega] at this
        exact this
    have hlt : lrnN (lq Y T u) (T.2 u) < (cmA S rr pd td c k td).1 4 := mKn_lt hnum
    have hkey : ((lq Y T td).2 1).2 (lrnN (lq Y T u) (T.2 u)) = T.2 u := by
      have h1 := hnum
      rw [← hq] at h1
      simpa using (fF_s h1).2.1
    have hF : flM (cmA S rr pd td c k td).1 rr pd (409 + 27 * c + 9 * k) (u + 1) = adL (flM (cmA S rr pd td c k td).1 rr pd (409 + 27 * c + 9 * k) u) (409 + 27 * c + 9 * k) (lrnN (lq Y T u) (T.2 u)) := by
      show adL _ _ ((mKn (flM (cmA S rr pd td c k td).1 rr pd (409 + 27 * c + 9 * k) u) rr pd u).getD 0) = _
      rw [hcg, hnum]; rfl
    have hsz := hfn.2.1
    have hF4 : flM (cmA S rr pd td c k td).1 rr pd (409 + 27 * c + 9 * k) u 4 = (cmA S rr pd td c k td).1 4 := hfn.2.2 4 (by decide)
    -- the name is none of the list
    have hnew : ∀ j, j < flM (cmA S rr pd td c k td).1 rr pd (409 + 27 * c + 9 * k) u (409 + 27 * c + 9 * k) → flM (cmA S rr pd td c k td).1 rr pd (409 + 27 * c + 9 * k) u (409 + 27 * c + 9 * k + 1 + j) ≠ lrnN (lq Y T u) (T.2 u) := fun j hj e => by
      have hbadu := aN_f.mp hno u (by omega)
      have hb1 := Bool.or_eq_false_iff.mp hbadu
      rcases i3 j hj with ⟨a1, a2⟩ | ⟨w, w1, w2⟩
      · rw [e, hkey] at a1
        have hn := (hS.le hc hk a2).2
        have hn1 := (hPt.2.2.2.2.2.1 (S (409 + 27 * c + 9 * k + 1 + j)) (by rw [s3]; exact hn)).1
        rw [hn1] at a1
        have hkn2 : rPl (Y.2 1) (T.2 u) = some (S (409 + 27 * c + 9 * k + 1 + j)) := by
          refine fF_some (by rw [s3]; exact hn) (by rw [a1]; simp) fun i hi => ?_
          rw [beq_eq_false_iff_ne]
          intro q
          have := hS.inj (by omega) hn (q.trans a1)
          omega
        have htk := hb1.1
        rw [tkn_s hkn2] at htk
        have hst := (Bool.or_eq_false_iff.mp htk).2
        have hst2 : stO Y (S (409 + 27 * c + 9 * k + 1 + j)) c = true := by
          unfold stO
          refine aN_t.mpr ⟨k, hk, ?_⟩
          show (rPl (Lst Y c k) _).isSome = true
          rw [q_ls hS hc hk]
          exact aN_t.mpr ⟨j, a2, by simp⟩
        rw [hst2] at hst; cases hst
      · rw [e, hkey] at w2
        exact bd_ne hT (by omega) (by omega) (by omega) hb1.2 w2
    rw [hF]
    have hqa := qLix c k
    refine ⟨?_, i2.addl (by have := g1.le40; omega) (by omega), fun j hj => ?_⟩
    · have h1 := i1.addl (a := lix c k) (v := lrnN (lq Y T u) (T.2 u)) hla (by rw [hF4]; exact hlt) (by rw [← hqa]; omega) (by rw [← hqa]; exact hnew)
      rw [← hqa] at h1
      have e5 : (((lq Y T td).1, va_up (lq Y T td).2 (5 + lix c k) (flR Y T (lix c k) u)) : ST).2 (5 + lix c k) = flR Y T (lix c k) u := vuS
      rw [e5] at h1
      have e6 : va_up (((lq Y T td).1, va_up (lq Y T td).2 (5 + lix c k) (flR Y T (lix c k) u)) : ST).2 (5 + lix c k) (rAdd 8 (flR Y T (lix c k) u) (lrnN (lq Y T u) (T.2 u))) = va_up (lq Y T td).2 (5 + lix c k) (flR Y T (lix c k) (u + 1)) := by
        funext j
        show va_up (va_up (lq Y T td).2 (5 + lix c k) (flR Y T (lix c k) u)) (5 + lix c k) _ j = _
        by_cases q : j = 5 + lix c k
        · rw [q, vuS, vuS]; rfl
        · rw [vuN q, vuN q, vuN q]
      rw [e6] at h1
      exact h1
    · rw [adL_q] at hj
      by_cases q : j = flM (cmA S rr pd td c k td).1 rr pd (409 + 27 * c + 9 * k) u (409 + 27 * c + 9 * k)
      · right
        refine ⟨u, Nat.lt_succ_self u, ?_⟩
        rw [q, adL_v]; exact hkey
      · rw [adL_e (by omega)]
        rcases i3 j (by omega) with a | ⟨w, w1, w2⟩
        · exact Or.inl a
        · exact Or.inr ⟨w, by omega, w2⟩
theorem tz_fill (h : RX t X (S, sp, bf, sv, iz, rr, pd, ln, sts, td, ac)) (ht : t ≤ 600) (a b : Int32) : RA (t + 1) (cFill X a b) (mxFill S sp bf sv iz rr pd ln sts td ac a b) := by
  have hS : RS X.1 S := h.1.1
  have hb : bB t S := h.1.2
  have hM : mOk S := RB.mOk h.1 (by omega)
  have hP : RP X.2.1.1 pd ln := h.2.1
  unfold cFill mxFill
  rcases inR_or a 2 with e | ⟨i, hi, hi31, rfl⟩
  · rw [show inL a b = false by unfold inL; rw [e]; rfl]; exact h.no
  rcases inR_or b 3 with e | ⟨j, hj, hj31, rfl⟩
  · rw [show inL (nI i) b = false by unfold inL; rw [e, Bool.and_false]]; exact h.no
  rw [inL_nI hi hj, if_pos rfl, if_pos rfl, nI_clamp hi31, nI_clamp hj31]
  unfold cFil mFil
  rcases xr_ok hP rr with ⟨r1, r2, r3, r4, r5⟩ | ⟨r1, r2, r3⟩
  rotate_left
  · rw [r1, r2, if_pos (show (some (mFq pd ln rr).1).isSome = true from rfl), if_neg (nI_pos (by omega))]
    exact h.rd
  rw [r1, r5, if_neg (show ¬ (none : Option Nat).isSome = true by decide), if_pos (show (-1 : Int32) < 0 by decide)]
  have hR := mFq_rOk (rr := rr) hP.2.1 hP.2.2.2
  obtain ⟨s1, s2, s3⟩ := sz_all hS
  have F := fa_ok hS hb hM hR r2 hi hj _ (Nat.le_refl _)
  have hA := cmA_ok (c := i) (k := j) hM hR _ (Nat.le_refl _)
  have hqS : (cmA S (mFq pd ln rr).2.2.1 pd (mFq pd ln rr).2.1 i j (mFq pd ln rr).2.1).1 (409 + 27 * i + 9 * j) = S (409 + 27 * i + 9 * j) := hA.2.1 _ (Or.inr (by omega)) (by omega)
  have hmJ := mJ_eq hS r2 hi hj
  have hback : ∀ x : Int32, RA (t + 1) (x, xTd X) (x, (ovr (ovr S sp 541) (cmA S (mFq pd ln rr).2.2.1 pd (mFq pd ln rr).2.1 i j (mFq pd ln rr).2.1).1 541, ovr S sp 541, bf, sv, iz, (mFq pd ln rr).2.2.1, pd, ln, sts, (mFq pd ln rr).2.1, (mFq pd ln rr).1)) := fun x =>
    ⟨rfl, (RB.mono h.1 (Nat.le_succ t)).cS fun y hy => by show ovr (ovr S sp 541) _ 541 y = S y; rw [ovr_eq hy, ovr_eq hy], hP, h.2.2.1.mono (Nat.le_succ t), h.2.2.2.mono (Nat.le_succ t)⟩
  cases hno : aN (qBad X.1 S (mFq pd ln rr).2.2.1 pd (xRs X).2 (mFq pd ln rr).2.1 i j) (mFq pd ln rr).2.1 with
  | true =>
    have hc5 : cmR S (mFq pd ln rr).2.2.1 pd (mFq pd ln rr).2.1 i j = -5 := by
      unfold cmR
      rw [F.1, hno, if_pos rfl]
    rw [hno] at hmJ
    have hmJ : mJ X.1 (xRs X).2 i (5 + lix i j) = false := hmJ
    rw [if_pos hmJ, hc5, if_pos (show (-5 : Int32) < 0 by decide)]
    exact hback (-5)
  | false =>
    have he : (cmA S (mFq pd ln rr).2.2.1 pd (mFq pd ln rr).2.1 i j (mFq pd ln rr).2.1).2.1 = false := by rw [F.1]; exact hno
    obtain ⟨g1, g2, g3, g4⟩ := F.2 he
    rw [hno] at hmJ
    have hmJ : mJ X.1 (xRs X).2 i (5 + lix i j) = true := hmJ
    rw [if_neg (show ¬ mJ X.1 (xRs X).2 i (5 + lix i j) = false by rw [hmJ]; decide)]
    have hkw : knW X.1 (xRs X).2 = S 4 + cN (unk X.1 (xRs X).2) (mFq pd ln rr).2.1 := by
      unfold knW
      rw [r2.1, s3]
      rfl
    have hL1 : (X.1.2 (5 + lix i j)).1 = S (409 + 27 * i + 9 * j) := hS.ll hi hj
    rw [hkw, hL1, r2.1]
    by_cases z : 8 < S (409 + 27 * i + 9 * j) + (mFq pd ln rr).2.1 ∨ 40 < S 4 + cN (unk X.1 (xRs X).2) (mFq pd ln rr).2.1
    · have hc4 : cmR S (mFq pd ln rr).2.2.1 pd (mFq pd ln rr).2.1 i j = -4 := by
        unfold cmR
        rw [he, if_neg Bool.false_ne_true, if_pos (z.symm.imp (fun q => by rw [g2]; exact decide_eq_true q) (fun q => by rw [hqS]; exact q))]
      rw [if_pos z, hc4, if_pos (show (-4 : Int32) < 0 by decide)]
      exact hback (-4)
    · have hz8 : S (409 + 27 * i + 9 * j) + (mFq pd ln rr).2.1 ≤ 8 := by omega
      have hroom : (cmA S (mFq pd ln rr).2.2.1 pd (mFq pd ln rr).2.1 i j (mFq pd ln rr).2.1).2.2 = false := by rw [g2]; exact decide_eq_false (by omega)
      have hc0 : cmR S (mFq pd ln rr).2.2.1 pd (mFq pd ln rr).2.1 i j = 0 := by
        unfold cmR
        rw [he, if_neg Bool.false_ne_true, if_neg (by rw [hroom, hqS]; exact fun q => q.elim (fun q => by cases q) (fun q => by omega))]
      rw [if_neg z, hc0, if_neg (show ¬ (0 : Int32) < 0 by decide)]
      obtain ⟨k1, k2, -⟩ := fl_go hS hb hM hR r2 hi hj hno hroom (by rw [hqS]; exact hz8) _ (Nat.le_refl _)
      rw [← flS_eq] at k1
      refine ⟨?_, h.rec ⟨k1, k2.mono (Nat.le_succ t)⟩ (hP.nil _)⟩
      show nI _ = nI _
      congr 1
      exact k1.ll hi hj
end
