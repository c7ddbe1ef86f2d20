/-! fill on both sides -/
def lq (Y : ST) (T : Rw) : Nat → ST
  | 0 => Y
  | i + 1 => lrn (lq Y T i) (T.2 i)
theorem rAdd_no {cap v : Nat} {R : Rw} (h : cap ≤ R.1) : rAdd cap R v = R := if_neg (by omega)
theorem lrn_full {Y : ST} {κ : Nat} (h : ∀ k, 1 ≤ k → k ≤ 4 → (Y.2 k).1 = 40) : lrn Y κ = Y := by
  cases e : rPl (Y.2 1) κ with
  | some i => exact (lrn_s e).1
  | none =>
    rw [lrn_ln e]
    unfold lnS
    rw [rAdd_no (by rw [h 1 (by decide) (by decide)]; exact Nat.le_refl _), rAdd_no (by rw [h 2 (by decide) (by decide)]; exact Nat.le_refl _), rAdd_no (by rw [h 3 (by decide) (by decide)]; exact Nat.le_refl _), rAdd_no (by rw [h 4 (by decide) (by decide)]; exact Nat.le_refl _)]
    rw [vu_id, vu_id, vu_id, vu_id]
/-- what the learning of i names keeps -/
def PF (Y Z : ST) (T : Rw) (i : Nat) : Prop := Z.1 = Y.1 ∧ (∀ k, (k < 1 ∨ 4 < k) → Z.2 k = Y.2 k) ∧ (∀ k, 1 ≤ k → k ≤ 4 → (Z.2 k).1 = (Z.2 1).1) ∧ (Z.2 1).1 ≤ 40 ∧ (Y.2 1).1 ≤ (Z.2 1).1 ∧ (∀ n, n < (Y.2 1).1 → (Z.2 1).2 n = (Y.2 1).2 n ∧ (Z.2 2).2 n = (Y.2 2).2 n) ∧ ∀ n, (Y.2 1).1 ≤ n → n < (Z.2 1).1 → (Z.2 2).2 n = 0 ∧ ∃ w, w < i ∧ (Z.2 1).2 n = T.2 w
theorem lq_pf {Y : ST} {T : Rw} (h1 : ∀ k, 1 ≤ k → k ≤ 4 → (Y.2 k).1 = (Y.2 1).1) (h2 : (Y.2 1).1 ≤ 40) : ∀ i, PF Y (lq Y T i) T i
  | 0 => ⟨rfl, fun _ _ => rfl, h1, h2, Nat.le_refl _, fun _ _ => ⟨rfl, rfl⟩, fun n a b => by
    have b : n < (Y.2 1).1 := b
    omega⟩
  | i + 1 => by
    obtain ⟨a, b, c, d, e, f, g⟩ := lq_pf (T := T) h1 h2 i
    have weak : lq Y T (i + 1) = lq Y T i → PF Y (lq Y T (i + 1)) T (i + 1) := fun q => by
      rw [q]
      exact ⟨a, b, c, d, e, f, fun n n1 n2 => ⟨(g n n1 n2).1, by obtain ⟨w, w1, w2⟩ := (g n n1 n2).2; exact ⟨w, by omega, w2⟩⟩⟩
    cases hr : rPl ((lq Y T i).2 1) (T.2 i) with
    | some m => exact weak (lrn_s hr).1
    | none =>
      by_cases hf : ((lq Y T i).2 1).1 = 40
      · exact weak (lrn_full fun k k1 k2 => by rw [c k k1 k2]; exact hf)
      · have hE : lq Y T (i + 1) = lnS (lq Y T i) (T.2 i) := lrn_ln hr
        have c2 := c 2 (by decide) (by decide)
        have c3 := c 3 (by decide) (by decide)
        have c4 := c 4 (by decide) (by decide)
        have r1 : (lq Y T (i + 1)).2 1 = (((lq Y T i).2 1).1 + 1, va_up ((lq Y T i).2 1).2 ((lq Y T i).2 1).1 (T.2 i)) := by rw [hE, ln_1, rAdd_in (by omega)]
        have r2 : (lq Y T (i + 1)).2 2 = (((lq Y T i).2 1).1 + 1, va_up ((lq Y T i).2 2).2 ((lq Y T i).2 1).1 0) := by rw [hE, ln_2, rAdd_in (by omega), c2]
        have r3 : ((lq Y T (i + 1)).2 3).1 = ((lq Y T i).2 1).1 + 1 := by rw [hE, ln_3, rAdd_in (by omega)]; show ((lq Y T i).2 3).1 + 1 = _; rw [c3]
        have r4 : ((lq Y T (i + 1)).2 4).1 = ((lq Y T i).2 1).1 + 1 := by rw [hE, ln_4, rAdd_in (by omega)]; show ((lq Y T i).2 4).1 + 1 = _; rw [c4]
        refine ⟨by rw [hE]; exact a, fun k hk => by rw [hE, ln_n (by omega) (by omega) (by omega) (by omega)]; exact b k hk, fun k k1 k2 => ?_, by rw [r1]; show ((lq Y T i).2 1).1 + 1 ≤ 40; omega, by rw [r1]; show (Y.2 1).1 ≤ ((lq Y T i).2 1).1 + 1; omega, fun n hn => ?_, fun n n1 n2 => ?_⟩
        · rcases (show k = 1 ∨ k = 2 ∨ k = 3 ∨ k = 4 by omega) with rfl | rfl | rfl | rfl
          · rfl
          · rw [r1, r2]
          · rw [r1, r3]
          · rw [r1, r4]
        · rw [r1, r2]
          show va_up ((lq Y T i).2 1).2 ((lq Y T i).2 1).1 (T.2 i) n = _ ∧ va_up ((lq Y T i).2 2).2 ((lq Y T i).2 1).1 0 n = _
          rw [vuN (by omega), vuN (by omega)]
          exact f n hn
        · rw [r1] at n2
          have n2 : n < ((lq Y T i).2 1).1 + 1 := n2
          rw [r1, r2]
          show va_up ((lq Y T i).2 2).2 ((lq Y T i).2 1).1 0 n = _ ∧ ∃ w, w < i + 1 ∧ va_up ((lq Y T i).2 1).2 ((lq Y T i).2 1).1 (T.2 i) n = _
          by_cases q : n = ((lq Y T i).2 1).1
          · rw [q, vuS, vuS]; exact ⟨rfl, i, Nat.lt_succ_self i, rfl⟩
          · rw [vuN q, vuN q]
            obtain ⟨g1, w, w1, w2⟩ := g n n1 (by omega)
            exact ⟨g1, w, by omega, w2⟩
/-- a known name keeps its number -/
theorem pf_kn {Y Z : ST} {T : Rw} {i κ m : Nat} (h : PF Y Z T i) (e : rPl (Y.2 1) κ = some m) : rPl (Z.2 1) κ = some m := by
  obtain ⟨a, b, c⟩ := fF_s e
  have h5 := h.2.2.2.2.1
  refine fF_some (by omega) ?_ fun j hj => ?_
  · rw [(h.2.2.2.2.2.1 m a).1]; exact b
  · rw [(h.2.2.2.2.2.1 j (by omega)).1]; exact c j hj
theorem pf_new {Y Z : ST} {T : Rw} {i κ m : Nat} (h : PF Y Z T i) (e : rPl (Y.2 1) κ = none) (e2 : rPl (Z.2 1) κ = some m) : (Y.2 1).1 ≤ m ∧ ∃ w, w < i ∧ κ = T.2 w := by
  obtain ⟨a, b, c⟩ := fF_s e2
  rw [beq_iff_eq] at b
  have hm : (Y.2 1).1 ≤ m := by
    rcases Nat.lt_or_ge m (Y.2 1).1 with q | q
    · have := fF_n e m q
      rw [← (h.2.2.2.2.2.1 m q).1, b] at this
      simp at this
    · exact q
  obtain ⟨-, w, w1, w2⟩ := h.2.2.2.2.2.2 m hm a
  exact ⟨hm, w, w1, by rw [← b, w2]⟩
/-- later names change nothing of the earlier -/
theorem lq_ext {Y : ST} {T : Rw} (h1 : ∀ k, 1 ≤ k → k ≤ 4 → (Y.2 k).1 = (Y.2 1).1) (h2 : (Y.2 1).1 ≤ 40) {i κ m : Nat} (e : rPl ((lq Y T i).2 1) κ = some m) : ∀ d, rPl ((lq Y T (i + d)).2 1) κ = some m
  | 0 => e
  | d + 1 => by
    have ih := lq_ext h1 h2 e d
    have hp := lq_pf (T := T) h1 h2 (i + d)
    have hq : PF (lq Y T (i + d)) (lq (lq Y T (i + d)) ((0, fun _ => T.2 (i + d)) : Rw) 1) (0, fun _ => T.2 (i + d)) 1 := lq_pf hp.2.2.1 hp.2.2.2.1 1
    exact pf_kn hq ih
section
variable {t : Nat} {X : XS} {Y : ST} {S sp bf sv iz rr pd : Nat → Nat} {ln sts td ac : Nat} {T : Rw} {c k : Nat}
theorem cmA_old (hR : rOk rr pd td) : ∀ i, i ≤ td → S 4 ≤ (cmA S rr pd td c k i).1 4 ∧ ∀ x, x ≠ 4 → x < 9 + 10 * S 4 → (cmA S rr pd td c k i).1 x = S x
  | 0, _ => ⟨Nat.le_refl _, fun _ _ _ => rfl⟩
  | i + 1, hi => by
    obtain ⟨h0, h1⟩ := cmA_old hR i (by omega)
    cases e : (cmA S rr pd td c k i).2.1 with
    | true => rw [cmA_e e]; exact ⟨h0, h1⟩
    | false =>
      by_cases hn : mKn (cmA S rr pd td c k i).1 rr pd i = none ∧ (cmA S rr pd td c k i).1 4 = 40
      · rw [cmA_k e hn.1 hn.2]; exact ⟨h0, h1⟩
      · rw [cmA_l e hn]
        by_cases q : mKn (cmA S rr pd td c k i).1 rr pd i = none
        · show S 4 ≤ mLS (cmA S rr pd td c k i).1 rr pd i 4 ∧ ∀ x, x ≠ 4 → x < 9 + 10 * S 4 → mLS (cmA S rr pd td c k i).1 rr pd i x = S x
          rw [mLS_n q]
          exact ⟨by rw [lS_4]; omega, fun x h4 hx => by rw [lS_lo (by omega) h4]; exact h1 x h4 hx⟩
        · show S 4 ≤ mLS (cmA S rr pd td c k i).1 rr pd i 4 ∧ ∀ x, x ≠ 4 → x < 9 + 10 * S 4 → mLS (cmA S rr pd td c k i).1 rr pd i x = S x
          rw [mLS_o q]
          exact ⟨h0, h1⟩
theorem mBd_c {Z : Nat → Nat} {w : Nat} (hS : RS Y S) (hc : c < 2) (hk : k < 3) (h : ∀ x, x ≠ 4 → (x < 9 + 10 * S 4 ∨ 409 ≤ x) → Z x = S x) : mBd Z rr pd td w c k = mBd S rr pd td w c k := by
  unfold mBd
  have e2 : Z 2 = S 2 := h 2 (by decide) (Or.inl (by omega))
  have hq : Z (409 + 27 * c + 9 * k) = S (409 + 27 * c + 9 * k) := h _ (by omega) (Or.inr (by omega))
  rw [hq]
  congr 1
  · refine aN_cong fun v _ => ?_
    unfold mB1
    rw [e2]
  · refine aN_cong fun j hj => ?_
    have hl := h (409 + 27 * c + 9 * k + 1 + j) (by omega) (Or.inr (by omega))
    have hn := (hS.le hc hk hj).2
    have hL6 := (hS.is hn).2.1
    rw [hl]
    unfold mB2 mSa
    rw [e2, h (9 + 10 * S (409 + 27 * c + 9 * k + 1 + j)) (by omega) (Or.inl (by omega))]
    rw [pfx_cong (q := fun j_1 => decide (j_1 < rr (2 * w + 1)) && decide (j_1 < S (9 + 10 * S (409 + 27 * c + 9 * k + 1 + j))) && pd (rr (2 * w) + j_1) == S (9 + 10 * S (409 + 27 * c + 9 * k + 1 + j) + 1 + j_1)) (fun i hi => by rw [h (9 + 10 * S (409 + 27 * c + 9 * k + 1 + j) + 1 + i) (by omega) (Or.inl (by omega))])]
def qBad (Y : ST) (S rr pd : Nat → Nat) (T : Rw) (td c k w : Nat) : Bool := tkn Y (T.2 w) c || mBd S rr pd td w c k
def unk (Y : ST) (T : Rw) (w : Nat) : Bool := !(rPl (Y.2 1) (T.2 w)).isSome
theorem mSp_eq (hT : RT T td rr pd) {w v : Nat} (hw : w < td) (hv : v < td) : mSp rr pd w v = kS (T.2 w) (T.2 v) := (kS_is (hT.2 w hw) (hT.2 v hv)).symm
theorem mSa_eq (hT : RT T td rr pd) (hS : RS Y S) {w n : Nat} (hw : w < td) (hn : n < S 4) : mSa S rr pd w n = kS (T.2 w) ((Y.2 1).2 n) := (kS_is (hT.2 w hw) (hS.is hn)).symm
/-- names of the pad that are not bad are not told twice -/
theorem bd_ne (hT : RT T td rr pd) {w v : Nat} (hw : w < td) (hv : v < td) (hn : v ≠ w) (h : mBd S rr pd td w c k = false) : T.2 w ≠ T.2 v := by
  intro e
  have h1 := (Bool.or_eq_false_iff.mp h).1
  have h2 := aN_f.mp h1 v hv
  unfold mB1 at h2
  rw [mSp_eq hT hw hv] at h2
  have h3 := (kEqS (hT.2 w hw) (hT.2 v hv)).mp e
  rw [show (v != w) = true by simp [hn]] at h2
  simp [h3.1] at h2
  exact h2.1 (by rw [← h3.1, h3.2])
theorem sz_all (h : RS Y S) : (∀ k, 1 ≤ k → k ≤ 4 → (Y.2 k).1 = (Y.2 1).1) ∧ (Y.2 1).1 ≤ 40 ∧ (Y.2 1).1 = S 4 := ⟨fun k k1 k2 => by rw [h.n4 k1 k2, h.n4 (by decide) (by decide)], by rw [h.n4 (by decide) (by decide)]; exact h.le40, h.n4 (by decide) (by decide)⟩
theorem stO_row {Z : ST} {v : Nat} (h : ∀ j, 4 < j → Z.2 j = Y.2 j) : stO Z v c = stO Y v c := by
  unfold stO
  exact aN_cong fun j _ => by rw [show Lst Z c j = Lst Y c j from h _ (by omega)]
/-- what the trial of i names finds -/
def FA (t : Nat) (Y : ST) (S rr pd : Nat → Nat) (T : Rw) (td c k i : Nat) : Prop := (cmA S rr pd td c k i).2.1 = aN (qBad Y S rr pd T td c k) i ∧ ((cmA S rr pd td c k i).2.1 = false → RS (lq Y T i) (cmA S rr pd td c k i).1 ∧ (cmA S rr pd td c k i).2.2 = decide (40 < S 4 + cN (unk Y T) i) ∧ (cmA S rr pd td c k i).1 4 = min 40 (S 4 + cN (unk Y T) i) ∧ bB t (cmA S rr pd td c k i).1)
theorem fa_ok (hS : RS Y S) (hb : bB t S) (hM : mOk S) (hR : rOk rr pd td) (hT : RT T td rr pd) (hc : c < 2) (hk : k < 3) : ∀ i, i ≤ td → FA t Y S rr pd T td c k i
  | 0, _ => ⟨rfl, fun _ => ⟨hS, (decide_eq_false (by have := hS.le40; show ¬ 40 < S 4 + 0; omega)).symm, (by have := hS.le40; show S 4 = min 40 (S 4 + 0); omega), hb⟩⟩
  | i + 1, hi => by
    obtain ⟨f1, f2⟩ := fa_ok hS hb hM hR hT hc hk i (by omega)
    unfold FA
    rw [aN_s, ← f1]
    cases he : (cmA S rr pd td c k i).2.1 with
    | true =>
      rw [cmA_e he, he]
      exact ⟨rfl, fun q => by cases q⟩
    | false =>
      obtain ⟨g1, g2, g3, g4⟩ := f2 he
      obtain ⟨s1, s2, s3⟩ := sz_all hS
      have hP := lq_pf (T := T) s1 s2 i
      have hP1 := lq_pf (T := T) s1 s2 (i + 1)
      have hkI := hT.2 i (by omega)
      have hkn := q_kn g1 hkI
      have hA := cmA_ok (c := c) (k := k) hM hR i (by omega)
      have hO := cmA_old (S := S) (c := c) (k := k) hR i (by omega)
      have h40 := hS.le40
      have hsame : ∀ x, x ≠ 4 → (x < 9 + 10 * S 4 ∨ 409 ≤ x) → (cmA S rr pd td c k i).1 x = S x := fun x h4 hx => by
        rcases hx with d | d
        · exact hO.2 x h4 d
        · exact hA.2.1 x (Or.inr d) h4
      have hrow : ∀ {j : Nat}, 4 < j → (lq Y T (i + 1)).2 j = Y.2 j := fun q => hP1.2.1 _ (Or.inr q)
      rw [Bool.false_or]
      by_cases hn : mKn (cmA S rr pd td c k i).1 rr pd i = none ∧ (cmA S rr pd td c k i).1 4 = 40
      · rw [cmA_k he hn.1 hn.2]
        have hnone : rPl ((lq Y T i).2 1) (T.2 i) = none := by rw [hkn]; exact hn.1
        have hY0 : rPl (Y.2 1) (T.2 i) = none := by
          cases e : rPl (Y.2 1) (T.2 i) with
          | none => rfl
          | some m => rw [pf_kn hP e] at hnone; cases hnone
        have hu : unk Y T i = true := by unfold unk; rw [hY0]; rfl
        refine ⟨?_, fun _ => ⟨?_, ?_, ?_, g4⟩⟩
        · show mBd (cmA S rr pd td c k i).1 rr pd td i c k = qBad Y S rr pd T td c k i
          unfold qBad
          rw [tkn_n hY0, Bool.false_or, mBd_c hS hc hk hsame]
        · show RS (lrn (lq Y T i) (T.2 i)) _
          rw [lrn_full fun j k1 k2 => by rw [g1.n4 k1 k2]; exact hn.2]
          exact g1
        · show true = _
          rw [cN_s, hu, if_pos rfl]
          rw [hn.2] at g3
          exact (decide_eq_true (by omega)).symm
        · show (cmA S rr pd td c k i).1 4 = _
          rw [cN_s, hu, if_pos rfl, hn.2]
          rw [hn.2] at g3
          omega
      · rw [cmA_l he hn]
        have h40' : mKn (cmA S rr pd td c k i).1 rr pd i = none → (cmA S rr pd td c k i).1 4 < 40 := fun q => by
          have : (cmA S rr pd td c k i).1 4 ≠ 40 := fun z => hn ⟨q, z⟩
          have := g1.le40
          omega
        obtain ⟨l1, l2⟩ := g1.learn hkI h40'
        have l1 : RS (lq Y T (i + 1)) (mLS (cmA S rr pd td c k i).1 rr pd i) := l1
        have hzl := zLn_lt (S := (cmA S rr pd td c k i).1) (rr := rr) (pd := pd) (w := i)
        have hsame2 : ∀ x, x ≠ 4 → (x < 9 + 10 * S 4 ∨ 409 ≤ x) → mLS (cmA S rr pd td c k i).1 rr pd i x = S x := fun x h4 hx => by
          by_cases q : mKn (cmA S rr pd td c k i).1 rr pd i = none
          · rw [mLS_n q]
            have := h40' q
            rcases hx with d | d
            · rw [lS_lo (by have := hO.1; omega) h4]; exact hsame x h4 (Or.inl d)
            · rw [lS_hi (by omega) (hR.l (by omega))]; exact hsame x h4 (Or.inr d)
          · rw [mLS_o q]; exact hsame x h4 hx
        have hret : mLS (cmA S rr pd td c k i).1 rr pd i (9 + 10 * zLn (cmA S rr pd td c k i).1 rr pd i + 7) = ((lq Y T (i + 1)).2 2).2 (zLn (cmA S rr pd td c k i).1 rr pd i) := ((l1.2.2.1.2.2.1 _ hzl).2.1).symm
        have hon : mOn (mLS (cmA S rr pd td c k i).1 rr pd i) (zLn (cmA S rr pd td c k i).1 rr pd i) c = stO Y (zLn (cmA S rr pd td c k i).1 rr pd i) c := by
          rw [← q_on l1 hc]
          exact stO_row fun j hj => hrow hj
        have hbad : (mLS (cmA S rr pd td c k i).1 rr pd i (9 + 10 * zLn (cmA S rr pd td c k i).1 rr pd i + 7) == 1 || mOn (mLS (cmA S rr pd td c k i).1 rr pd i) (zLn (cmA S rr pd td c k i).1 rr pd i) c || mBd (mLS (cmA S rr pd td c k i).1 rr pd i) rr pd td i c k) = qBad Y S rr pd T td c k i := by
          unfold qBad
          rw [mBd_c hS hc hk hsame2, hret, hon]
          congr 1
          cases e : rPl (Y.2 1) (T.2 i) with
          | some m =>
            have hm := (fF_s e).1
            have e1 := pf_kn hP e
            have ez : zLn (cmA S rr pd td c k i).1 rr pd i = m := by rw [zLn_s (v := m) (by rw [← hkn]; exact e1)]
            rw [tkn_s e, ez, (hP1.2.2.2.2.2.1 m hm).2, rA_in (by rw [hS.n4 (by decide) (by decide)]; omega)]
          | none =>
            rw [tkn_n e]
            have hge : (Y.2 1).1 ≤ zLn (cmA S rr pd td c k i).1 rr pd i := by
              cases e1 : rPl ((lq Y T i).2 1) (T.2 i) with
              | some m =>
                rw [zLn_s (v := m) (by rw [← hkn]; exact e1)]
                exact (pf_new hP e e1).1
              | none =>
                rw [zLn_n (by rw [← hkn]; exact e1)]
                rw [s3]; exact hO.1
            have h0 := (hP1.2.2.2.2.2.2 _ hge (by rw [l1.n4 (by decide) (by decide)]; exact hzl)).1
            rw [h0]
            have hst : stO Y (zLn (cmA S rr pd td c k i).1 rr pd i) c = false := by
              rw [q_on hS hc]
              unfold mOn mLs
              have hno : ∀ kk, kk < 3 → aN (fun j => S (409 + 27 * c + 9 * kk + 1 + j) == zLn (cmA S rr pd td c k i).1 rr pd i) (S (409 + 27 * c + 9 * kk)) = false := fun kk hkk => aN_f.mpr fun j hj => by
                have := (hS.le hc hkk hj).2
                simp; omega
              rw [hno 0 (by decide), hno 1 (by decide), hno 2 (by decide)]; rfl
            rw [hst]; rfl
        refine ⟨hbad, fun hfalse => ?_⟩
        have hfalse := hbad.symm.trans hfalse
        have hmb : mBd S rr pd td i c k = false := (Bool.or_eq_false_iff.mp hfalse).2
        refine ⟨l1, ?_, ?_, g4.learn h40' (hR.l (by omega)) fun j hj => by
          have := (hkI.2.2.2.1 j hj).2.1
          exact Nat.le_trans this (by decide)⟩
        · show (cmA S rr pd td c k i).2.2 = _
          rw [g2, cN_s]
          cases hu : unk Y T i with
          | false => rw [if_neg Bool.false_ne_true]; rfl
          | true =>
            have hnn : mKn (cmA S rr pd td c k i).1 rr pd i = none := by
              rw [← hkn]
              cases e1 : rPl ((lq Y T i).2 1) (T.2 i) with
              | none => rfl
              | some m =>
                exfalso
                have e0 : rPl (Y.2 1) (T.2 i) = none := by
                  unfold unk at hu
                  cases e : rPl (Y.2 1) (T.2 i) with
                  | none => rfl
                  | some m => rw [e] at hu; cases hu
                obtain ⟨-, w, w1, w2⟩ := pf_new hP e0 e1
                exact bd_ne hT (by omega) (by omega) (by omega) hmb w2
            have := h40' hnn
            rw [if_pos rfl, decide_eq_false (by omega), decide_eq_false (by omega)]
        · show mLS (cmA S rr pd td c k i).1 rr pd i 4 = _
          rw [cN_s]
          cases hu : unk Y T i with
          | false =>
            have hnn : mKn (cmA S rr pd td c k i).1 rr pd i ≠ none := by
              rw [← hkn]
              unfold unk at hu
              cases e : rPl (Y.2 1) (T.2 i) with
              | none => rw [e] at hu; cases hu
              | some m => rw [pf_kn hP e]; simp
            rw [mLS_o hnn, if_neg Bool.false_ne_true, g3]; rfl
          | true =>
            have hnn : mKn (cmA S rr pd td c k i).1 rr pd i = none := by
              rw [← hkn]
              cases e1 : rPl ((lq Y T i).2 1) (T.2 i) with
              | none => rfl
              | some m =>
                exfalso
                have e0 : rPl (Y.2 1) (T.2 i) = none := by
                  unfold unk at hu
                  cases e : rPl (Y.2 1) (T.2 i) with
                  | none => rfl
                  | some m => rw [e] at hu; cases hu
                obtain ⟨-, w, w1, w2⟩ := pf_new hP e0 e1
                exact bd_ne hT (by omega) (by omega) (by omega) hmb w2
            have := h40' hnn
            rw [mLS_n hnn, lS_4, if_pos rfl]
            omega
end
