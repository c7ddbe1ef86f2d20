/-! the year ends on both sides -/
section
variable {t : Nat} {X : XS} {Y : ST} {S sp bf sv iz rr pd : Nat → Nat} {ln sts td ac : Nat}
theorem vu_id {α : Type} {f : Nat → α} {i : Nat} : va_up f i (f i) = f := by
  funext k
  by_cases e : k = i
  · rw [e, vuS]
  · rw [vuN e]
theorem vY {i k y : Nat} {R : Rw} (h : k ≠ i) : ((y, va_up Y.2 i R) : ST).2 k = Y.2 k := if_neg h
theorem owS_n {i k : Nat} (h : k ≠ 15) : (owS Y i).2 k = Y.2 k := if_neg h
theorem owS_15 {i : Nat} : (owS Y i).2 15 = owR Y i := by
  show va_up Y.2 15 (owR Y i) 15 = _
  rw [vuS]
theorem RS.owe {k : Nat} (h : RS Y S) (hk : k < S 7) : RS (Y.1, va_up Y.2 15 (rCh (Y.2 15) k (rA (Y.2 15) k + 1))) (va_up S (511 + 3 * k + 1) (S (511 + 3 * k + 1) + 1)) := by
  have n15 := h.n7 (k := 15) (by decide) (by decide)
  obtain ⟨hY, hC, hN, hL, hG, hK, hU⟩ := h
  have h40 := hN.1
  have h10 := hK.1
  have h16 := hG.1
  rw [rCh_in (by omega), rA_in (by omega)]
  refine ⟨hY.cg rfl (vuN (by omega)), hC.cg (vY (by omega)) (fun i hi => vuN (by omega)), hN.cg (fun j _ _ => vY (by omega)) (vuN (by omega)) (fun x _ _ => vuN (by omega)), hL.cg (fun a ha => vY (by omega)) (Nat.le_of_eq (vuN (by omega)).symm) (fun x _ _ => vuN (by omega)), hG.cg (fun j _ _ => vY (by omega)) (vuN (by omega)) (Nat.le_of_eq (vuN (by omega)).symm) (fun x _ _ => vuN (by omega)), ?_, hU.cg (vuN (by omega)) (vuN (by omega)) (vuN (by omega)) (vuN (by omega)) (fun n hn => vuN (by omega)) (fun j hj => vuN (by omega))⟩
  obtain ⟨g1, g2, g3⟩ := hK
  have e7 : va_up S (511 + 3 * k + 1) (S (511 + 3 * k + 1) + 1) 7 = S 7 := vuN (by omega)
  have e4 : va_up S (511 + 3 * k + 1) (S (511 + 3 * k + 1) + 1) 4 = S 4 := vuN (by omega)
  refine ⟨by rw [e7]; exact g1, fun j k1 k2 => ?_, fun n hn => ?_⟩
  · rw [e7]
    show (va_up Y.2 15 ((Y.2 15).1, va_up (Y.2 15).2 k ((Y.2 15).2 k + 1)) j).1 = _
    by_cases q : j = 15
    · rw [q, vuS]; exact n15
    · rw [vuN q]; exact g2 j k1 k2
  · rw [e7] at hn
    obtain ⟨q1, q2, q3, q4⟩ := g3 n hn
    rw [e4]
    show (va_up Y.2 15 ((Y.2 15).1, va_up (Y.2 15).2 k ((Y.2 15).2 k + 1)) 14).2 n = _ ∧ _ ∧ (va_up Y.2 15 ((Y.2 15).1, va_up (Y.2 15).2 k ((Y.2 15).2 k + 1)) 15).2 n = _ ∧ (va_up Y.2 15 ((Y.2 15).1, va_up (Y.2 15).2 k ((Y.2 15).2 k + 1)) 16).2 n = _
    rw [vuN (i := 15) (k := 14) (by omega), vuS, vuN (i := 15) (k := 16) (by omega), vuN (i := 511 + 3 * k + 1) (k := 511 + 3 * n) (by omega), vuN (i := 511 + 3 * k + 1) (k := 511 + 3 * n + 2) (by omega)]
    refine ⟨q1, q2, ?_, q4⟩
    show va_up (Y.2 15).2 k ((Y.2 15).2 k + 1) n = _
    by_cases e : n = k
    · subst e; rw [vuS, vuS, q3]
    · rw [vuN e, vuN (by omega)]; exact q3
theorem ow_ok (h : RB t Y S) (hM : mOk S) (hB : ∀ k, k < 541 → S k < 2 ^ 25) : ∀ i, i ≤ S 7 → RS (owS Y i) (oweS S i) ∧ ∀ x, x < 541 → oweS S i x ≤ S x + 1
  | 0, _ => by
    rw [owS_0]
    exact ⟨h.1, fun x _ => Nat.le_succ _⟩
  | i + 1, hi => by
    obtain ⟨h1, h2⟩ := ow_ok h hM hB i (by omega)
    obtain ⟨o1, o2, o3, o4⟩ := oweS_ok hM hB i (by omega)
    have hk := h.1.sk (k := i) (by omega)
    have hc : rA (Y.2 0) 1 ≤ hrY Y ((Y.2 14).2 i) ↔ oweS S i 1 ≤ mHm (oweS S i) (oweS S i (511 + 3 * i)) := by
      have e1 : hrY Y ((Y.2 14).2 i) = mHm (oweS S i) (oweS S i (511 + 3 * i)) := by
        rw [← q_hm h1, hrY_eq (Y := Y) (Z := owS Y i) (owS_n (by omega)) (owS_n (by omega)), o4 i, hk.1]
      rw [e1, h.1.set (by decide), o2 1 (by decide)]
    have e7 : oweS S i 7 = S 7 := o2 7 (by decide)
    by_cases q : oweS S i 1 ≤ mHm (oweS S i) (oweS S i (511 + 3 * i))
    · rw [oweS_t q, ← owS_t (hc.mpr q)]
      have e : (owS Y i).2 15 = owR Y i := owS_15
      refine ⟨by rw [← e]; exact h1.owe (by omega), fun x hx => ?_⟩
      by_cases ex : x = 511 + 3 * i + 1
      · subst ex; rw [vuS, o3 _ (by omega)]; omega
      · rw [vuN ex]; exact h2 x hx
    · rw [oweS_f q, ← owS_f (fun z => q (hc.mp z)), vu_id]
      exact ⟨h1, h2⟩
/-- off a list, from behind -/
theorem rtI_no {q v n : Nat} (hn : ∀ j, j < n → S (q + 1 + j) ≠ v) : ∀ u, u ≤ n → rtI S q v n u = S
  | 0, _ => rfl
  | u + 1, hu => by
    have h1 := rtI_no hn u (by omega)
    rw [rtI_f (by rw [h1]; exact hn _ (by omega)), h1]
theorem rtI_at {q v p : Nat} (hp : p < S q) (hv : S (q + 1 + p) = v) (hn : ∀ j, j < S q → S (q + 1 + j) = v → j = p) : ∀ u, u ≤ S q → rtI S q v (S q) u = if u ≤ S q - 1 - p then S else tkF S q p
  | 0, _ => by rw [if_pos (Nat.zero_le _)]; rfl
  | u + 1, hu => by
    have h1 := rtI_at hp hv hn u (by omega)
    rcases Nat.lt_trichotomy u (S q - 1 - p) with c | c | c
    · rw [if_pos (by omega)] at h1
      rw [if_pos (by omega), rtI_f (by rw [h1]; exact fun z => by have := hn _ (by omega) z; omega), h1]
    · rw [if_pos (by omega)] at h1
      have e : S q - 1 - u = p := by omega
      rw [if_neg (by omega), rtI_t (by rw [h1, e]; exact hv), h1, e]
    · rw [if_neg (by omega)] at h1
      rw [if_neg (by omega), rtI_f (by
        rw [h1, tkF_e (by omega), if_neg (by omega)]
        exact fun z => by have := hn _ (by omega) z; omega), h1]
theorem RS.off {a v : Nat} (h : RS Y S) (ha : a < 6) : RS (Y.1, va_up Y.2 (5 + a) (rmv (Y.2 (5 + a)) v)) (rtI S (409 + 9 * a) v (S (409 + 9 * a)) (S (409 + 9 * a))) := by
  obtain ⟨a1, a2, a3, a4⟩ := h.2.2.2.1 a ha
  unfold rmv
  cases e : rPl (Y.2 (5 + a)) v with
  | none =>
    have hn := fF_n e
    rw [rtI_no (fun j hj z => by
      have := hn j (by omega)
      rw [(a3 j hj).1, z] at this
      simp at this) _ (Nat.le_refl _)]
    show RS (Y.1, va_up Y.2 (5 + a) (rDx (Y.2 (5 + a)) (-1))) S
    rw [rDx_m (by decide), vu_id]
    exact h
  | some p =>
    obtain ⟨b1, b2, b3⟩ := fF_s e
    rw [a1] at b1
    have b2 : S (409 + 9 * a + 1 + p) = v := by
      rw [← (a3 p b1).1]; simpa using b2
    rw [rtI_at b1 b2 (fun j hj z => a4 j p hj b1 (by rw [z, b2])) _ (Nat.le_refl _), if_neg (by omega)]
    show RS (Y.1, va_up Y.2 (5 + a) (rDx (Y.2 (5 + a)) (nI p))) _
    rw [rDx_n (by omega)]
    exact h.drop ha b1
theorem RS.flag {v : Nat} (h : RS Y S) (hv : v < S 4) : RS (Y.1, va_up Y.2 2 (rCh (Y.2 2) v 1)) (va_up S (9 + 10 * v + 7) 1) := by
  have n2 := h.n4 (k := 2) (by decide) (by decide)
  obtain ⟨hY, hC, hN, hL, hG, hK, hU⟩ := h
  have h40 := hN.1
  have h10 := hK.1
  have h16 := hG.1
  rw [rCh_in (by omega)]
  refine ⟨hY.cg rfl (vuN (by omega)), hC.cg (vY (by omega)) (fun i hi => vuN (by omega)), ?_, hL.cg (fun a ha => vY (by omega)) (Nat.le_of_eq (vuN (by omega)).symm) (fun x _ _ => vuN (by omega)), hG.cg (fun j _ _ => vY (by omega)) (vuN (by omega)) (Nat.le_of_eq (vuN (by omega)).symm) (fun x _ _ => vuN (by omega)), hK.cg (fun j _ _ => vY (by omega)) (vuN (by omega)) (Nat.le_of_eq (vuN (by omega)).symm) (fun x _ _ => vuN (by omega)), hU.cg (vuN (by omega)) (vuN (by omega)) (vuN (by omega)) (vuN (by omega)) (fun n hn => vuN (by omega)) (fun j hj => vuN (by omega))⟩
  obtain ⟨c1, c2, c3, c4⟩ := hN
  have e4 : va_up S (9 + 10 * v + 7) 1 4 = S 4 := vuN (by omega)
  refine ⟨by rw [e4]; exact c1, fun k k1 k2 => ?_, fun n hn => ?_, fun a b ha hb e => ?_⟩
  · rw [e4]
    show (va_up Y.2 2 ((Y.2 2).1, va_up (Y.2 2).2 v 1) k).1 = _
    by_cases q : k = 2
    · rw [q, vuS]; exact n2
    · rw [vuN q]; exact c2 k k1 k2
  · rw [e4] at hn
    obtain ⟨q1, q2, q3, q4⟩ := c3 n hn
    have hl6 := q1.2.1
    show kIs ((va_up Y.2 2 ((Y.2 2).1, va_up (Y.2 2).2 v 1) 1).2 n) _ _ ∧ (va_up Y.2 2 ((Y.2 2).1, va_up (Y.2 2).2 v 1) 2).2 n = _ ∧ (va_up Y.2 2 ((Y.2 2).1, va_up (Y.2 2).2 v 1) 3).2 n = _ ∧ (va_up Y.2 2 ((Y.2 2).1, va_up (Y.2 2).2 v 1) 4).2 n = _
    rw [vuN (i := 2) (k := 1) (by omega), vuS, vuN (i := 2) (k := 3) (by omega), vuN (i := 2) (k := 4) (by omega), vuN (i := 9 + 10 * v + 7) (k := 9 + 10 * n + 8) (by omega), vuN (i := 9 + 10 * v + 7) (k := 9 + 10 * n + 9) (by omega)]
    refine ⟨q1.cg (vuN (by omega)) (fun j hj => vuN (by omega)), ?_, q3, q4⟩
    show va_up (Y.2 2).2 v 1 n = _
    by_cases e : n = v
    · subst e; rw [vuS, vuS]
    · rw [vuN e, vuN (by omega)]; exact q2
  · rw [e4] at ha hb
    have e : (va_up Y.2 2 ((Y.2 2).1, va_up (Y.2 2).2 v 1) 1).2 a = (va_up Y.2 2 ((Y.2 2).1, va_up (Y.2 2).2 v 1) 1).2 b := e
    rw [vuN (i := 2) (k := 1) (by omega)] at e
    exact c4 a b ha hb e
theorem qDiv (k : Nat) : 409 + 27 * (k / 3) + 9 * (k % 3) = 409 + 9 * k := by omega
theorem rt_ok {v : Nat} (h : RS Y S) (hv : v < S 4) : ∀ q, q ≤ 6 → RS (rtP Y v q) (rtK S v q)
  | 0, _ => by
    rw [rtP_0]
    exact h.flag hv
  | q + 1, hq => by
    have h1 := rt_ok h hv q (by omega)
    have h2 := h1.off (v := v) (a := q) (by omega)
    rw [rtP_at, rtP_s] at h2
    show RS (rtP Y v (q + 1)) (rtI (rtK S v q) (409 + 27 * (q / 3) + 9 * (q % 3)) v (rtK S v q (409 + 27 * (q / 3) + 9 * (q % 3))) (rtK S v q (409 + 27 * (q / 3) + 9 * (q % 3))))
    rw [qDiv]
    exact h2
/-- the numbers are no greater -/
theorem rtI_le {B q v n : Nat} (hq : q + n < 541) (hn : S q ≤ n) (h : ∀ x, x < 541 → S x ≤ B) : ∀ u, (∀ x, x < 541 → rtI S q v n u x ≤ B) ∧ rtI S q v n u q ≤ n
  | 0 => ⟨h, hn⟩
  | u + 1 => by
    obtain ⟨h1, h2⟩ := rtI_le (v := v) hq hn h u
    by_cases e : rtI S q v n u (q + 1 + (n - 1 - u)) = v
    · rw [rtI_t e]
      refine ⟨fun x hx => ?_, by rw [tkF_q]; omega⟩
      rw [tkF_at]
      split
      · have := h1 q (by omega); omega
      · split
        · exact h1 _ (by omega)
        · exact h1 x hx
    · rw [rtI_f e]; exact ⟨h1, h2⟩
theorem rtK_le {B v : Nat} (h : RS Y S) (hv : v < S 4) (h1 : 1 ≤ B) (hB : ∀ x, x < 541 → S x ≤ B) : ∀ q, q ≤ 6 → ∀ x, x < 541 → rtK S v q x ≤ B
  | 0, _ => fun x hx => by
    show va_up S (9 + 10 * v + 7) 1 x ≤ B
    by_cases e : x = 9 + 10 * v + 7
    · rw [e, vuS]; exact h1
    · rw [vuN e]; exact hB x hx
  | q + 1, hq => fun x hx => by
    have h2 := rtK_le h hv h1 hB q (by omega)
    have h3 := (rt_ok h hv q (by omega)).2.2.2.1 q (by omega)
    show rtI (rtK S v q) (409 + 27 * (q / 3) + 9 * (q % 3)) v (rtK S v q (409 + 27 * (q / 3) + 9 * (q % 3))) (rtK S v q (409 + 27 * (q / 3) + 9 * (q % 3))) x ≤ B
    rw [qDiv]
    exact (rtI_le (by have := h3.2.1; omega) (Nat.le_refl _) h2 _).1 x hx
theorem rh_ok {B : Nat} (h : RS Y S) (hM : mOk S) (h1 : 1 ≤ B) (hB : ∀ x, x < 541 → S x ≤ B) : ∀ i, i ≤ S 4 → RS (rhS Y i) (rhM S i).1 ∧ (rhM S i).2 = cN (fun n => decide (rA (Y.2 0) 0 ≤ hrY Y n)) i ∧ ∀ x, x < 541 → (rhM S i).1 x ≤ B
  | 0, _ => ⟨h, rfl, hB⟩
  | i + 1, hi => by
    obtain ⟨a, b, c⟩ := rh_ok h hM h1 hB i (by omega)
    obtain ⟨o1, o2, o3⟩ := rhM_ok hM i (by omega)
    have e0 : (rhM S i).1 0 = S 0 := o3 0 (by decide) (by omega)
    have e4 : (rhM S i).1 4 = S 4 := o3 4 (by decide) (by omega)
    have em : mHm (rhM S i).1 i = hrY Y i := by
      rw [← q_hm a, hrY_eq (rhS_o (by decide) (by decide)) (rhS_o (by decide) (by decide))]
    rw [cN_s, ← b]
    by_cases q : (rhM S i).1 0 ≤ mHm (rhM S i).1 i
    · have q2 : rA (Y.2 0) 0 ≤ hrY Y i := by rw [h.set (by decide), ← em, ← e0]; exact q
      rw [rhM_t q, ← rhS_t q2, decide_eq_true q2, if_pos rfl]
      exact ⟨rt_ok a (by omega) 6 (Nat.le_refl _), rfl, rtK_le a (by omega) h1 c 6 (Nat.le_refl _)⟩
    · have q2 : ¬ rA (Y.2 0) 0 ≤ hrY Y i := by rw [h.set (by decide), ← em, ← e0]; exact q
      rw [rhM_f q, ← rhS_f q2, decide_eq_false q2, if_neg Bool.false_ne_true]
      exact ⟨a, rfl, c⟩
theorem RS.nxt (h : RS Y S) (h3 : S 3 < 999) : RS (nxY Y) (va_up (va_up S 5 0) 3 (va_up S 5 0 3 + 1)) := by
  obtain ⟨hY, hC, hN, hL, hG, hK, hU⟩ := h
  have h40 := hN.1
  have h10 := hK.1
  have tn : ∀ x, x ≠ 5 → x ≠ 3 → va_up (va_up S 5 0) 3 (va_up S 5 0 3 + 1) x = S x := fun x a b => by rw [vuN b, vuN a]
  have t5 : va_up (va_up S 5 0) 3 (va_up S 5 0 3 + 1) 5 = 0 := by rw [vuN (by omega), vuS]
  have t3 : va_up (va_up S 5 0) 3 (va_up S 5 0 3 + 1) 3 = S 3 + 1 := by rw [vuS, vuN (by omega)]
  have dn : ∀ k, k ≠ 11 → k ≠ 12 → k ≠ 13 → (nxY Y).2 k = Y.2 k := fun k a b c => by
    show va_up (va_up (va_up Y.2 11 (0, (Y.2 11).2)) 12 (0, (Y.2 12).2)) 13 (0, (Y.2 13).2) k = _
    rw [vuN c, vuN b, vuN a]
  have d11 : (nxY Y).2 11 = (0, (Y.2 11).2) := by
    show va_up (va_up (va_up Y.2 11 (0, (Y.2 11).2)) 12 (0, (Y.2 12).2)) 13 (0, (Y.2 13).2) 11 = _
    rw [vuN (by omega), vuN (by omega), vuS]
  have d12 : (nxY Y).2 12 = (0, (Y.2 12).2) := by
    show va_up (va_up (va_up Y.2 11 (0, (Y.2 11).2)) 12 (0, (Y.2 12).2)) 13 (0, (Y.2 13).2) 12 = _
    rw [vuN (by omega), vuS]
  have d13 : (nxY Y).2 13 = (0, (Y.2 13).2) := by
    show va_up (va_up (va_up Y.2 11 (0, (Y.2 11).2)) 12 (0, (Y.2 12).2)) 13 (0, (Y.2 13).2) 13 = _
    rw [vuS]
  refine ⟨⟨by show Y.1 + 1 = _; rw [t3, hY.1], by rw [t3]; omega⟩, hC.cg (dn 0 (by omega) (by omega) (by omega)) (fun i hi => tn _ (by omega) (by omega)), hN.cg (fun j _ _ => dn j (by omega) (by omega) (by omega)) (tn _ (by omega) (by omega)) (fun x _ _ => tn _ (by omega) (by omega)), hL.cg (fun a ha => dn _ (by omega) (by omega) (by omega)) (Nat.le_of_eq (tn _ (by omega) (by omega)).symm) (fun x _ _ => tn _ (by omega) (by omega)), ⟨by rw [t5]; exact Nat.zero_le _, fun k k1 k2 => ?_, fun g hg => ?_, fun g k hg => ?_⟩, hK.cg (fun j _ _ => dn j (by omega) (by omega) (by omega)) (tn _ (by omega) (by omega)) (Nat.le_of_eq (tn _ (by omega) (by omega)).symm) (fun x _ _ => tn _ (by omega) (by omega)), hU.cg (tn _ (by omega) (by omega)) (tn _ (by omega) (by omega)) (tn _ (by omega) (by omega)) (tn _ (by omega) (by omega)) (fun n hn => tn _ (by omega) (by omega)) (fun k hk => tn _ (by omega) (by omega))⟩
  · rw [t5]
    rcases (show k = 11 ∨ k = 12 ∨ k = 13 by omega) with rfl | rfl | rfl
    · rw [d11]
    · rw [d12]
    · rw [d13]
  · rw [t5] at hg; exact absurd hg (Nat.not_lt_zero g)
  · rw [t5] at hg; exact absurd hg (Nat.not_lt_zero g)
theorem tz_end (h : RX t X (S, sp, bf, sv, iz, rr, pd, ln, sts, td, ac)) (ht : t ≤ 600) : RA (t + 1) (cEnd X) (mxEnd S sp bf sv iz rr pd ln sts td ac) := by
  have h1 : RB t X.1 S := h.1
  have hs := h1.1
  have hM : mOk S := h1.mOk (by omega)
  have hB := h1.hB (by omega)
  unfold cEnd mxEnd
  rw [show X.1.1 = S 3 from hs.1.1]
  have h999 := hs.1.2
  by_cases q : S 3 = 999
  · rw [if_neg (by omega), if_pos q]; exact h.no
  · rw [if_pos (by omega), if_neg q]
    obtain ⟨o1, o2⟩ := ow_ok h1 hM hB (S 7) (Nat.le_refl _)
    obtain ⟨w1, w2, w3, w4⟩ := oweS_ok hM hB (S 7) (Nat.le_refl _)
    have e4 : oweS S (S 7) 4 = S 4 := w2 4 (by decide)
    obtain ⟨r1, r2, r3⟩ := rh_ok (B := 200 + 50 * t + 1) o1 w1 (by omega) (fun x hx => by have := o2 x hx; have := h1.2 x hx; omega) (S 4) (by omega)
    obtain ⟨-, -, v3⟩ := rhM_ok w1 (S 4) (by omega)
    have e3 : (rhM (oweS S (S 7)) (S 4)).1 3 = S 3 := (v3 3 (by decide) (by omega)).trans (w2 3 (by decide))
    have n14 := hs.n7 (k := 14) (by decide) (by decide)
    have n1 : ((owS X.1 (S 7)).2 1).1 = S 4 := by rw [o1.n4 (by decide) (by decide), e4]
    have ey : eyS X.1 = nxY (rhS (owS X.1 (S 7)) (S 4)) := by unfold eyS; rw [n14, n1]
    refine h.yes ?_ ⟨?_, fun x hx => ?_⟩
    · rw [n14, r2]
      unfold hdB
      rw [n1]
    · rw [ey]
      exact r1.nxt (by omega)
    · show va_up (va_up (rhM (oweS S (S 7)) (S 4)).1 5 0) 3 (va_up (rhM (oweS S (S 7)) (S 4)).1 5 0 3 + 1) x ≤ _
      have hx1 := r3 x hx
      by_cases e5 : x = 3
      · subst e5; rw [vuS, vuN (by omega), e3]
        have := h1.2 3 (by decide)
        omega
      · rw [vuN e5]
        by_cases e6 : x = 5
        · rw [e6, vuS]; omega
        · rw [vuN e6]; omega
end
