/-! harm, letters to namesakes, undo, slots, the pad -/
section
variable {t : Nat} {X : XS} {S sp bf sv iz rr pd : Nat → Nat} {ln sts td ac : Nat}
theorem zHa_eq {g h : Nat} : zHaS S g h = va_up (va_up S (463 + 3 * g + 2) (S (463 + 3 * g + 2) + h)) (9 + 10 * S (463 + 3 * g) + 9) (va_up S (463 + 3 * g + 2) (S (463 + 3 * g + 2) + h) (9 + 10 * S (463 + 3 * g) + 9) + h) := by
  have e : va_up S (463 + 3 * g + 2) (S (463 + 3 * g + 2) + h) (463 + 3 * g) = S (463 + 3 * g) := vuN (by omega)
  show va_up (va_up S (463 + 3 * g + 2) (S (463 + 3 * g + 2) + h)) (9 + 10 * va_up S (463 + 3 * g + 2) (S (463 + 3 * g + 2) + h) (463 + 3 * g) + 9) (va_up S (463 + 3 * g + 2) (S (463 + 3 * g + 2) + h) (9 + 10 * va_up S (463 + 3 * g + 2) (S (463 + 3 * g + 2) + h) (463 + 3 * g) + 9) + h) = _
  rw [e]
theorem zHa_n {g h x : Nat} (h1 : x ≠ 463 + 3 * g + 2) (h2 : x ≠ 9 + 10 * S (463 + 3 * g) + 9) : zHaS S g h x = S x := by
  rw [zHa_eq, vuN h2, vuN h1]
theorem zHa_2 {g h : Nat} (hv : S (463 + 3 * g) < 40) : zHaS S g h (463 + 3 * g + 2) = S (463 + 3 * g + 2) + h := by
  rw [zHa_eq, vuN (by omega), vuS]
theorem zHa_9 {g h : Nat} (hv : S (463 + 3 * g) < 40) : zHaS S g h (9 + 10 * S (463 + 3 * g) + 9) = S (9 + 10 * S (463 + 3 * g) + 9) + h := by
  rw [zHa_eq, vuS, vuN (by omega)]
theorem rCh_in {R : Rw} {i v : Nat} (h : i < R.1) : rCh R i v = (R.1, va_up R.2 i v) := if_pos h
theorem RS.harm {Y : ST} {g b : Nat} (h : RS Y S) (hg : g < S 5) : RS (hmS Y g b) (zHaS S g b) ∧ rA ((hmS Y g b).2 13) g = zHaS S g b (463 + 3 * g + 2) := by
  have n11 := h.n5 (k := 11) (by decide) (by decide)
  have n13 := h.n5 (k := 13) (by decide) (by decide)
  have n4 := h.n4 (k := 4) (by decide) (by decide)
  have hst := h.st hg
  obtain ⟨hY, hC, hN, hL, hG, hK, hU⟩ := h
  have h40 := hN.1
  have h10 := hK.1
  have h16 := hG.1
  have hv40 : S (463 + 3 * g) < 40 := by omega
  have e4 : zHaS S g b 4 = S 4 := zHa_n (by omega) (by omega)
  have e5 : zHaS S g b 5 = S 5 := zHa_n (by omega) (by omega)
  have e7 : zHaS S g b 7 = S 7 := zHa_n (by omega) (by omega)
  have d13 : (hmS Y g b).2 13 = ((Y.2 13).1, va_up (Y.2 13).2 g ((Y.2 13).2 g + b)) := by
    show va_up (va_up Y.2 4 (rCh (Y.2 4) (rA (Y.2 11) g) (rA (Y.2 4) (rA (Y.2 11) g) + b))) 13 (rCh (Y.2 13) g (rA (Y.2 13) g + b)) 13 = _
    rw [vuS, rCh_in (by rw [n13]; exact hg), rA_in (by rw [n13]; exact hg)]
  have d4 : (hmS Y g b).2 4 = ((Y.2 4).1, va_up (Y.2 4).2 (S (463 + 3 * g)) ((Y.2 4).2 (S (463 + 3 * g)) + b)) := by
    show va_up (va_up Y.2 4 (rCh (Y.2 4) (rA (Y.2 11) g) (rA (Y.2 4) (rA (Y.2 11) g) + b))) 13 (rCh (Y.2 13) g (rA (Y.2 13) g + b)) 4 = _
    rw [vuN (by omega), vuS, rA_in (R := Y.2 11) (by rw [n11]; exact hg), hst.1, rCh_in (by rw [n4]; exact hst.2.2.2.1), rA_in (by rw [n4]; exact hst.2.2.2.1)]
  have dn : ∀ k, k ≠ 4 → k ≠ 13 → (hmS Y g b).2 k = Y.2 k := fun k a d => by
    show va_up (va_up Y.2 4 (rCh (Y.2 4) (rA (Y.2 11) g) (rA (Y.2 4) (rA (Y.2 11) g) + b))) 13 (rCh (Y.2 13) g (rA (Y.2 13) g + b)) k = _
    rw [vuN d, vuN a]
  refine ⟨⟨hY.cg rfl (zHa_n (by omega) (by omega)), hC.cg (dn 0 (by omega) (by omega)) (fun i hi => zHa_n (by omega) (by omega)), ?_, hL.cg (fun a ha => dn _ (by omega) (by omega)) (Nat.le_of_eq e4.symm) (fun x _ _ => zHa_n (by omega) (by omega)), ?_, hK.cg (fun k _ _ => dn _ (by omega) (by omega)) e7 (Nat.le_of_eq e4.symm) (fun x _ _ => zHa_n (by omega) (by omega)), hU.cg e4 e7 (zHa_n (by omega) (by omega)) (zHa_n (by omega) (by omega)) (fun n hn => zHa_n (by omega) (by omega)) (fun k hk => zHa_n (by omega) (by omega))⟩, ?_⟩
  · obtain ⟨c1, c2, c3, c4⟩ := hN
    refine ⟨by rw [e4]; exact c1, fun k k1 k2 => ?_, fun n hn => ?_, fun u v hu hv e => ?_⟩
    · rw [e4]
      by_cases q : k = 4
      · subst q; rw [d4]; exact n4
      · rw [dn k q (by omega)]; exact c2 k k1 k2
    · rw [e4] at hn
      obtain ⟨q1, q2, q3, q4⟩ := c3 n hn
      have hl6 := q1.2.1
      rw [dn 1 (by omega) (by omega), dn 2 (by omega) (by omega), dn 3 (by omega) (by omega), d4]
      refine ⟨q1.cg (zHa_n (by omega) (by omega)) (fun j hj => zHa_n (by omega) (by omega)), by rw [zHa_n (by omega) (by omega)]; exact q2, by rw [zHa_n (by omega) (by omega)]; exact q3, ?_⟩
      show va_up (Y.2 4).2 (S (463 + 3 * g)) ((Y.2 4).2 (S (463 + 3 * g)) + b) n = _
      by_cases e : n = S (463 + 3 * g)
      · rw [e, vuS, zHa_9 hv40, ← e, q4]
      · rw [vuN e, zHa_n (by omega) (by omega)]; exact q4
    · rw [e4] at hu hv
      rw [dn 1 (by omega) (by omega)] at e
      exact c4 u v hu hv e
  · obtain ⟨g1, g2, g3, g4⟩ := hG
    refine ⟨by rw [e5]; exact g1, fun k k1 k2 => ?_, fun n hn => ?_, fun u v hu hv => ?_⟩
    · rw [e5]
      by_cases q : k = 13
      · subst q; rw [d13]; exact n13
      · rw [dn k (by omega) q]; exact g2 k k1 k2
    · rw [e5] at hn
      obtain ⟨q1, q2, q3, q4, q5⟩ := g3 n hn
      rw [dn 11 (by omega) (by omega), dn 12 (by omega) (by omega), d13, e4, zHa_n (x := 463 + 3 * n) (by omega) (by omega), zHa_n (x := 463 + 3 * n + 1) (by omega) (by omega)]
      refine ⟨q1, q2, ?_, q4, q5⟩
      show va_up (Y.2 13).2 g ((Y.2 13).2 g + b) n = _
      by_cases e : n = g
      · subst e; rw [vuS, zHa_2 hv40, q3]
      · rw [vuN e, zHa_n (by omega) (by omega)]; exact q3
    · rw [e5] at hu hv
      rw [zHa_n (x := 463 + 3 * u) (by omega) (by omega), zHa_n (x := 463 + 3 * v) (by omega) (by omega), zHa_n (x := 463 + 3 * u + 1) (by omega) (by omega), zHa_n (x := 463 + 3 * v + 1) (by omega) (by omega)]
      exact g4 u v hu hv
  · rw [d13, zHa_2 hv40, rA_in (by show g < (Y.2 13).1; rw [n13]; exact hg)]
    show va_up (Y.2 13).2 g ((Y.2 13).2 g + b) g = _
    rw [vuS, hst.2.2.1]
theorem tz_harm (h : RX t X (S, sp, bf, sv, iz, rr, pd, ln, sts, td, ac)) (a w : Int32) : RA (t + 1) (cHarm X a w) (mxHarm S sp bf sv iz rr pd ln sts td ac a w) := by
  have hs : RS X.1 S := h.1.1
  have hb : bB t S := h.1.2
  unfold cHarm mxHarm
  rw [hs.n5 (k := 11) (by decide) (by decide)]
  rcases inR_or a (S 5) with e | ⟨g, hg, hg31, rfl⟩
  · rw [e]; exact h.no
  rw [inR_i hg hg31, if_pos rfl, if_pos rfl, nI_clamp hg31]
  cases e : inD w (nI 1) (nI 50) with
  | false => exact h.no
  | true =>
    obtain ⟨r, hr1, hr2, rfl⟩ := inD_e2 (by decide) e
    rw [if_pos rfl, if_pos rfl, nI_clamp (by omega)]
    obtain ⟨h1, h2⟩ := hs.harm (b := r) hg
    have h16 := hs.2.2.2.2.1.1
    have h40 := hs.le40
    have hv := (hs.st hg).2.2.2.1
    refine h.yes (by rw [h2]) ⟨h1, fun x hx => ?_⟩
    have hx0 := hb x hx
    by_cases e1 : x = 463 + 3 * g + 2
    · subst e1; rw [zHa_2 (by omega)]; omega
    · by_cases e2 : x = 9 + 10 * S (463 + 3 * g) + 9
      · subst e2; rw [zHa_9 (by omega)]; omega
      · rw [zHa_n e1 e2]; omega
theorem zAp_n {k x : Nat} (h1 : x ≠ 511 + 3 * k + 1) (h2 : x ≠ 511 + 3 * k + 2) (h3 : x ≠ 8) : zApS S k x = S x := by
  unfold zApS
  rw [vuN h3, vuN h2, vuN h1]
theorem zAp_1 {k : Nat} : zApS S k (511 + 3 * k + 1) = S (511 + 3 * k + 1) - 1 := by
  unfold zApS
  rw [vuN (by omega), vuN (by omega), vuS]
theorem zAp_2 {k : Nat} : zApS S k (511 + 3 * k + 2) = S (511 + 3 * k + 2) + 1 := by
  unfold zApS
  rw [vuN (by omega), vuS, vuN (by omega)]
theorem zAp_8 {k : Nat} : zApS S k 8 = S 8 + 1 := by
  unfold zApS
  rw [vuS, vuN (by omega), vuN (by omega)]
theorem RS.apo {Y : ST} {k : Nat} (h : RS Y S) (hk : k < S 7) : RS (apS Y k) (zApS S k) ∧ rA ((apS Y k).2 15) k = zApS S k (511 + 3 * k + 1) := by
  have n15 := h.n7 (k := 15) (by decide) (by decide)
  have n16 := h.n7 (k := 16) (by decide) (by decide)
  have hsk := h.sk hk
  obtain ⟨hY, hC, hN, hL, hG, hK, hU⟩ := h
  have h40 := hN.1
  have h10 := hK.1
  have h16 := hG.1
  have e4 : zApS S k 4 = S 4 := zAp_n (by omega) (by omega) (by omega)
  have e7 : zApS S k 7 = S 7 := zAp_n (by omega) (by omega) (by omega)
  have d15 : (apS Y k).2 15 = ((Y.2 15).1, va_up (Y.2 15).2 k ((Y.2 15).2 k - 1)) := by
    show va_up (va_up Y.2 15 (rCh (Y.2 15) k (rA (Y.2 15) k - 1))) 16 (rCh (Y.2 16) k (rA (Y.2 16) k + 1)) 15 = _
    rw [vuN (by omega), vuS, rCh_in (by rw [n15]; exact hk), rA_in (by rw [n15]; exact hk)]
  have d16 : (apS Y k).2 16 = ((Y.2 16).1, va_up (Y.2 16).2 k ((Y.2 16).2 k + 1)) := by
    show va_up (va_up Y.2 15 (rCh (Y.2 15) k (rA (Y.2 15) k - 1))) 16 (rCh (Y.2 16) k (rA (Y.2 16) k + 1)) 16 = _
    rw [vuS, rCh_in (by rw [n16]; exact hk), rA_in (by rw [n16]; exact hk)]
  have dn : ∀ j, j ≠ 15 → j ≠ 16 → (apS Y k).2 j = Y.2 j := fun j a d => by
    show va_up (va_up Y.2 15 (rCh (Y.2 15) k (rA (Y.2 15) k - 1))) 16 (rCh (Y.2 16) k (rA (Y.2 16) k + 1)) j = _
    rw [vuN d, vuN a]
  refine ⟨⟨hY.cg rfl (zAp_n (by omega) (by omega) (by omega)), hC.cg (dn 0 (by omega) (by omega)) (fun i hi => zAp_n (by omega) (by omega) (by omega)), hN.cg (fun j _ _ => dn _ (by omega) (by omega)) e4 (fun x _ _ => zAp_n (by omega) (by omega) (by omega)), hL.cg (fun a ha => dn _ (by omega) (by omega)) (Nat.le_of_eq e4.symm) (fun x _ _ => zAp_n (by omega) (by omega) (by omega)), hG.cg (fun j _ _ => dn _ (by omega) (by omega)) (zAp_n (by omega) (by omega) (by omega)) (Nat.le_of_eq e4.symm) (fun x _ _ => zAp_n (by omega) (by omega) (by omega)), ?_, ?_, ?_⟩, ?_⟩
  · obtain ⟨g1, g2, g3⟩ := hK
    refine ⟨by rw [e7]; exact g1, fun j k1 k2 => ?_, fun n hn => ?_⟩
    · rw [e7]
      rcases (show j = 14 ∨ j = 15 ∨ j = 16 by omega) with rfl | rfl | rfl
      · rw [dn 14 (by omega) (by omega)]; exact g2 14 k1 k2
      · rw [d15]; exact n15
      · rw [d16]; exact n16
    · rw [e7] at hn
      obtain ⟨q1, q2, q3, q4⟩ := g3 n hn
      rw [dn 14 (by omega) (by omega), d15, d16, e4, zAp_n (x := 511 + 3 * n) (by omega) (by omega) (by omega)]
      refine ⟨q1, q2, ?_, ?_⟩
      · show va_up (Y.2 15).2 k ((Y.2 15).2 k - 1) n = _
        by_cases e : n = k
        · subst e; rw [vuS, zAp_1, q3]
        · rw [vuN e, zAp_n (by omega) (by omega) (by omega)]; exact q3
      · show va_up (Y.2 16).2 k ((Y.2 16).2 k + 1) n = _
        by_cases e : n = k
        · subst e; rw [vuS, zAp_2, q4]
        · rw [vuN e, zAp_n (by omega) (by omega) (by omega)]; exact q4
  · rw [zAp_n (by omega) (by omega) (by omega), e4, hU.1]
    exact sN_cong fun n hn => (zAp_n (by omega) (by omega) (by omega)).symm
  · rw [zAp_8, e7, hU.2]
    exact (sN_up (f := fun n => S (511 + 3 * n + 2)) (g := fun n => zApS S k (511 + 3 * n + 2)) (i := k) (d := 1) hk (fun j hj q => zAp_n (x := 511 + 3 * j + 2) (by omega) (by omega) (by omega)) zAp_2).symm
  · rw [d15, zAp_1, rA_in (by show k < (Y.2 15).1; rw [n15]; exact hk)]
    show va_up (Y.2 15).2 k ((Y.2 15).2 k - 1) k = _
    rw [vuS, hsk.2.2.1]
theorem tz_apo (h : RX t X (S, sp, bf, sv, iz, rr, pd, ln, sts, td, ac)) (a : Int32) : RA (t + 1) (cApo X a) (mxApo S sp bf sv iz rr pd ln sts td ac a) := by
  have hs : RS X.1 S := h.1.1
  have hb : bB t S := h.1.2
  unfold cApo mxApo
  rw [hs.n7 (k := 15) (by decide) (by decide)]
  rcases inR_or a (S 7) with e | ⟨g, hg, hg31, rfl⟩
  · rw [e]; exact h.no
  rw [inR_i hg hg31, if_pos rfl, if_pos rfl, nI_clamp hg31, rA_in (R := X.1.2 15) (by rw [hs.n7 (by decide) (by decide)]; exact hg), (hs.sk hg).2.2.1]
  by_cases e : S (511 + 3 * g + 1) = 0
  · rw [if_pos (by omega), if_pos e]; exact h.no
  · rw [if_neg (by omega), if_neg e]
    obtain ⟨h1, h2⟩ := hs.apo hg
    refine h.yes (by rw [h2]) ⟨h1, fun x hx => ?_⟩
    have hx0 := hb x hx
    by_cases e1 : x = 511 + 3 * g + 1
    · subst e1; rw [zAp_1]; omega
    · by_cases e2 : x = 511 + 3 * g + 2
      · subst e2; rw [zAp_2]; omega
      · by_cases e3 : x = 8
        · subst e3; rw [zAp_8]; omega
        · rw [zAp_n e1 e2 e3]; omega
/-! undo, slots -/
theorem tz_undo (h : RX t X (S, sp, bf, sv, iz, rr, pd, ln, sts, td, ac)) : RA (t + 1) (cUndo X) (mxUndo S sp bf sv iz rr pd ln sts td ac) := by
  have hH : RH t X.2.2.1.1 X.2.2.1.2.2 bf sts := h.2.2.1
  unfold cUndo mxUndo
  obtain ⟨e, h6, hj⟩ := hH
  rw [e]
  by_cases q : sts = 0
  · rw [if_pos q, if_pos q]; exact h.no
  · rw [if_neg q, if_neg q]
    have hl := hj (sts - 1) (by omega)
    refine ⟨rfl, ?_, h.2.1, ⟨rfl, by show sts - 1 ≤ 6; omega, fun j hj2 => ?_⟩, h.2.2.2.mono (Nat.le_succ t)⟩
    · exact ((hl.cY (eqY.cp X.1 _)).cS (T := ovr (fun x => bf (541 * (sts - 1) + x)) S 541) fun x hx => ovr_eq hx).mono (Nat.le_succ t)
    · have hj3 : j < sts - 1 := hj2
      exact (hj j (by omega)).mono (Nat.le_succ t)
theorem tz_save (h : RX t X (S, sp, bf, sv, iz, rr, pd, ln, sts, td, ac)) (a : Int32) (z : Nat) : RA (t + 1) (cSave X a z) (mxSave S sp bf sv iz rr pd ln sts td ac a) := by
  have hs : RS X.1 S := h.1.1
  have hV : RV t X.2.2.2.1 X.2.2.2.2 iz sv := h.2.2.2
  unfold cSave mxSave
  rcases inR_or a 2 with e | ⟨i, hi, hi31, rfl⟩
  · rw [e]; exact h.no
  rw [inR_i hi hi31, if_pos rfl, if_pos rfl, nI_clamp hi31, hs.n4 (k := 1) (by decide) (by decide)]
  have key : ∀ (u : Nat) (W : ST), RV (t + 1) (va_up X.2.2.2.1 i (some u)) (va_up X.2.2.2.2 i (cpL W X.1 17)) (va_up iz i 1) (ovo S sv (541 * i) 541) := fun u W j hj => by
    by_cases q : j = i
    · subst q
      rw [vuS, vuS, vuS]
      exact ⟨by decide, ⟨fun q => (by cases q), fun q => absurd q (by decide)⟩, fun _ => ((h.1.cY (eqY.cp _ _)).cS fun x hx => by show ovo S sv (541 * j) 541 (541 * j + x) = S x; exact ovo_in hx).mono (Nat.le_succ t)⟩
    · rw [vuN q, vuN q, vuN q]
      obtain ⟨v1, v2, v3⟩ := hV j hj
      refine ⟨v1, v2, fun nz => ((v3 nz).cS fun x hx => ?_).mono (Nat.le_succ t)⟩
      show ovo S sv (541 * i) 541 (541 * j + x) = sv (541 * j + x)
      rcases Nat.lt_or_ge j i with d | d
      · exact ovo_lt (by omega)
      · exact ovo_ge (by omega)
  refine ⟨rfl, ?_⟩
  show RX (t + 1) (cSv X i z) _
  unfold cSv
  cases e : X.2.2.2.1 i with
  | none => exact ⟨h.1.mono (Nat.le_succ t), h.2.1, h.2.2.1.mono (Nat.le_succ t), key z inS⟩
  | some u => exact ⟨h.1.mono (Nat.le_succ t), h.2.1, h.2.2.1.mono (Nat.le_succ t), key u _⟩
theorem tz_rest (h : RX t X (S, sp, bf, sv, iz, rr, pd, ln, sts, td, ac)) (a : Int32) : RA (t + 1) (cRes X a) (mxRest S sp bf sv iz rr pd ln sts td ac a) := by
  have hV : RV t X.2.2.2.1 X.2.2.2.2 iz sv := h.2.2.2
  unfold cRes mxRest
  rcases inR_or a 2 with e | ⟨i, hi, hi31, rfl⟩
  · rw [e]; exact h.no
  rw [inR_i hi hi31, if_pos rfl, if_pos rfl, nI_clamp hi31]
  obtain ⟨v1, v2, v3⟩ := hV i hi
  cases e : X.2.2.2.1 i with
  | none => rw [if_pos (v2.mp e)]; exact h.no
  | some u =>
    have hn : iz i ≠ 0 := fun q => by rw [v2.mpr q] at e; cases e
    rw [if_neg hn]
    have hr := ((v3 hn).cY (eqY.cp X.1 _)).cS (T := ovr (fun y => sv (541 * i + y)) S 541) fun x hx => ovr_eq hx
    refine h.yes ?_ (hr.mono (Nat.le_succ t))
    rw [hr.1.n4 (by decide) (by decide)]
/-! the pad -/
theorem RP.add {P : Rw} {v : Nat} (h : RP P pd ln) (h1 : ln < 80) (h2 : 33 ≤ v) (h3 : v ≤ 126) : RP (rAdd 80 P v) (va_up pd ln v) (ln + 1) := by
  obtain ⟨a, b, c, d⟩ := h
  rw [rAdd_in (by omega)]
  refine ⟨by show P.1 + 1 = _; rw [a], h1, fun k hk => ?_, fun k hk => ?_⟩
  · show va_up P.2 P.1 v k = _ ∧ _
    rw [a]
    by_cases e : k = ln
    · subst e; rw [vuS, vuS]; exact ⟨rfl, h2, h3⟩
    · rw [vuN e, vuN e]; exact c k (by omega)
  · by_cases e : k = ln
    · rw [e, vuS]; omega
    · rw [vuN e]; exact d k hk
theorem RP.nil {P : Rw} (h : RP P pd ln) (f : Nat → Nat) : RP (0, f) pd 0 := ⟨rfl, Nat.zero_le _, fun k hk => absurd hk (Nat.not_lt_zero k), h.2.2.2⟩
theorem RX.pad {P T : Rw} {pd' rr' : Nat → Nat} {ln' td' ac' : Nat} {x : Int32} (h : RX t X (S, sp, bf, sv, iz, rr, pd, ln, sts, td, ac)) (hP : RP P pd' ln') : RA (t + 1) (x, xPd X P T) (x, (S, sp, bf, sv, iz, rr', pd', ln', sts, td', ac')) := ⟨rfl, h.1.mono (Nat.le_succ t), hP, h.2.2.1.mono (Nat.le_succ t), h.2.2.2.mono (Nat.le_succ t)⟩
theorem tz_wipe (h : RX t X (S, sp, bf, sv, iz, rr, pd, ln, sts, td, ac)) : RA (t + 1) (cWipe X) (mxWipe S sp bf sv iz rr pd ln sts td ac) := by
  have hP : RP X.2.1.1 pd ln := h.2.1
  unfold cWipe mxWipe
  rw [hP.1]
  exact h.pad (hP.nil _)
theorem sgC_pc : ∀ f r s, r < 256 ^ f → sgC f r s = (pcM f r s).getD 0
  | 0, r, s, h => by
    have : r = 0 := by omega
    subst this; rfl
  | f + 1, r, s, h => by
    by_cases h0 : r % 256 = 0
    · rw [sgC_z h0]
      by_cases z : r = 0
      · rw [if_pos z, z, pcM_z]; rfl
      · rw [if_neg z, pcM_b z (by omega)]; rfl
    · have z : ¬ r = 0 := fun q => h0 (by rw [q])
      by_cases b : r % 256 < 33 ∨ 126 < r % 256
      · rw [sgC_b h0 b, pcM_b z b]; rfl
      · rw [sgC_s h0 b, pcM_s z b]
        exact sgC_pc f _ _ (Nat.div_lt_of_lt_mul (by rw [Nat.pow_succ] at h; omega))
theorem pcM_ch : ∀ f r s n, pcM f r s = some n → s ≤ n ∧ ∀ i, i < n - s → 33 ≤ r / 256 ^ i % 256 ∧ r / 256 ^ i % 256 ≤ 126
  | 0, r, s, n, h => by
    cases h; exact ⟨Nat.le_refl _, fun i hi => by omega⟩
  | f + 1, r, s, n, h => by
    by_cases z : r = 0
    · rw [z, pcM_z] at h; cases h; exact ⟨Nat.le_refl _, fun i hi => by omega⟩
    · by_cases b : r % 256 < 33 ∨ 126 < r % 256
      · rw [pcM_b z b] at h; cases h
      · rw [pcM_s z b] at h
        obtain ⟨h1, h2⟩ := pcM_ch f _ _ _ h
        refine ⟨by omega, fun i hi => ?_⟩
        cases i with
        | zero => rw [Nat.pow_zero, Nat.div_one]; omega
        | succ i =>
          have := h2 i (by omega)
          rw [show (2 : Nat) ^ 8 = 256 from rfl, Nat.div_div_eq_div_mul, Nat.mul_comm, ← Nat.pow_succ] at this
          exact this
theorem ptR_ok {P : Rw} {w n : Nat} (h : RP P pd ln) (hn : ln + n ≤ 80) (hc : ∀ i, i < n → 33 ≤ w / 256 ^ i % 256 ∧ w / 256 ^ i % 256 ≤ 126) : ∀ u, u ≤ n → RP (ptR P w n u) (ptM pd ln w n u) (ln + u)
  | 0, _ => h
  | u + 1, hu => by
    have h1 := ptR_ok h hn hc u (by omega)
    have h2 := hc (n - 1 - u) (by omega)
    show RP (rAdd 80 (ptR P w n u) (w / 256 ^ (n - 1 - u) % 256)) (va_up (ptM pd ln w n u) (ln + u) (w / 2 ^ (8 * (n - 1 - u)) % 256)) (ln + u + 1)
    rw [show (2 : Nat) ^ (8 * (n - 1 - u)) = 256 ^ (n - 1 - u) from Nat.pow_mul 2 8 _]
    exact h1.add (by omega) h2.1 h2.2
theorem tz_put (h : RX t X (S, sp, bf, sv, iz, rr, pd, ln, sts, td, ac)) {w : Nat} (hw : w < 2 ^ 64) : RA (t + 1) (cPut X w) (mxPut S sp bf sv iz rr pd ln sts td ac w) := by
  have hP : RP X.2.1.1 pd ln := h.2.1
  unfold cPut
  rw [sgC_pc 8 w 0 (by omega), hP.1]
  cases e : pcM 8 w 0 with
  | none => rw [mxPut_n e]; exact h.no
  | some n =>
    rw [mxPut_s e, mPtn]
    show RA _ (if n = 0 then _ else if 80 < ln + n then _ else (nI (ptR X.2.1.1 w n n).1, xPd X (ptR X.2.1.1 w n n) X.2.1.2)) _
    by_cases z : n = 0
    · rw [if_pos z, if_pos z]; exact h.no
    · rw [if_neg z, if_neg z]
      by_cases b : 80 < ln + n
      · rw [if_pos b, if_pos b]; exact h.no
      · rw [if_neg b, if_neg b]
        have hc := (pcM_ch 8 w 0 n e).2
        have hR := ptR_ok hP (w := w) (n := n) (by omega) (fun i hi => hc i (by omega)) n (Nat.le_refl _)
        rw [hR.1]
        exact h.pad hR
theorem wn_ok {P : Rw} {κ n : Nat} {z : (Nat → Nat) × Nat} (h : RP P z.1 z.2) (hk : kIs κ (S (9 + 10 * n)) (fun j => S (9 + 10 * n + 1 + j))) (hz : z.2 + S (9 + 10 * n) ≤ 80) : ∀ j, j ≤ S (9 + 10 * n) → ∀ f : Nat → Rw, f 0 = P → (∀ i, f (i + 1) = rAdd 80 (f i) (96 + kL κ i)) → RP (f j) (wnM S n z j).1 (wnM S n z j).2
  | 0, _, f, h0, _ => by rw [h0]; exact h
  | j + 1, hj, f, h0, hf => by
    have h1 := wn_ok h hk hz j (by omega) f h0 hf
    rw [hf j]
    have h2 : 97 ≤ S (9 + 10 * n + 1 + j) ∧ S (9 + 10 * n + 1 + j) ≤ 122 ∧ kL κ j = S (9 + 10 * n + 1 + j) - 96 := hk.2.2.2.1 j (by omega)
    have e : 96 + kL κ j = S (9 + 10 * n + 1 + j) := by omega
    rw [e]
    have hl := wnM_l (S := S) (n := n) (z := z) j
    exact h1.add (by omega) (by omega) (by omega)
theorem wr_ok {Y : ST} {P : Rw} {c k : Nat} (h : RS Y S) (hM : mOk S) (hP : RP P pd ln) (hc : c < 2) (hk : k < 3) : ∀ i, i ≤ S (409 + 27 * c + 9 * k) → RP (wrR Y P (Lst Y c k) i) (wrM S pd (409 + 27 * c + 9 * k) i).1 (wrM S pd (409 + 27 * c + 9 * k) i).2 ∧ (0 < i → 0 < (wrM S pd (409 + 27 * c + 9 * k) i).2)
  | 0, _ => ⟨hP.nil _, fun q => absurd q (Nat.lt_irrefl 0)⟩
  | i + 1, hi => by
    obtain ⟨h1, h2⟩ := wr_ok h hM hP hc hk i (by omega)
    have hl := wrM_l (pd := pd) hM hc hk i (by omega)
    have h8 := h.l8 hc hk
    obtain ⟨hle, hln⟩ := h.le (j := i) hc hk (by omega)
    have hks := h.is hln
    have hL6 := hks.2.1
    have hcm : RP (apL (wrR Y P (Lst Y c k) i) ((Y.2 1).2 (S (409 + 27 * c + 9 * k + 1 + i))) 0) (wcM (wrM S pd (409 + 27 * c + 9 * k) i) i).1 (wcM (wrM S pd (409 + 27 * c + 9 * k) i) i).2 := by
      show RP (if 0 < (wrR Y P (Lst Y c k) i).1 then rAdd 80 (wrR Y P (Lst Y c k) i) 44 else wrR Y P (Lst Y c k) i) _ _
      unfold wcM
      rw [h1.1]
      by_cases q : 0 < i
      · rw [if_pos (h2 q), if_pos q]
        exact h1.add (by omega) (by decide) (by decide)
      · have e0 : i = 0 := by omega
        subst e0
        rw [if_neg (show ¬ 0 < (wrM S pd (409 + 27 * c + 9 * k) 0).2 from Nat.lt_irrefl 0), if_neg q]
        exact h1
    have hw2 := wcM_l (z := wrM S pd (409 + 27 * c + 9 * k) i) (i := i)
    have h3 := wn_ok hcm hks (by omega) _ (Nat.le_refl _) (apL (wrR Y P (Lst Y c k) i) ((Y.2 1).2 (S (409 + 27 * c + 9 * k + 1 + i)))) rfl (fun _ => rfl)
    refine ⟨?_, fun _ => ?_⟩
    · show RP (apN (wrR Y P (Lst Y c k) i) (rA (Y.2 1) ((Lst Y c k).2 i))) (wnM S (S (409 + 27 * c + 9 * k + 1 + i)) (wcM (wrM S pd (409 + 27 * c + 9 * k) i) i) (S (9 + 10 * S (409 + 27 * c + 9 * k + 1 + i)))).1 (wnM S (S (409 + 27 * c + 9 * k + 1 + i)) (wcM (wrM S pd (409 + 27 * c + 9 * k) i) i) (S (9 + 10 * S (409 + 27 * c + 9 * k + 1 + i)))).2
      rw [hle, h.key hln]
      unfold apN
      rw [kS_self hks]
      exact h3
    · show 0 < (wnM S (S (409 + 27 * c + 9 * k + 1 + i)) (wcM (wrM S pd (409 + 27 * c + 9 * k) i) i) (S (9 + 10 * S (409 + 27 * c + 9 * k + 1 + i)))).2
      rw [wnM_l]
      have := hks.1
      omega
theorem tz_write (h : RX t X (S, sp, bf, sv, iz, rr, pd, ln, sts, td, ac)) (ht : t ≤ 600) (c k : Int32) : RA (t + 1) (cWrite X c k) (mxWri S sp bf sv iz rr pd ln sts td ac c k) := by
  have hs : RS X.1 S := h.1.1
  have hM : mOk S := RB.mOk h.1 (by omega)
  have hP : RP X.2.1.1 pd ln := h.2.1
  unfold cWrite mxWri
  rcases inR_or c 2 with e | ⟨i, hi, hi31, rfl⟩
  · rw [show inL c k = false by unfold inL; rw [e]; rfl]; exact h.no
  rcases inR_or k 3 with e | ⟨j, hj, hj31, rfl⟩
  · rw [show inL (nI i) k = false by unfold inL; rw [e, Bool.and_false]]; exact h.no
  rw [inL_nI hi hj, if_pos rfl, if_pos rfl, ixL_nI hi hj, nI_clamp hi31, nI_clamp hj31, mWri]
  have hw := (wr_ok hs hM hP hi hj _ (Nat.le_refl _)).1
  rw [show (X.1.2 (5 + lix i j)).1 = S (409 + 27 * i + 9 * j) from hs.ll hi hj, hw.1]
  exact h.pad hw
end
