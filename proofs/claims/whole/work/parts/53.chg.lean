/-! the relation of the office and the reference; the history; the small changes -/
theorem vuN {α : Type} {f : Nat → α} {i k : Nat} {v : α} (h : k ≠ i) : va_up f i v k = f k := if_neg h
theorem vuS {α : Type} {f : Nat → α} {i : Nat} {v : α} : va_up f i v i = v := if_pos rfl
def RP (P : Rw) (pd : Nat → Nat) (ln : Nat) : Prop := P.1 = ln ∧ ln ≤ 80 ∧ (∀ k, k < ln → P.2 k = pd k ∧ 33 ≤ pd k ∧ pd k ≤ 126) ∧ ∀ k, k < 80 → pd k < 2 ^ 16
def RH (t n : Nat) (Z : Nat → ST) (bf : Nat → Nat) (sts : Nat) : Prop := n = sts ∧ sts ≤ 6 ∧ ∀ j, j < sts → RB t (Z j) (fun k => bf (541 * j + k))
def RV (t : Nat) (o : Nat → Option Nat) (V : Nat → ST) (iz sv : Nat → Nat) : Prop := ∀ i, i < 2 → iz i < 2 ∧ (o i = none ↔ iz i = 0) ∧ (iz i ≠ 0 → RB t (V i) (fun k => sv (541 * i + k)))
def RX (t : Nat) (X : XS) (M : MS) : Prop := RB t X.1 M.1 ∧ RP X.2.1.1 M.2.2.2.2.2.2.1 M.2.2.2.2.2.2.2.1 ∧ RH t X.2.2.1.1 X.2.2.1.2.2 M.2.2.1 M.2.2.2.2.2.2.2.2.1 ∧ RV t X.2.2.2.1 X.2.2.2.2 M.2.2.2.2.1 M.2.2.2.1
theorem RH.mono {t u n sts : Nat} {Z : Nat → ST} {bf : Nat → Nat} (h : RH t n Z bf sts) (ht : t ≤ u) : RH u n Z bf sts := ⟨h.1, h.2.1, fun j hj => (h.2.2 j hj).mono ht⟩
theorem RV.mono {t u : Nat} {o : Nat → Option Nat} {V : Nat → ST} {iz sv : Nat → Nat} (h : RV t o V iz sv) (ht : t ≤ u) : RV u o V iz sv := fun i hi => ⟨(h i hi).1, (h i hi).2.1, fun q => ((h i hi).2.2 q).mono ht⟩
theorem RX.mono {t u : Nat} {X : XS} {M : MS} (h : RX t X M) (ht : t ≤ u) : RX u X M := ⟨h.1.mono ht, h.2.1, h.2.2.1.mono ht, h.2.2.2.mono ht⟩
theorem RH.rec {t n sts : Nat} {Z : Nat → ST} {Y : ST} {bf sp S : Nat → Nat} (h : RH t n Z bf sts) (hY : RB t Y S) (hs : ∀ k, k < 541 → sp k = S k) : RH t (hrN n + 1) (hrZ n Z Y) (rcB sp bf sts) (rcN sts) := by
  obtain ⟨rfl, h6, hj⟩ := h
  rcases Nat.lt_or_ge n 6 with q | q
  · rw [hrN_t q, hrZ_t q]
    unfold rcB rcN
    rw [if_neg (by omega), if_neg (by omega)]
    refine ⟨rfl, q, fun j hj2 => ?_⟩
    by_cases e : j = n
    · subst e
      rw [vuS]
      exact (hY.cY (eqY.cp _ _)).cS fun x hx => by
        show ovo sp bf (541 * j) 541 (541 * j + x) = S x
        rw [ovo_in hx]; exact hs x hx
    · rw [vuN e]
      exact (hj j (by omega)).cS fun x hx => by
        show ovo sp bf (541 * n) 541 (541 * j + x) = bf (541 * j + x)
        exact ovo_lt (by omega)
  · have e6 : n = 6 := by omega
    subst e6
    rw [hrN_f (Nat.le_refl _), hrZ_f (Nat.le_refl _)]
    unfold rcB rcN
    rw [if_pos rfl, if_pos rfl]
    refine ⟨rfl, Nat.le_refl _, fun j hj2 => ?_⟩
    by_cases e : j = 5
    · subst e
      rw [vuS]
      exact (hY.cY (eqY.cp _ _)).cS fun x hx => by
        show ovo sp (shB bf 2705) (541 * 5) 541 (541 * 5 + x) = S x
        rw [ovo_in hx]; exact hs x hx
    · rw [vuN e]
      have hr : rot Z j = Z (j + 1) := if_pos (by omega)
      rw [hr]
      exact (hj (j + 1) (by omega)).cS fun x hx => by
        show ovo sp (shB bf 2705) (541 * 5) 541 (541 * j + x) = bf (541 * (j + 1) + x)
        rw [ovo_lt (by omega)]
        unfold shB
        rw [if_pos (by omega)]
        congr 1; omega
theorem ovr_eq {f g : Nat → Nat} {n k : Nat} (h : k < n) : ovr f g n k = f k := if_pos h
section
variable {t : Nat} {X : XS} {S sp bf sv iz rr pd : Nat → Nat} {ln sts td ac : Nat}
theorem RX.rec {Y : ST} {S' rr' pd' : Nat → Nat} {ln' td' ac' : Nat} {P' T' : Rw} {π : Nat → Nat} (h : RX t X (S, sp, bf, sv, iz, rr, pd, ln, sts, td, ac)) (hY : RB (t + 1) Y S') (hP : RP P' pd' ln') : RX (t + 1) (Y, (P', T'), (hrN X.2.2.1.1 + 1, π, hrZ X.2.2.1.1 X.2.2.1.2.2 X.1), X.2.2.2) (S', ovr S sp 541, rcB (ovr S sp 541) bf sts, sv, iz, rr', pd', ln', rcN sts, td', ac') :=
  ⟨hY, hP, ((h.2.2.1).rec h.1 (fun k hk => ovr_eq hk)).mono (Nat.le_succ t), h.2.2.2.mono (Nat.le_succ t)⟩
/-- an answer and what is made of both -/
def RA (t : Nat) (c : Int32 × XS) (m : Int32 × MS) : Prop := c.1 = m.1 ∧ RX t c.2 m.2
theorem RX.no {x : Int32} (h : RX t X (S, sp, bf, sv, iz, rr, pd, ln, sts, td, ac)) : RA (t + 1) (x, X) (x, mSt S sp bf sv iz rr pd ln sts td ac) := ⟨rfl, h.mono (Nat.le_succ t)⟩
theorem RX.yes {Y : ST} {S' : Nat → Nat} {x y : Int32} (h : RX t X (S, sp, bf, sv, iz, rr, pd, ln, sts, td, ac)) (e : x = y) (hY : RB (t + 1) Y S') : RA (t + 1) (x, xRc X Y) (mRec S sp bf sv iz rr pd ln sts td ac S' y) := ⟨e, h.rec hY h.2.1⟩
theorem bB.up {x v : Nat} (h : bB t S) (hv : v ≤ 200 + 50 * t) : bB t (va_up S x v) := fun k hk => by
  by_cases e : k = x
  · rw [e, vuS]; exact hv
  · rw [vuN e]; exact h k hk
/-- a setting -/
theorem RS.cset {Y : ST} (h : RS Y S) {i r : Nat} (hi : i < 3) : RS (Y.1, va_up Y.2 0 (rCh (Y.2 0) i r)) (va_up S i r) := by
  obtain ⟨hY, hC, hN, hL, hG, hK, hU⟩ := h
  refine ⟨hY.cg rfl (vuN (by omega)), ⟨?_, fun j hj => ?_⟩, hN.cg (fun k _ _ => vuN (by omega)) (vuN (by omega)) (fun x _ _ => vuN (by omega)), hL.cg (fun a _ => vuN (by omega)) (Nat.le_of_eq (vuN (by omega)).symm) (fun x _ _ => vuN (by omega)), hG.cg (fun k _ _ => vuN (by omega)) (vuN (by omega)) (Nat.le_of_eq (vuN (by omega)).symm) (fun x _ _ => vuN (by omega)), hK.cg (fun k _ _ => vuN (by omega)) (vuN (by omega)) (Nat.le_of_eq (vuN (by omega)).symm) (fun x _ _ => vuN (by omega)), hU.cg (vuN (by omega)) (vuN (by omega)) (vuN (by omega)) (vuN (by omega)) (fun n _ => vuN (by omega)) (fun k _ => vuN (by omega))⟩
  · show (rCh (Y.2 0) i r).1 = 3
    unfold rCh; split
    · exact hC.1
    · exact hC.1
  · show (rCh (Y.2 0) i r).2 j = _
    unfold rCh
    rw [if_pos (by rw [hC.1]; exact hi)]
    show va_up (Y.2 0).2 i r j = _
    by_cases e : j = i
    · rw [e, vuS, vuS]
    · rw [vuN e, vuN e]; exact hC.2 j hj
theorem tz_set (h : RX t X (S, sp, bf, sv, iz, rr, pd, ln, sts, td, ac)) (a v : Int32) : RA (t + 1) (cSet X a v) (mxSet S sp bf sv iz rr pd ln sts td ac a v) := by
  unfold cSet mxSet
  rw [show inD a (nI 0) (nI 2) = inR a 3 from inD_c (by decide), show hiS a = (if a = nI 2 then nI 6 else nI 99) from rfl]
  cases e : (inR a 3 && inD v (nI 1) (if a = nI 2 then nI 6 else nI 99)) with
  | false => exact h.no
  | true =>
    rw [if_pos rfl, if_pos rfl]
    rw [Bool.and_eq_true] at e
    obtain ⟨i, hi, hi31, rfl⟩ := inR_t e.1
    rw [nI_clamp hi31]
    have hv : ∃ r, r ≤ 99 ∧ v = nI r := by
      have e2 := e.2
      split at e2
      · obtain ⟨r, -, h2, h3⟩ := inD_e2 (by decide) e2; exact ⟨r, by omega, h3⟩
      · obtain ⟨r, -, h2, h3⟩ := inD_e2 (by decide) e2; exact ⟨r, h2, h3⟩
    obtain ⟨r, hr, rfl⟩ := hv
    rw [nI_clamp (by omega)]
    exact h.yes (by rw [h.1.1.set hi]) ⟨h.1.1.cset hi, (h.1.2.mono (Nat.le_succ t)).up (by omega)⟩
/-- a name off a list -/
theorem rL.drop {Y : ST} {a p : Nat} (h : rL Y S) (ha : a < 6) (hp : p < S (409 + 9 * a)) : rL (Y.1, va_up Y.2 (5 + a) (rDrop (Y.2 (5 + a)) p)) (tkF S (409 + 9 * a) p) := by
  intro b hb
  have e4 : tkF S (409 + 9 * a) p 4 = S 4 := tkF_lo (by omega)
  obtain ⟨a1, a2, a3, a4⟩ := h a ha
  by_cases e : b = a
  · subst e
    rw [tkF_q, e4]
    show (va_up Y.2 (5 + b) (rDrop (Y.2 (5 + b)) p) (5 + b)).1 = _ ∧ _ ∧ (∀ j, j < _ → (va_up Y.2 (5 + b) (rDrop (Y.2 (5 + b)) p) (5 + b)).2 j = _ ∧ _) ∧ _
    rw [vuS, rDrop, if_pos (by rw [a1]; exact hp)]
    refine ⟨by show (Y.2 (5 + b)).1 - 1 = _; rw [a1], by omega, fun j hj => ?_, fun i j hi hj => ?_⟩
    · rw [tkF_e hj]
      show (if p ≤ j ∧ j + 1 < (Y.2 (5 + b)).1 then (Y.2 (5 + b)).2 (j + 1) else (Y.2 (5 + b)).2 j) = _ ∧ _
      by_cases q : p ≤ j
      · rw [if_pos ⟨q, by rw [a1]; omega⟩, if_pos q]; exact a3 _ (by omega)
      · rw [if_neg (fun z => q z.1), if_neg q]; exact a3 _ (by omega)
    · rw [tkF_e hi, tkF_e hj]
      split <;> split <;> intro q <;> have := a4 _ _ (by omega) (by omega) q <;> omega
  · obtain ⟨b1, b2, b3, b4⟩ := h b hb
    have h0 : tkF S (409 + 9 * a) p (409 + 9 * b) = S (409 + 9 * b) := by
      rcases Nat.lt_or_ge b a with q | q
      · exact tkF_lo (by omega)
      · exact tkF_hi (by omega) (by omega)
    have hj0 : ∀ j, j < S (409 + 9 * b) → tkF S (409 + 9 * a) p (409 + 9 * b + 1 + j) = S (409 + 9 * b + 1 + j) := fun j hj => by
      rcases Nat.lt_or_ge b a with q | q
      · exact tkF_lo (by omega)
      · exact tkF_hi (by omega) (by omega)
    rw [h0, e4]
    show (va_up Y.2 (5 + a) _ (5 + b)).1 = _ ∧ _ ∧ (∀ j, j < _ → (va_up Y.2 (5 + a) _ (5 + b)).2 j = _ ∧ _) ∧ _
    rw [vuN (by omega)]
    refine ⟨b1, b2, fun j hj => by rw [hj0 j hj]; exact b3 j hj, fun i j hi hj => ?_⟩
    rw [hj0 i hi, hj0 j hj]; exact b4 i j hi hj
theorem RS.drop {Y : ST} {a p : Nat} (h : RS Y S) (ha : a < 6) (hp : p < S (409 + 9 * a)) : RS (Y.1, va_up Y.2 (5 + a) (rDrop (Y.2 (5 + a)) p)) (tkF S (409 + 9 * a) p) := by
  obtain ⟨hY, hC, hN, hL, hG, hK, hU⟩ := h
  have h8 := (hL a ha).2.1
  have h40 := hN.1
  exact ⟨hY.cg rfl (tkF_lo (by omega)), hC.cg (vuN (by omega)) (fun i _ => tkF_lo (by omega)), hN.cg (fun k _ _ => vuN (by omega)) (tkF_lo (by omega)) (fun x _ _ => tkF_lo (by omega)), hL.drop ha hp, hG.cg (fun k _ _ => vuN (by omega)) (tkF_lo (by omega)) (Nat.le_of_eq (tkF_lo (by omega)).symm) (fun x _ _ => tkF_hi (by omega) (by omega)), hK.cg (fun k _ _ => vuN (by omega)) (tkF_lo (by omega)) (Nat.le_of_eq (tkF_lo (by omega)).symm) (fun x _ _ => tkF_hi (by omega) (by omega)), hU.cg (tkF_lo (by omega)) (tkF_lo (by omega)) (tkF_lo (by omega)) (tkF_lo (by omega)) (fun n _ => tkF_lo (by omega)) (fun k _ => tkF_hi (by omega) (by omega))⟩
theorem bB.tk {q p : Nat} (h : bB t S) (hq : q + S q < 541) : bB t (tkF S q p) := fun k hk => by
  rw [tkF_at]
  split
  · have := h q (by omega); omega
  · split
    · exact h _ (by omega)
    · exact h k hk
theorem tz_strike (h : RX t X (S, sp, bf, sv, iz, rr, pd, ln, sts, td, ac)) (c k p : Int32) : RA (t + 1) (cStrike X c k p) (mxStrike S sp bf sv iz rr pd ln sts td ac c k p) := by
  unfold cStrike mxStrike inL
  rcases inR_or c 2 with e | ⟨i, hi, hi31, rfl⟩
  · rw [e]; exact h.no
  rcases inR_or k 3 with e | ⟨j, hj, hj31, rfl⟩
  · rw [e, Bool.and_false]; exact h.no
  have hs := h.1.1
  rw [inR_i hi hi31, inR_i hj hj31, ixL_nI hi hj, nI_clamp hi31, nI_clamp hj31]
  simp only [Bool.true_and]
  rw [hs.ll hi hj]
  rcases inR_or p (S (409 + 27 * i + 9 * j)) with e | ⟨q, hq, hq31, rfl⟩
  · rw [e]; exact h.no
  rw [inR_i hq hq31, if_pos rfl, if_pos rfl, nI_clamp hq31]
  have h8 := hs.l8 hi hj
  refine h.yes (by rw [rA_in (by rw [hs.ll hi hj]; exact hq), (hs.le hi hj hq).1]) ?_
  rw [qLix] at hq h8 ⊢
  have := lix_lt hi hj
  exact ⟨hs.drop this hq, (h.1.2.mono (Nat.le_succ t)).tk (by omega)⟩
theorem sN_up {f g : Nat → Nat} {i d : Nat} : ∀ {n : Nat}, i < n → (∀ j, j < n → j ≠ i → g j = f j) → g i = f i + d → sN g n = sN f n + d
  | 0, hi, _, _ => absurd hi (Nat.not_lt_zero i)
  | n + 1, hi, h, h2 => by
    rw [sN_s, sN_s]
    by_cases e : i = n
    · subst e
      rw [sN_cong (g := f) (fun j hj => h j (by omega) (by omega)), h2]; omega
    · rw [sN_up (n := n) (by omega) (fun j hj => h j (by omega)) h2, h n (by omega) (by omega)]; omega
/-- a storm -/
theorem zSt_n {c v x : Nat} (h1 : x ≠ 5) (h2 : x ≠ 6) (h3 : x ≠ 9 + 10 * v + 8) (h4 : x < 463 + 3 * S 5 ∨ 463 + 3 * S 5 + 2 < x) : zStS S c v x = S x := by
  unfold zStS
  rw [vuN h3, vuN h2, vuN h1, vuN (by omega), vuN (by omega), vuN (by omega)]
theorem zSt_5 {c v : Nat} : zStS S c v 5 = S 5 + 1 := by
  unfold zStS
  rw [vuN (by omega), vuN (by omega), vuS, vuN (by omega), vuN (by omega), vuN (by omega)]
theorem zSt_6 {c v : Nat} : zStS S c v 6 = S 6 + 1 := by
  unfold zStS
  rw [vuN (by omega), vuS, vuN (by omega), vuN (by omega), vuN (by omega), vuN (by omega)]
theorem zSt_8 {c v : Nat} (hv : v < 40) : zStS S c v (9 + 10 * v + 8) = S (9 + 10 * v + 8) + 1 := by
  unfold zStS
  rw [vuS, vuN (by omega), vuN (by omega), vuN (by omega), vuN (by omega), vuN (by omega)]
theorem zSt_a {c v : Nat} (hv : v < 40) : zStS S c v (463 + 3 * S 5) = v ∧ zStS S c v (463 + 3 * S 5 + 1) = c ∧ zStS S c v (463 + 3 * S 5 + 2) = 0 := by
  unfold zStS
  refine ⟨?_, ?_, ?_⟩
  · rw [vuN (by omega), vuN (by omega), vuN (by omega), vuN (by omega), vuN (by omega), vuS]
  · rw [vuN (by omega), vuN (by omega), vuN (by omega), vuN (by omega), vuS]
  · rw [vuN (by omega), vuN (by omega), vuN (by omega), vuS]
theorem rAdd_in {cap v : Nat} {R : Rw} (h : R.1 < cap) : rAdd cap R v = (R.1 + 1, va_up R.2 R.1 v) := if_pos h
theorem RS.storm {Y : ST} {c v : Nat} (h : RS Y S) (hc : c < 2) (hv : v < S 4) (h16 : S 5 < 16) (hg : mGv S v c = false) : RS (adS Y v c) (zStS S c v) := by
  have hn3 := h.n4 (k := 3) (by decide) (by decide)
  have n11 := h.n5 (k := 11) (by decide) (by decide)
  have n12 := h.n5 (k := 12) (by decide) (by decide)
  have n13 := h.n5 (k := 13) (by decide) (by decide)
  obtain ⟨hY, hC, hN, hL, hG, hK, hU⟩ := h
  have h40 := hN.1
  have h10 := hK.1
  have hv40 : v < 40 := by omega
  have e4 : zStS S c v 4 = S 4 := zSt_n (by omega) (by omega) (by omega) (by omega)
  have e7 : zStS S c v 7 = S 7 := zSt_n (by omega) (by omega) (by omega) (by omega)
  have d11 : (adS Y v c).2 11 = rAdd 16 (Y.2 11) v := by show va_up (va_up (va_up (va_up Y.2 11 (rAdd 16 (Y.2 11) v)) 12 (rAdd 16 (Y.2 12) c)) 13 (rAdd 16 (Y.2 13) 0)) 3 (rCh (Y.2 3) v (rA (Y.2 3) v + 1)) 11 = _; rw [vuN (by omega), vuN (by omega), vuN (by omega), vuS]
  have d12 : (adS Y v c).2 12 = rAdd 16 (Y.2 12) c := by show va_up (va_up (va_up (va_up Y.2 11 (rAdd 16 (Y.2 11) v)) 12 (rAdd 16 (Y.2 12) c)) 13 (rAdd 16 (Y.2 13) 0)) 3 (rCh (Y.2 3) v (rA (Y.2 3) v + 1)) 12 = _; rw [vuN (by omega), vuN (by omega), vuS]
  have d13 : (adS Y v c).2 13 = rAdd 16 (Y.2 13) 0 := by show va_up (va_up (va_up (va_up Y.2 11 (rAdd 16 (Y.2 11) v)) 12 (rAdd 16 (Y.2 12) c)) 13 (rAdd 16 (Y.2 13) 0)) 3 (rCh (Y.2 3) v (rA (Y.2 3) v + 1)) 13 = _; rw [vuN (by omega), vuS]
  have d3 : (adS Y v c).2 3 = rCh (Y.2 3) v (rA (Y.2 3) v + 1) := by show va_up (va_up (va_up (va_up Y.2 11 (rAdd 16 (Y.2 11) v)) 12 (rAdd 16 (Y.2 12) c)) 13 (rAdd 16 (Y.2 13) 0)) 3 (rCh (Y.2 3) v (rA (Y.2 3) v + 1)) 3 = _; rw [vuS]
  have dn : ∀ k, k ≠ 3 → k ≠ 11 → k ≠ 12 → k ≠ 13 → (adS Y v c).2 k = Y.2 k := fun k a b d e => by show va_up (va_up (va_up (va_up Y.2 11 (rAdd 16 (Y.2 11) v)) 12 (rAdd 16 (Y.2 12) c)) 13 (rAdd 16 (Y.2 13) 0)) 3 (rCh (Y.2 3) v (rA (Y.2 3) v + 1)) k = _; rw [vuN a, vuN e, vuN d, vuN b]
  have e3 : rCh (Y.2 3) v (rA (Y.2 3) v + 1) = ((Y.2 3).1, va_up (Y.2 3).2 v ((Y.2 3).2 v + 1)) := by
    unfold rCh
    rw [if_pos (by rw [hn3]; exact hv), rA_in (by rw [hn3]; exact hv)]
  rw [rAdd_in (by rw [n11]; exact h16)] at d11
  rw [rAdd_in (by rw [n12]; exact h16)] at d12
  rw [rAdd_in (by rw [n13]; exact h16)] at d13
  rw [e3] at d3
  refine ⟨hY.cg rfl (zSt_n (by omega) (by omega) (by omega) (by omega)), hC.cg (dn 0 (by omega) (by omega) (by omega) (by omega)) (fun i hi => zSt_n (by omega) (by omega) (by omega) (by omega)), ?_, hL.cg (fun a ha => dn _ (by omega) (by omega) (by omega) (by omega)) (Nat.le_of_eq e4.symm) (fun x _ _ => zSt_n (by omega) (by omega) (by omega) (by omega)), ?_, hK.cg (fun k _ _ => dn _ (by omega) (by omega) (by omega) (by omega)) e7 (Nat.le_of_eq e4.symm) (fun x _ _ => zSt_n (by omega) (by omega) (by omega) (by omega)), ?_, ?_⟩
  · obtain ⟨c1, c2, c3, c4⟩ := hN
    refine ⟨by rw [e4]; exact c1, fun k k1 k2 => ?_, fun n hn => ?_, fun a b ha hb e => ?_⟩
    · rw [e4]
      by_cases q : k = 3
      · subst q; rw [d3]; exact hn3
      · rw [dn k q (by omega) (by omega) (by omega)]; exact c2 k k1 k2
    · rw [e4] at hn
      obtain ⟨q1, q2, q3, q4⟩ := c3 n hn
      have hl6 := q1.2.1
      rw [dn 1 (by omega) (by omega) (by omega) (by omega), dn 2 (by omega) (by omega) (by omega) (by omega), dn 4 (by omega) (by omega) (by omega) (by omega), d3]
      refine ⟨q1.cg (zSt_n (by omega) (by omega) (by omega) (by omega)) (fun j hj => zSt_n (by omega) (by omega) (by omega) (by omega)), by rw [zSt_n (by omega) (by omega) (by omega) (by omega)]; exact q2, ?_, by rw [zSt_n (by omega) (by omega) (by omega) (by omega)]; exact q4⟩
      show va_up (Y.2 3).2 v ((Y.2 3).2 v + 1) n = _
      by_cases e : n = v
      · subst e; rw [vuS, zSt_8 hv40, q3]
      · rw [vuN e, zSt_n (by omega) (by omega) (by omega) (by omega)]; exact q3
    · rw [e4] at ha hb
      rw [dn 1 (by omega) (by omega) (by omega) (by omega)] at e
      exact c4 a b ha hb e
  · obtain ⟨g1, g2, g3, g4⟩ := hG
    obtain ⟨za, zb, zc⟩ := zSt_a (S := S) (c := c) hv40
    have hgv := aN_f.mp hg
    have hold : ∀ g, g < S 5 → zStS S c v (463 + 3 * g) = S (463 + 3 * g) ∧ zStS S c v (463 + 3 * g + 1) = S (463 + 3 * g + 1) ∧ zStS S c v (463 + 3 * g + 2) = S (463 + 3 * g + 2) := fun g hg => ⟨zSt_n (by omega) (by omega) (by omega) (by omega), zSt_n (by omega) (by omega) (by omega) (by omega), zSt_n (by omega) (by omega) (by omega) (by omega)⟩
    rw [show rG (adS Y v c) (zStS S c v) = _ from rfl]
    unfold rG
    rw [zSt_5, e4, d11, d12, d13]
    refine ⟨h16, fun k k1 k2 => ?_, fun g hg2 => ?_, fun g k hg2 hk2 a b => ?_⟩
    · rcases (show k = 11 ∨ k = 12 ∨ k = 13 by omega) with rfl | rfl | rfl
      · rw [d11]; show _ + 1 = _; rw [n11]
      · rw [d12]; show _ + 1 = _; rw [n12]
      · rw [d13]; show _ + 1 = _; rw [n13]
    · show va_up (Y.2 11).2 (Y.2 11).1 v g = _ ∧ va_up (Y.2 12).2 (Y.2 12).1 c g = _ ∧ va_up (Y.2 13).2 (Y.2 13).1 0 g = _ ∧ _
      rw [n11, n12, n13]
      by_cases e : g = S 5
      · subst e
        rw [vuS, vuS, vuS, za, zb, zc]
        exact ⟨rfl, rfl, rfl, hv, hc⟩
      · obtain ⟨o1, o2, o3⟩ := hold g (by omega)
        rw [vuN e, vuN e, vuN e, o1, o2, o3]
        exact g3 g (by omega)
    · by_cases e : g = S 5
      · by_cases e' : k = S 5
        · omega
        · subst e
          obtain ⟨o1, o2, o3⟩ := hold k (by omega)
          rw [za, o1] at a
          rw [zb, o2] at b
          have := hgv k (by omega)
          rw [← a, ← b] at this
          simp at this
      · obtain ⟨p1, p2, p3⟩ := hold g (by omega)
        rw [p1] at a
        rw [p2] at b
        by_cases e' : k = S 5
        · subst e'
          rw [za] at a
          rw [zb] at b
          have := hgv g (by omega)
          rw [a, b] at this
          simp at this
        · obtain ⟨o1, o2, o3⟩ := hold k (by omega)
          rw [o1] at a
          rw [o2] at b
          exact g4 g k (by omega) (by omega) a b
  · rw [zSt_6, e4, hU.1]
    exact (sN_up (f := fun n => S (9 + 10 * n + 8)) (g := fun n => zStS S c v (9 + 10 * n + 8)) (i := v) (d := 1) hv (fun j hj q => zSt_n (x := 9 + 10 * j + 8) (by omega) (by omega) (by omega) (by omega)) (zSt_8 hv40)).symm
  · rw [e7, zSt_n (by omega) (by omega) (by omega) (by omega), hU.2]
    exact sN_cong fun k hk => (zSt_n (by omega) (by omega) (by omega) (by omega)).symm
theorem mNx_gv {c v : Nat} (h : mNx S c = some v) : mGv S v c = false := by
  have key : ∀ {q n : Nat} (t : Nat), mNd S c q n t = some v → mGv S v c = false := by
    intro q n t
    induction t with
    | zero => intro e; cases e
    | succ t ih =>
      intro e
      rw [mNd] at e
      split at e
      · exact ih e
      · rename_i z
        cases e
        simpa using z
  exact key _ h
theorem bB.storm {c v : Nat} (h : bB t S) (hc : c < 2) (hv : v < 40) (h16 : S 5 < 16) : bB (t + 1) (zStS S c v) := by
  intro x hx
  have hx0 := h x hx
  by_cases e1 : x = 5
  · subst e1; rw [zSt_5]; omega
  by_cases e2 : x = 6
  · subst e2; rw [zSt_6]; omega
  by_cases e3 : x = 9 + 10 * v + 8
  · subst e3; rw [zSt_8 hv]; omega
  obtain ⟨za, zb, zc⟩ := zSt_a (S := S) (c := c) hv
  by_cases e4 : x = 463 + 3 * S 5
  · subst e4; rw [za]; omega
  by_cases e5 : x = 463 + 3 * S 5 + 1
  · subst e5; rw [zb]; omega
  by_cases e6 : x = 463 + 3 * S 5 + 2
  · subst e6; rw [zc]; omega
  rw [zSt_n e1 e2 e3 (by omega)]; omega
theorem tz_storm (h : RX t X (S, sp, bf, sv, iz, rr, pd, ln, sts, td, ac)) (ht : t ≤ 600) (c : Int32) : RA (t + 1) (cStorm X c) (mxStorm S sp bf sv iz rr pd ln sts td ac c) := by
  have hs : RS X.1 S := h.1.1
  unfold cStorm mxStorm
  rcases inR_or c 2 with e | ⟨i, hi, hi31, rfl⟩
  · rw [e]; exact h.no
  rw [inR_i hi hi31, if_pos rfl, if_pos rfl, nI_clamp hi31, q_nx hs hi]
  cases e : mNx S i with
  | none => exact h.no
  | some v =>
    show RA _ (if 16 ≤ (X.1.2 11).1 then _ else _) (if S 5 = 16 then _ else _)
    rw [hs.n5 (k := 11) (by decide) (by decide)]
    have h16 := hs.2.2.2.2.1.1
    have hM : mOk S := RB.mOk h.1 (by omega)
    have hv := mNx_lt hM hi e
    have h40 := hs.le40
    by_cases q : S 5 = 16
    · rw [if_pos (by omega), if_pos q]; exact h.no
    · rw [if_neg (by omega), if_neg q]
      refine h.yes ?_ ⟨hs.storm hi hv (by omega) (mNx_gv e), bB.storm (show bB t S from h.1.2) hi (by omega) (by omega)⟩
      rw [rAdd_in (by rw [hs.n5 (by decide) (by decide)]; omega), zSt_5]
      show nI ((X.1.2 11).1 + 1 - 1) = _
      rw [hs.n5 (by decide) (by decide)]
end
