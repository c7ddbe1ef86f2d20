/-! the pad, letter by letter -/
theorem nI_i2l {n : Nat} (h : n < 2 ^ 31) : (nI n).toInt64 = lN n := by
  apply Int64.toInt_inj.mp
  rw [Int32.toInt_toInt64, nI_toInt h, lB_toInt (by omega)]
theorem put_1 {X : XS} {w : Nat} (h1 : 33 ≤ w) (h2 : w ≤ 126) (hl : X.2.1.1.1 < 80) : cPut X w = (nI (X.2.1.1.1 + 1), xPd X (rAdd 80 X.2.1.1 w) X.2.1.2) := by
  have e : sgC 8 w 0 = 1 := by
    rw [sgC_s (by omega) (by omega), show w / 256 = 0 by omega, sgC_z (by decide), if_pos rfl]
  have e2 : ptR X.2.1.1 w 1 1 = rAdd 80 X.2.1.1 w := by
    show rAdd 80 X.2.1.1 (w / 256 ^ (1 - 1 - 0) % 256) = _
    rw [show w / 256 ^ (1 - 1 - 0) % 256 = w by show w / 1 % 256 = w; omega]
  unfold cPut
  rw [e, if_neg (by decide), if_neg (by omega), e2, rAdd_in hl]
def chR (P : Rw) (cz : Nat) : Nat → Rw
  | 0 => P
  | k + 1 => rAdd 80 (chR P cz k) (97 + cz / 2 ^ (4 + 2 * k) % 4)
theorem chR_ok {P : Rw} {cz : Nat} : ∀ {k : Nat}, P.1 + k ≤ 80 → (chR P cz k).1 = P.1 + k ∧ (∀ j, j < P.1 → (chR P cz k).2 j = P.2 j) ∧ ∀ j, j < k → (chR P cz k).2 (P.1 + j) = 97 + cz / 2 ^ (4 + 2 * j) % 4
  | 0, _ => ⟨rfl, fun _ _ => rfl, fun j hj => absurd hj (Nat.not_lt_zero j)⟩
  | k + 1, h => by
    obtain ⟨a, b, c⟩ := chR_ok (P := P) (cz := cz) (k := k) (by omega)
    show (rAdd 80 (chR P cz k) _).1 = _ ∧ (∀ j, j < P.1 → (rAdd 80 (chR P cz k) _).2 j = _) ∧ ∀ j, j < k + 1 → (rAdd 80 (chR P cz k) _).2 _ = _
    rw [rAdd_in (by omega)]
    refine ⟨by show (chR P cz k).1 + 1 = _; omega, fun j hj => ?_, fun j hj => ?_⟩
    · show va_up _ _ _ j = _
      rw [vuN (by omega)]; exact b j hj
    · show va_up _ _ _ (P.1 + j) = _
      by_cases e : j = k
      · subst e; rw [← a, vuS]
      · rw [vuN (by omega)]; exact c j (by omega)
theorem prd_cong {t f g : Nat → Nat} : ∀ {i : Nat}, (∀ j, j < i → f j = g j) → prd t f i = prd t g i
  | 0, _ => rfl
  | i + 1, h => by
    show (prd t f i).bind _ = (prd t g i).bind _
    rw [prd_cong (i := i) (fun j hj => h j (by omega)), h i (Nat.lt_succ_self i)]
/-- ready for a name, b names told; in a name, b names told ahead of it -/
def BS (X : XS) (b : Nat) : Prop := ∃ T : Rw, prd X.2.1.2.2 X.2.1.1.2 X.2.1.1.1 = some (0, 0, T) ∧ T.1 = b ∧ ∀ i, i < b → kK (T.2 i)
def QS (X : XS) (b : Nat) : Prop := ∃ (κ L : Nat) (T : Rw), prd X.2.1.2.2 X.2.1.1.2 X.2.1.1.1 = some (κ, L, T) ∧ kK κ ∧ 2 ≤ L ∧ T.1 = b ∧ ∀ i, i < b → kK (T.2 i)
theorem BS_0 {X : XS} (h : X.2.1.1.1 = 0) : BS X 0 := ⟨(0, X.2.1.2.2), by rw [h]; rfl, rfl, fun i hi => absurd hi (Nat.not_lt_zero i)⟩
/-- letters from a state that is ready for a name -/
theorem QS_run {X Z : XS} {b L : Nat} (h : BS X b) (ht : Z.2.1.2.2 = X.2.1.2.2) (h1 : Z.2.1.1.1 = X.2.1.1.1 + L) (h2 : 2 ≤ L) (h6 : L ≤ 6) (hs : ∀ j, j < X.2.1.1.1 → Z.2.1.1.2 j = X.2.1.1.2 j) (hl : ∀ j, j < L → 97 ≤ Z.2.1.1.2 (X.2.1.1.1 + j) ∧ Z.2.1.1.2 (X.2.1.1.1 + j) ≤ 122) : QS Z b := by
  obtain ⟨T, a, c, d⟩ := h
  have e : prd Z.2.1.2.2 Z.2.1.1.2 X.2.1.1.1 = some (0, 0, T) := by
    rw [ht, prd_cong hs]; exact a
  have r := prd_run e L h6 hl
  exact ⟨_, L, T, by rw [h1]; exact r, kK_of (kB_is h2 h6 hl), h2, c, d⟩
theorem QS_puts {X : XS} {b cz : Nat} (h : BS X b) (h80 : X.2.1.1.1 + 6 ≤ 80) : QS (xPd X (chR X.2.1.1 cz (2 + cz % 5)) X.2.1.2) b := by
  obtain ⟨a, c, d⟩ := chR_ok (P := X.2.1.1) (cz := cz) (k := 2 + cz % 5) (by omega)
  refine QS_run h rfl a (by omega) (by omega) c (fun j hj => ?_)
  show 97 ≤ (chR X.2.1.1 cz (2 + cz % 5)).2 (X.2.1.1.1 + j) ∧ (chR X.2.1.1 cz (2 + cz % 5)).2 (X.2.1.1.1 + j) ≤ 122
  rw [d j hj]; omega
theorem kO_44 : kO 44 = 0 := by decide
theorem kK_add {T : Rw} {b κ : Nat} (hb : T.1 = b) (hk : kK κ) (h : ∀ i, i < b → kK (T.2 i)) (h27 : b < 27) : (rAdd 27 T κ).1 = b + 1 ∧ ∀ i, i < b + 1 → kK ((rAdd 27 T κ).2 i) := by
  rw [rAdd_in (by omega)]
  refine ⟨by show T.1 + 1 = _; omega, fun i hi => ?_⟩
  show kK (va_up T.2 T.1 κ i)
  by_cases e : i = T.1
  · rw [e, vuS]; exact hk
  · rw [vuN e]; exact h i (by omega)
theorem BS_comma {X : XS} {b : Nat} (h : QS X b) (hl : X.2.1.1.1 < 80) (h27 : b < 27) : BS (xPd X (rAdd 80 X.2.1.1 44) X.2.1.2) (b + 1) := by
  obtain ⟨κ, L, T, a, c, d, e, f⟩ := h
  obtain ⟨g1, g2⟩ := kK_add e c f h27
  refine ⟨rAdd 27 T κ, ?_, g1, g2⟩
  show prd X.2.1.2.2 (rAdd 80 X.2.1.1 44).2 (rAdd 80 X.2.1.1 44).1 = _
  rw [rAdd_in hl]
  have e1 : prd X.2.1.2.2 (va_up X.2.1.1.2 X.2.1.1.1 44) X.2.1.1.1 = some (κ, L, T) := by
    rw [prd_cong (g := X.2.1.1.2) (fun j hj => vuN (by omega))]; exact a
  show prd X.2.1.2.2 (va_up X.2.1.1.2 X.2.1.1.1 44) (X.2.1.1.1 + 1) = _
  rw [prd_s e1, vuS, pst_c (by rw [kO_44]; intro z; exact z.1 rfl) rfl d]
theorem QS_end {X : XS} {b : Nat} (h : QS X b) (h27 : b < 27) : ∃ T : Rw, xRs X = (none, T) ∧ T.1 = b + 1 ∧ ∀ i, i < b + 1 → kK (T.2 i) := by
  obtain ⟨κ, L, T, a, c, d, e, f⟩ := h
  obtain ⟨g1, g2⟩ := kK_add e c f h27
  refine ⟨rAdd 27 T κ, ?_, g1, g2⟩
  show pRs X.2.1.2.2 X.2.1.1 = _
  rw [pRs_e (prd_le a) a, if_neg (by show ¬ L < 2; omega)]
theorem chR_B {P : Rw} {cz : Nat} (h : rB P (2 ^ 31)) : ∀ k, rB (chR P cz k) (2 ^ 31)
  | 0 => h
  | k + 1 => rB_add (chR_B h k) (by omega)
/-- an office is well -/
def IX (t : Nat) (X : XS) : Prop := IY t X.1 ∧ rB X.2.1.1 (2 ^ 31)
theorem IX.ok {t : Nat} {X : XS} (h : IX t X) (ht : t ≤ 1000) : XOk X := ⟨(h.1.SOk ht).1, h.2, (h.1.SOk ht).2⟩
theorem rB_0 {f : Nat → Nat} {B : Nat} : rB (0, f) B := fun i hi => absurd hi (Nat.not_lt_zero i)
