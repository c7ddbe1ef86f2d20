/-! what each change answers and makes, by what an office keeps to -/
section
variable {t : Nat} {X : XS}
theorem IX.td (h : IX t X) : IX t (xTd X) := h
theorem IX.mono {u : Nat} (h : IX t X) (hu : t ≤ u) : IX u X := ⟨h.1.mono hu, h.2⟩
theorem IX.rc {u : Nat} {Z : ST} (h : IX t X) (hz : IY u Z) : IX u (xRc X Z) := ⟨hz, h.2⟩
theorem inL_n {c k : Nat} (hc : c < 2) (hk : k < 3) : inL (nI c) (nI k) = true ∧ (nI c).toNatClampNeg = c ∧ (nI k).toNatClampNeg = k ∧ ixL (nI c) (nI k) = lix c k := ⟨inL_nI hc hk, nI_clamp (by omega), nI_clamp (by omega), ixL_nI hc hk⟩
theorem fil_v {c k : Nat} {T : Rw} (h : IX t X) (hc : c < 2) (hk : k < 3) (hx : xRs X = (none, T)) (hT : ∀ i, i < T.1 → kK (T.2 i)) (h1 : 1 ≤ T.1) :
    cFill X (nI c) (nI k) = (-5, xTd X) ∨ cFill X (nI c) (nI k) = (-4, xTd X) ∨ ∃ (q : Nat) (Z : XS), cFill X (nI c) (nI k) = (nI q, Z) ∧ IX (t + 1) Z ∧ 1 ≤ q ∧ q ≤ 8 ∧ (Z.1.2 (5 + lix c k)).1 = q ∧ Z.2.1.1.1 = 0 ∧ (X.1.2 1).1 ≤ (Z.1.2 1).1 := by
  obtain ⟨e1, e2, e3, e4⟩ := inL_n hc hk
  have e : cFill X (nI c) (nI k) = cFil X c k := by unfold cFill; rw [e1, if_pos rfl, e2, e3]
  rw [e]
  unfold cFil
  rw [hx]
  show (if (none : Option Nat).isSome = true then _ else if mJ X.1 T c (5 + lix c k) = false then (-5, xTd X) else if 8 < (X.1.2 (5 + lix c k)).1 + T.1 ∨ 40 < knW X.1 T then (-4, xTd X) else (nI ((flS X.1 T (lix c k) T.1).2 (5 + lix c k)).1, xPd (xRc X (flS X.1 T (lix c k) T.1)) (0, X.2.1.1.2) T)) = (-5, xTd X) ∨ (if (none : Option Nat).isSome = true then _ else if mJ X.1 T c (5 + lix c k) = false then (-5, xTd X) else if 8 < (X.1.2 (5 + lix c k)).1 + T.1 ∨ 40 < knW X.1 T then (-4, xTd X) else (nI ((flS X.1 T (lix c k) T.1).2 (5 + lix c k)).1, xPd (xRc X (flS X.1 T (lix c k) T.1)) (0, X.2.1.1.2) T)) = (-4, xTd X) ∨ ∃ (q : Nat) (Z : XS), (if (none : Option Nat).isSome = true then _ else if mJ X.1 T c (5 + lix c k) = false then (-5, xTd X) else if 8 < (X.1.2 (5 + lix c k)).1 + T.1 ∨ 40 < knW X.1 T then (-4, xTd X) else (nI ((flS X.1 T (lix c k) T.1).2 (5 + lix c k)).1, xPd (xRc X (flS X.1 T (lix c k) T.1)) (0, X.2.1.1.2) T)) = (nI q, Z) ∧ _
  rw [if_neg (by decide)]
  by_cases a : mJ X.1 T c (5 + lix c k) = false
  · rw [if_pos a]; exact Or.inl rfl
  · rw [if_neg a]
    by_cases b : 8 < (X.1.2 (5 + lix c k)).1 + T.1 ∨ 40 < knW X.1 T
    · rw [if_pos b]; exact Or.inr (Or.inl rfl)
    · rw [if_neg b]
      right; right
      obtain ⟨f1, f2, f3, f4, f5, -⟩ := fil_ok h.1 hc hk hT (bool_t a) (by omega) (by omega) T.1 (Nat.le_refl _)
      exact ⟨_, _, rfl, ⟨f1.mono (Nat.le_succ t), rB_0⟩, by rw [f2]; omega, by rw [f2]; omega, rfl, rfl, f3⟩
theorem nmk_v {T : Rw} (h : IX t X) (hx : xRs X = (none, T)) (hT : ∀ i, i < T.1 → kK (T.2 i)) (h1 : T.1 = 1) :
    cNmk X = (-4, xTd X) ∨ (X.1.2 14).1 < 10 ∧ ∃ Z : XS, cNmk X = (nI (X.1.2 14).1, Z) ∧ IX (t + 1) Z ∧ (Z.1.2 14).1 = (X.1.2 14).1 + 1 ∧ (Z.1.2 15).2 (X.1.2 14).1 = 0 ∧ Z.2.1.1.1 = 0 := by
  have eo : xOne X = true := by unfold xOne; rw [hx]; show (true && T.1 == 1) = true; rw [h1]; rfl
  unfold cNmk
  rw [eo, if_pos rfl, hx]
  by_cases b : 10 ≤ (X.1.2 14).1 ∨ 40 < knW X.1 T
  · left; rw [if_pos b]
  · right
    rw [if_neg b]
    have e0 : rA T 0 = T.2 0 := rA_in (by omega)
    have hk0 := hT 0 (by omega)
    obtain ⟨a1, a2, a3, a4, a5, a6, a7, a8⟩ := h.1.learn hk0 (fun e => by
      have : knW X.1 T = (X.1.2 1).1 + 1 := by
        unfold knW; rw [h1]; show _ + (0 + if (!(rPl (X.1.2 1) (T.2 0)).isSome) = true then 1 else 0) = _; rw [e]; rfl
      omega)
    have e14 := a4 14 (by decide)
    obtain ⟨d1, d2, d3⟩ := a1.adk a2 (by rw [e14]; omega)
    refine ⟨by omega, xPd (xRc X (adK (lrn X.1 (T.2 0)) (lrnN X.1 (T.2 0)))) (0, X.2.1.1.2) T, ?_, ⟨d1.mono (Nat.le_succ t), rB_0⟩, ?_, ?_, rfl⟩
    · show (nI ((rAdd 10 ((lrn X.1 (rA T 0)).2 14) (lrnN X.1 (rA T 0))).1 - 1), xPd (xRc X (adK (lrn X.1 (rA T 0)) (lrnN X.1 (rA T 0)))) (0, X.2.1.1.2) T) = _
      rw [e0, rAdd_in (by rw [e14]; omega), e14]; rfl
    · show ((adK (lrn X.1 (T.2 0)) (lrnN X.1 (T.2 0))).2 14).1 = _
      rw [d2, e14]
    · show ((adK (lrn X.1 (T.2 0)) (lrnN X.1 (T.2 0))).2 15).2 _ = 0
      rw [d3, e14]; exact vuS
theorem nxN_v (h : IY t X.1) {c v : Nat} (hc : c < 2) (e : nxN X.1 c = some v) : v < (X.1.2 1).1 ∧ (X.1.2 2).2 v = 0 ∧ wGv X.1 v c = false := by
  unfold nxN at e
  obtain ⟨i, e1, e2⟩ := Option.map_eq_some_iff.mp e
  obtain ⟨a, b, -⟩ := fF_s e1
  obtain ⟨d1, d2⟩ := (h.2.2.1 _ (lix_lt hc (Nat.mod_lt X.1.1 (by decide : 0 < 3)))).2 i a
  rw [← e2]
  exact ⟨d1, d2, by simpa using b⟩
theorem stm_n {c : Nat} (hc : c < 2) (e : nxN X.1 c = none) : cStorm X (nI c) = (-5, X) := by
  unfold cStorm; rw [inR_i hc (by omega), if_pos rfl, nI_clamp (by omega), e]
theorem stm_f {c v : Nat} (hc : c < 2) (e : nxN X.1 c = some v) (h16 : (X.1.2 11).1 = 16) : cStorm X (nI c) = (-4, X) := by
  unfold cStorm; rw [inR_i hc (by omega), if_pos rfl, nI_clamp (by omega), e]
  exact if_pos (by omega)
theorem stm_s (h : IX t X) {c v : Nat} (hc : c < 2) (e : nxN X.1 c = some v) (h16 : (X.1.2 11).1 ≠ 16) : ∃ Z : XS, cStorm X (nI c) = (nI (X.1.2 11).1, Z) ∧ IX (t + 1) Z ∧ (Z.1.2 11).1 = (X.1.2 11).1 + 1 ∧ (Z.1.2 11).2 (X.1.2 11).1 = v ∧ (Z.1.2 12).2 (X.1.2 11).1 = c ∧ (Z.1.2 13).2 (X.1.2 11).1 = 0 := by
  have hg := h.1.g16
  obtain ⟨a, b, d⟩ := nxN_v h.1 hc e
  have h16' : (X.1.2 11).1 < 16 := by omega
  have n12 := h.1.gk (k := 12) (by decide) (by decide)
  have n13 := h.1.gk (k := 13) (by decide) (by decide)
  have d11 : (adS X.1 v c).2 11 = ((X.1.2 11).1 + 1, va_up (X.1.2 11).2 (X.1.2 11).1 v) := by
    show va_up (va_up (va_up (va_up X.1.2 11 (rAdd 16 (X.1.2 11) v)) 12 (rAdd 16 (X.1.2 12) c)) 13 (rAdd 16 (X.1.2 13) 0)) 3 (rCh (X.1.2 3) v (rA (X.1.2 3) v + 1)) 11 = _
    rw [vuN (by omega), vuN (by omega), vuN (by omega), vuS, rAdd_in h16']
  have d12 : (adS X.1 v c).2 12 = ((X.1.2 11).1 + 1, va_up (X.1.2 12).2 (X.1.2 11).1 c) := by
    show va_up (va_up (va_up (va_up X.1.2 11 (rAdd 16 (X.1.2 11) v)) 12 (rAdd 16 (X.1.2 12) c)) 13 (rAdd 16 (X.1.2 13) 0)) 3 (rCh (X.1.2 3) v (rA (X.1.2 3) v + 1)) 12 = _
    rw [vuN (by omega), vuN (by omega), vuS, rAdd_in (by omega), n12]
  have d13 : (adS X.1 v c).2 13 = ((X.1.2 11).1 + 1, va_up (X.1.2 13).2 (X.1.2 11).1 0) := by
    show va_up (va_up (va_up (va_up X.1.2 11 (rAdd 16 (X.1.2 11) v)) 12 (rAdd 16 (X.1.2 12) c)) 13 (rAdd 16 (X.1.2 13) 0)) 3 (rCh (X.1.2 3) v (rA (X.1.2 3) v + 1)) 13 = _
    rw [vuN (by omega), vuS, rAdd_in (by omega), n13]
  refine ⟨xRc X (adS X.1 v c), ?_, h.rc (h.1.storm hc a h16' b d), ?_, ?_, ?_, ?_⟩
  · unfold cStorm; rw [inR_i hc (by omega), if_pos rfl, nI_clamp (by omega), e]
    show (if 16 ≤ (X.1.2 11).1 then _ else (nI ((rAdd 16 (X.1.2 11) v).1 - 1), xRc X (adS X.1 v c))) = _
    rw [if_neg (by omega), rAdd_in h16']; rfl
  · show ((adS X.1 v c).2 11).1 = _; rw [d11]
  · show ((adS X.1 v c).2 11).2 _ = _; rw [d11]; exact vuS
  · show ((adS X.1 v c).2 12).2 _ = _; rw [d12]; exact vuS
  · show ((adS X.1 v c).2 13).2 _ = _; rw [d13]; exact vuS
theorem stk_n {c k p : Nat} (hc : c < 2) (hk : k < 3) (hp : (X.1.2 (5 + lix c k)).1 ≤ p) (h31 : p < 2 ^ 31) : cStrike X (nI c) (nI k) (nI p) = (-1, X) := by
  obtain ⟨e1, e2, e3, e4⟩ := inL_n hc hk
  unfold cStrike; rw [e1, e4, inR_nI h31, if_neg (by simp; omega)]
theorem stk_s (h : IX t X) {c k p : Nat} (hc : c < 2) (hk : k < 3) (hp : p < (X.1.2 (5 + lix c k)).1) : ∃ Z : XS, cStrike X (nI c) (nI k) (nI p) = (nI ((X.1.2 (5 + lix c k)).2 p), Z) ∧ IX (t + 1) Z ∧ stO Z.1 ((X.1.2 (5 + lix c k)).2 p) c = false ∧ (Z.1.2 1).1 = (X.1.2 1).1 := by
  obtain ⟨e1, e2, e3, e4⟩ := inL_n hc hk
  have h8 := h.1.l8 (lix_lt hc hk)
  have hd := h.1.drop (lix_lt hc hk) hp
  refine ⟨xRc X (X.1.1, va_up X.1.2 (5 + lix c k) (rDrop (X.1.2 (5 + lix c k)) p)), ?_, h.rc (hd.mono (Nat.le_succ t)), h.1.struck hc hk hp, ?_⟩
  · unfold cStrike; rw [e1, e4, inR_i hp (by omega), Bool.and_self, if_pos rfl, nI_clamp (by omega), rA_in hp]
  · show (va_up X.1.2 (5 + lix c k) _ 1).1 = _; rw [vuN (by omega)]
theorem hrm_n {y : Int32} (h0 : (X.1.2 11).1 = 0) : cHarm X (nI 0) y = (-1, X) := by
  unfold cHarm; rw [h0]; rfl
theorem hrm_s (h : IX t X) {g b : Nat} (hg : g < (X.1.2 11).1) (h1 : 1 ≤ b) (hb : b ≤ 50) : ∃ Z : XS, cHarm X (nI g) (nI b) = (nI ((X.1.2 13).2 g + b), Z) ∧ IX (t + 1) Z ∧ (Z.1.2 4).2 ((X.1.2 11).2 g) = (X.1.2 4).2 ((X.1.2 11).2 g) + b ∧ (Z.1.2 1).1 = (X.1.2 1).1 := by
  have h16 := h.1.g16
  have h40 := h.1.n40
  have n13 := h.1.gk (k := 13) (by decide) (by decide)
  have n4 := h.1.nk (k := 4) (by decide) (by decide)
  have hv := (h.1.2.2.2.2.1.2.2.1 g hg).1
  have e11 : rA (X.1.2 11) g = (X.1.2 11).2 g := rA_in hg
  have e13 : rA (X.1.2 13) g = (X.1.2 13).2 g := rA_in (by omega)
  have d4 : (hmS X.1 g b).2 4 = ((X.1.2 4).1, va_up (X.1.2 4).2 ((X.1.2 11).2 g) ((X.1.2 4).2 ((X.1.2 11).2 g) + b)) := by
    show va_up (va_up X.1.2 4 (rCh (X.1.2 4) (rA (X.1.2 11) g) (rA (X.1.2 4) (rA (X.1.2 11) g) + b))) 13 (rCh (X.1.2 13) g (rA (X.1.2 13) g + b)) 4 = _
    rw [vuN (by decide), vuS, e11, rA_in (by omega), rCh_in (by omega)]
  have d13 : (hmS X.1 g b).2 13 = ((X.1.2 13).1, va_up (X.1.2 13).2 g ((X.1.2 13).2 g + b)) := by
    show va_up (va_up X.1.2 4 (rCh (X.1.2 4) (rA (X.1.2 11) g) (rA (X.1.2 4) (rA (X.1.2 11) g) + b))) 13 (rCh (X.1.2 13) g (rA (X.1.2 13) g + b)) 13 = _
    rw [vuS, e13, rCh_in (by omega)]
  refine ⟨xRc X (hmS X.1 g b), ?_, h.rc (h.1.harm hg hb), ?_, ?_⟩
  · unfold cHarm; rw [inR_i hg (by omega), if_pos rfl, inD_t h1 hb (by decide), if_pos rfl, nI_clamp (by omega), nI_clamp (by omega), d13, rA_in (by show g < (X.1.2 13).1; omega)]
    show (nI (va_up (X.1.2 13).2 g ((X.1.2 13).2 g + b) g), _) = _
    rw [vuS]
  · show ((hmS X.1 g b).2 4).2 _ = _; rw [d4]; exact vuS
  · show (va_up (va_up X.1.2 4 (rCh (X.1.2 4) (rA (X.1.2 11) g) (rA (X.1.2 4) (rA (X.1.2 11) g) + b))) 13 (rCh (X.1.2 13) g (rA (X.1.2 13) g + b)) 1).1 = _
    rw [vuN (by decide), vuN (by decide)]
theorem ifr_v {q : Nat} (h1 : 1 ≤ q) (h2 : q ≤ 99) : cIfR X.1 (nI q) = nI (hdB X.1 q) := by
  unfold cIfR; rw [inD_t h1 h2 (by decide), if_pos rfl, nI_clamp (by omega)]
theorem end_v (h : IX t X) (ht : t ≤ 900) : ∃ Z : XS, cEnd X = (nI (hdB X.1 ((X.1.2 0).2 0)), Z) ∧ IX (t + 1) Z ∧ sN (Z.1.2 2).2 (Z.1.2 2).1 = sN (X.1.2 2).2 (X.1.2 2).1 + hdB X.1 ((X.1.2 0).2 0) ∧ (Z.1.2 11).1 = 0 ∧ Z.1.1 = X.1.1 + 1 := by
  obtain ⟨a, b, c, d, e⟩ := h.1.endY
  have hy := h.1.2.2.2.2.2.2.1
  rw [(h.1.set3 (i := 0) (by decide)).1] at b e
  refine ⟨xRc X (eyS X.1), ?_, h.rc a, b, c, d⟩
  unfold cEnd
  rw [if_pos (by omega), e]
theorem apo_n (h : IX t X) (h0 : (X.1.2 14).1 = 0) : cApo X (nI 0) = (-1, X) := by
  unfold cApo; rw [h.1.sk (k := 15) (by decide) (by decide), h0]; rfl
theorem apo_z (h : IX t X) (h0 : 0 < (X.1.2 14).1) (hz : (X.1.2 15).2 0 = 0) : cApo X (nI 0) = (-5, X) := by
  have n15 := h.1.sk (k := 15) (by decide) (by decide)
  unfold cApo; rw [inR_i (by omega) (by decide), if_pos rfl, nI_clamp (by decide), rA_in (by omega), hz]; rfl
theorem apo_s (h : IX t X) (h0 : 0 < (X.1.2 14).1) (hz : (X.1.2 15).2 0 ≠ 0) : ∃ Z : XS, cApo X (nI 0) = (nI ((X.1.2 15).2 0 - 1), Z) ∧ IX (t + 1) Z ∧ Z.1.2 0 = X.1.2 0 := by
  have n15 := h.1.sk (k := 15) (by decide) (by decide)
  have e15 : rA (X.1.2 15) 0 = (X.1.2 15).2 0 := rA_in (by omega)
  have d15 : (apS X.1 0).2 15 = ((X.1.2 15).1, va_up (X.1.2 15).2 0 ((X.1.2 15).2 0 - 1)) := by
    show va_up (va_up X.1.2 15 (rCh (X.1.2 15) 0 (rA (X.1.2 15) 0 - 1))) 16 (rCh (X.1.2 16) 0 (rA (X.1.2 16) 0 + 1)) 15 = _
    rw [vuN (by decide), vuS, e15, rCh_in (by omega)]
  refine ⟨xRc X (apS X.1 0), ?_, h.rc (h.1.apo (by omega)), ?_⟩
  · unfold cApo; rw [inR_i (by omega) (by decide), if_pos rfl, nI_clamp (by decide), e15, if_neg (by omega), d15, rA_in (by show 0 < (X.1.2 15).1; omega)]
    show (nI (va_up (X.1.2 15).2 0 ((X.1.2 15).2 0 - 1) 0), _) = _
    rw [vuS]
  · show va_up (va_up X.1.2 15 (rCh (X.1.2 15) 0 (rA (X.1.2 15) 0 - 1))) 16 (rCh (X.1.2 16) 0 (rA (X.1.2 16) 0 + 1)) 0 = _
    rw [vuN (by decide), vuN (by decide)]
theorem set_s (h : IX t X) {i v : Nat} (hi : i < 3) (h1 : 1 ≤ v) (h2 : v ≤ if i = 2 then 6 else 99) : ∃ Z : XS, cSet X (nI i) (nI v) = (nI ((X.1.2 0).2 i), Z) ∧ IX t Z ∧ (Z.1.2 0).2 i = v := by
  have h99 : v ≤ 99 := by split at h2 <;> omega
  have hh : hiS (nI i) = nI (if i = 2 then 6 else 99) := by
    unfold hiS
    by_cases e : i = 2
    · rw [if_pos e, if_pos (by rw [e])]
    · rw [if_neg e, if_neg (fun z => e ((nI_eqi (by omega) (by decide)).mp z))]
  obtain ⟨e1, -⟩ := h.1.set3 hi
  refine ⟨xRc X (X.1.1, va_up X.1.2 0 (rCh (X.1.2 0) i v)), ?_, h.rc (h.1.set hi h1 h99), ?_⟩
  · unfold cSet; rw [inD_t (Nat.zero_le i) (by omega) (by decide), hh, inD_t h1 h2 (by split <;> decide), Bool.and_self, if_pos rfl, nI_clamp (by omega), nI_clamp (by omega), e1]
  · show (va_up X.1.2 0 (rCh (X.1.2 0) i v) 0).2 i = v
    rw [vuS, rCh_in (by rw [h.1.1.1]; exact hi)]; exact vuS
theorem wip_v : cWipe X = (nI X.2.1.1.1, xPd X (0, X.2.1.1.2) X.2.1.2) := rfl
theorem nI_ne {i : Nat} (h : i < 2 ^ 31) {z : Int32} (hz : z < 0) : ¬ nI i = z := fun e => absurd (e ▸ hz) (nI_pos h)
theorem XAt.p80 {G : gT} {x : Nat} {H : Heap} (h : XAt G x X H) : X.2.1.1.1 ≤ 80 := h.2.2.1.2.1.2.2.1
end
theorem stm_or (X : XS) (c : Nat) : nxN X.1 c = none ∨ (∃ v, nxN X.1 c = some v ∧ (X.1.2 11).1 = 16) ∨ ∃ v, nxN X.1 c = some v ∧ (X.1.2 11).1 ≠ 16 := by
  cases e : nxN X.1 c with
  | none => exact Or.inl rfl
  | some v =>
    by_cases q : (X.1.2 11).1 = 16
    · exact Or.inr (Or.inl ⟨v, rfl, q⟩)
    · exact Or.inr (Or.inr ⟨v, rfl, q⟩)
theorem apo_or (X : XS) : (X.1.2 14).1 = 0 ∨ (0 < (X.1.2 14).1 ∧ (X.1.2 15).2 0 = 0) ∨ (0 < (X.1.2 14).1 ∧ (X.1.2 15).2 0 ≠ 0) := by
  rcases Nat.eq_zero_or_pos (X.1.2 14).1 with h | h
  · exact Or.inl h
  · by_cases q : (X.1.2 15).2 0 = 0
    · exact Or.inr (Or.inl ⟨h, q⟩)
    · exact Or.inr (Or.inr ⟨h, q⟩)
