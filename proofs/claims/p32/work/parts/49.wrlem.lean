/-! a list written into the pad: its letters, and what the pad tells then -/
/-- the keys of a list's names -/
def lKy (Y : ST) (L : Rw) (i : Nat) : Nat := (Y.2 1).2 (L.2 i)
/-- how far the text comes with the comma -/
def cmB (n : Nat) : Nat := if 0 < n then n + 1 else n
section
variable {t : Nat} {Y : ST} {X : XS}
theorem apL_ok {S : Rw} {κ : Nat} (h : S.1 + 7 ≤ 80) : ∀ {j : Nat}, j ≤ 6 → (apL S κ j).1 = cmB S.1 + j ∧ (∀ p, p < S.1 → (apL S κ j).2 p = S.2 p) ∧ (0 < S.1 → (apL S κ j).2 S.1 = 44) ∧ ∀ q, q < j → (apL S κ j).2 (cmB S.1 + q) = 96 + kL κ q
  | 0, _ => by
    show (if 0 < S.1 then rAdd 80 S 44 else S).1 = _ ∧ (∀ p, p < S.1 → (if 0 < S.1 then rAdd 80 S 44 else S).2 p = _) ∧ (0 < S.1 → (if 0 < S.1 then rAdd 80 S 44 else S).2 S.1 = 44) ∧ _
    unfold cmB
    by_cases e : 0 < S.1
    · rw [if_pos e, if_pos e, rAdd_in (by omega)]
      exact ⟨rfl, fun p hp => vuN (by omega), fun _ => vuS, fun q hq => absurd hq (Nat.not_lt_zero q)⟩
    · rw [if_neg e, if_neg e]
      exact ⟨rfl, fun p hp => rfl, fun z => absurd z e, fun q hq => absurd hq (Nat.not_lt_zero q)⟩
  | j + 1, hj => by
    obtain ⟨a, b, c, d⟩ := apL_ok (S := S) (κ := κ) h (j := j) (by omega)
    have hb : S.1 ≤ cmB S.1 ∧ cmB S.1 ≤ S.1 + 1 ∧ (0 < S.1 → S.1 < cmB S.1) := by unfold cmB; split <;> omega
    show (rAdd 80 (apL S κ j) (96 + kL κ j)).1 = _ ∧ (∀ p, p < S.1 → (rAdd 80 (apL S κ j) (96 + kL κ j)).2 p = _) ∧ (0 < S.1 → (rAdd 80 (apL S κ j) (96 + kL κ j)).2 S.1 = 44) ∧ ∀ q, q < j + 1 → (rAdd 80 (apL S κ j) (96 + kL κ j)).2 _ = _
    rw [rAdd_in (by omega)]
    refine ⟨by show (apL S κ j).1 + 1 = _; omega, fun p hp => ?_, fun z => ?_, fun q hq => ?_⟩
    · show va_up _ _ _ p = _
      rw [vuN (by omega)]; exact b p hp
    · show va_up _ _ _ S.1 = _
      rw [vuN (by omega)]; exact c z
    · show va_up _ _ _ (cmB S.1 + q) = _
      by_cases e : q = j
      · subst e; rw [a, vuS]
      · rw [vuN (by omega)]; exact d q (by omega)
theorem IY.ln (h : IY t Y) {c k : Nat} (hc : c < 2) (hk : k < 3) {i : Nat} (hi : i < (Lst Y c k).1) : (Lst Y c k).2 i < (Y.2 1).1 ∧ (Y.2 2).2 ((Lst Y c k).2 i) = 0 := (h.2.2.1 _ (lix_lt hc hk)).2 i hi
theorem wr_s (h : IY t Y) {c k : Nat} (hc : c < 2) (hk : k < 3) (P : Rw) {i : Nat} (hi : i < (Lst Y c k).1) : wrR Y P (Lst Y c k) (i + 1) = apN (wrR Y P (Lst Y c k) i) (lKy Y (Lst Y c k) i) := by
  show apN _ (rA (Y.2 1) ((Lst Y c k).2 i)) = _
  rw [rA_in (h.ln hc hk hi).1]; rfl
theorem wr_ok (h : IY t Y) {c k : Nat} (hc : c < 2) (hk : k < 3) (P : Rw) : ∀ {i : Nat}, i ≤ (Lst Y c k).1 → (wrR Y P (Lst Y c k) i).1 ≤ 7 * i ∧ (0 < i → 0 < (wrR Y P (Lst Y c k) i).1)
  | 0, _ => ⟨Nat.le_refl 0, fun z => absurd z (Nat.lt_irrefl 0)⟩
  | i + 1, hi => by
    obtain ⟨a, -⟩ := wr_ok h hc hk P (i := i) (by omega)
    have h8 : (Lst Y c k).1 ≤ 8 := h.l8 (lix_lt hc hk)
    have hK := kK_L (h.key (h.ln hc hk (show i < (Lst Y c k).1 by omega)).1)
    rw [wr_s h hc hk P (by omega)]
    obtain ⟨b, -, -, -⟩ := apL_ok (S := wrR Y P (Lst Y c k) i) (κ := lKy Y (Lst Y c k) i) (by omega) (j := kS (lKy Y (Lst Y c k) i) (lKy Y (Lst Y c k) i)) hK.2.1
    have hb : cmB (wrR Y P (Lst Y c k) i).1 ≤ (wrR Y P (Lst Y c k) i).1 + 1 := by unfold cmB; split <;> omega
    show (apL _ _ (kS _ _)).1 ≤ _ ∧ (_ → 0 < (apL _ _ (kS _ _)).1)
    rw [b]
    have h2 := hK.1
    have h6 := hK.2.1
    change 2 ≤ kS (lKy Y (Lst Y c k) i) (lKy Y (Lst Y c k) i) at h2
    change kS (lKy Y (Lst Y c k) i) (lKy Y (Lst Y c k) i) ≤ 6 at h6
    exact ⟨by omega, fun _ => by omega⟩
/-- one name more: the size, what stood there, the comma, the letters -/
theorem wr_st (h : IY t Y) {c k : Nat} (hc : c < 2) (hk : k < 3) (P : Rw) {i : Nat} (hi : i < (Lst Y c k).1) : (wrR Y P (Lst Y c k) (i + 1)).1 = cmB (wrR Y P (Lst Y c k) i).1 + kS (lKy Y (Lst Y c k) i) (lKy Y (Lst Y c k) i) ∧ (∀ p, p < (wrR Y P (Lst Y c k) i).1 → (wrR Y P (Lst Y c k) (i + 1)).2 p = (wrR Y P (Lst Y c k) i).2 p) ∧ (0 < (wrR Y P (Lst Y c k) i).1 → (wrR Y P (Lst Y c k) (i + 1)).2 (wrR Y P (Lst Y c k) i).1 = 44) ∧ ∀ q, q < kS (lKy Y (Lst Y c k) i) (lKy Y (Lst Y c k) i) → (wrR Y P (Lst Y c k) (i + 1)).2 (cmB (wrR Y P (Lst Y c k) i).1 + q) = 96 + kL (lKy Y (Lst Y c k) i) q := by
  have h8 : (Lst Y c k).1 ≤ 8 := h.l8 (lix_lt hc hk)
  have hK := kK_L (h.key (h.ln hc hk hi).1)
  have a := (wr_ok h hc hk P (i := i) (by omega)).1
  rw [wr_s h hc hk P hi]
  exact apL_ok (by omega) hK.2.1
theorem wr_mo (h : IY t Y) {c k : Nat} (hc : c < 2) (hk : k < 3) (P : Rw) {i : Nat} : ∀ {n : Nat}, i ≤ n → n ≤ (Lst Y c k).1 → (wrR Y P (Lst Y c k) i).1 ≤ (wrR Y P (Lst Y c k) n).1 ∧ ∀ p, p < (wrR Y P (Lst Y c k) i).1 → (wrR Y P (Lst Y c k) n).2 p = (wrR Y P (Lst Y c k) i).2 p
  | 0, hin, _ => by
    have : i = 0 := by omega
    subst this; exact ⟨Nat.le_refl _, fun _ _ => rfl⟩
  | n + 1, hin, hn => by
    rcases Nat.lt_or_ge n i with q | q
    · have : i = n + 1 := by omega
      subst this; exact ⟨Nat.le_refl _, fun _ _ => rfl⟩
    · obtain ⟨a, b⟩ := wr_mo h hc hk P (i := i) (n := n) q (by omega)
      obtain ⟨d1, d2, -, -⟩ := wr_st h hc hk P (i := n) (by omega)
      have hb : (wrR Y P (Lst Y c k) n).1 ≤ cmB (wrR Y P (Lst Y c k) n).1 := by unfold cmB; split <;> omega
      exact ⟨by omega, fun p hp => by rw [d2 p (by omega)]; exact b p hp⟩
/-- what the pad tells, name by name -/
def tT (f : Nat → Nat) (K : Nat → Nat) : Nat → Rw
  | 0 => (0, f)
  | i + 1 => rAdd 27 (tT f K i) (K i)
theorem tT_ok {f K : Nat → Nat} : ∀ {i : Nat}, i ≤ 27 → (tT f K i).1 = i ∧ ∀ j, j < i → (tT f K i).2 j = K j
  | 0, _ => ⟨rfl, fun j hj => absurd hj (Nat.not_lt_zero j)⟩
  | i + 1, hi => by
    obtain ⟨a, b⟩ := tT_ok (f := f) (K := K) (i := i) (by omega)
    show (rAdd 27 (tT f K i) (K i)).1 = _ ∧ ∀ j, j < i + 1 → (rAdd 27 (tT f K i) (K i)).2 j = _
    rw [rAdd_in (by omega)]
    refine ⟨by show (tT f K i).1 + 1 = _; omega, fun j hj => ?_⟩
    show va_up _ _ _ j = _
    by_cases e : j = i
    · subst e; rw [a, vuS]
    · rw [vuN (by omega)]; exact b j (by omega)
theorem name_run {f g : Nat → Nat} {b κ : Nat} {T : Rw} (h : prd f g b = some (0, 0, T)) (hk : kK κ) (hl : ∀ j, j < kS κ κ → g (b + j) = 96 + kL κ j) : prd f g (b + kS κ κ) = some (κ, kS κ κ, T) := by
  have hr : ∀ j, j < kS κ κ → 97 ≤ g (b + j) ∧ g (b + j) ≤ 122 := fun j hj => by
    rw [hl j hj]; have := kK_let hk hj; omega
  have h1 := prd_run h (kS κ κ) hk.2.1 hr
  have h2 := kB_is (f := g) (b := b) hk.1 hk.2.1 hr
  have e : κ = kB g b (kS κ κ) := (kEq hk h2).mpr ⟨rfl, fun j hj => (hl j hj).symm⟩
  rw [h1, ← e]
theorem comma_run {f g : Nat → Nat} {b κ L : Nat} {T : Rw} (h : prd f g b = some (κ, L, T)) (h2 : 2 ≤ L) (hg : g b = 44) : prd f g (b + 1) = some (0, 0, rAdd 27 T κ) := by
  rw [prd_s h, hg, pst_c (by rw [kO_44]; intro z; exact z.1 rfl) rfl h2]
theorem wr_pr (h : IY t Y) {c k : Nat} (hc : c < 2) (hk : k < 3) (P : Rw) (f : Nat → Nat) : ∀ {i : Nat}, i < (Lst Y c k).1 → prd f (wrR Y P (Lst Y c k) (i + 1)).2 (wrR Y P (Lst Y c k) (i + 1)).1 = some (lKy Y (Lst Y c k) i, kS (lKy Y (Lst Y c k) i) (lKy Y (Lst Y c k) i), tT f (lKy Y (Lst Y c k)) i) := by
  intro i
  induction i with
  | zero =>
    intro hi
    obtain ⟨d1, d2, d3, d4⟩ := wr_st h hc hk P hi
    have hK : kK (lKy Y (Lst Y c k) 0) := h.key (h.ln hc hk hi).1
    rw [d1]
    have e0 : cmB (wrR Y P (Lst Y c k) 0).1 = 0 := rfl
    rw [e0] at d4 ⊢
    exact name_run (b := 0) rfl hK d4
  | succ i ih =>
    intro hi
    have ih := ih (by omega)
    obtain ⟨d1, d2, d3, d4⟩ := wr_st h hc hk P hi
    have hK : kK (lKy Y (Lst Y c k) (i + 1)) := h.key (h.ln hc hk hi).1
    have hK0 : kK (lKy Y (Lst Y c k) i) := h.key (h.ln hc hk (show i < (Lst Y c k).1 by omega)).1
    have hp := (wr_ok h hc hk P (i := i + 1) (by omega)).2 (by omega)
    have e1 : prd f (wrR Y P (Lst Y c k) (i + 1 + 1)).2 (wrR Y P (Lst Y c k) (i + 1)).1 = some (lKy Y (Lst Y c k) i, kS (lKy Y (Lst Y c k) i) (lKy Y (Lst Y c k) i), tT f (lKy Y (Lst Y c k)) i) := by
      rw [prd_cong d2]; exact ih
    have e2 := comma_run e1 hK0.1 (d3 hp)
    have eb : cmB (wrR Y P (Lst Y c k) (i + 1)).1 = (wrR Y P (Lst Y c k) (i + 1)).1 + 1 := if_pos hp
    rw [d1]
    rw [eb] at d4 ⊢
    exact name_run e2 hK d4
/-- the pad is the text of a list -/
def TW (X : XS) (c k : Nat) : Prop := ∀ f : Nat → Nat, pRs f X.2.1.1 = if (Lst X.1 c k).1 = 0 then (some 0, (0, f)) else (none, tT f (lKy X.1 (Lst X.1 c k)) (Lst X.1 c k).1)
theorem tw_wr (h : IY t Y) {c k : Nat} (hc : c < 2) (hk : k < 3) (P : Rw) (f : Nat → Nat) : pRs f (wrR Y P (Lst Y c k) (Lst Y c k).1) = if (Lst Y c k).1 = 0 then (some 0, (0, f)) else (none, tT f (lKy Y (Lst Y c k)) (Lst Y c k).1) := by
  by_cases e : (Lst Y c k).1 = 0
  · rw [if_pos e, e]
    exact pRs_e (z := (0, 0, (0, f))) (fun j hj => by rw [show j = 0 from Nat.le_zero.mp hj]; rfl) rfl
  · rw [if_neg e]
    have a := wr_pr h hc hk P f (i := (Lst Y c k).1 - 1) (by omega)
    have hK : kK (lKy Y (Lst Y c k) ((Lst Y c k).1 - 1)) := h.key (h.ln hc hk (by omega)).1
    rw [show (Lst Y c k).1 - 1 + 1 = (Lst Y c k).1 by omega] at a
    rw [pRs_e (prd_le a) a, if_neg (by show ¬ kS _ _ < 2; have := hK.1; omega)]
    show (none, rAdd 27 (tT f (lKy Y (Lst Y c k)) ((Lst Y c k).1 - 1)) (lKy Y (Lst Y c k) ((Lst Y c k).1 - 1))) = _
    have e2 : tT f (lKy Y (Lst Y c k)) (Lst Y c k).1 = rAdd 27 (tT f (lKy Y (Lst Y c k)) ((Lst Y c k).1 - 1)) (lKy Y (Lst Y c k) ((Lst Y c k).1 - 1)) := by
      obtain ⟨m, hm⟩ : ∃ m, (Lst Y c k).1 = m + 1 := ⟨(Lst Y c k).1 - 1, by omega⟩
      rw [hm]; rfl
    rw [e2]
theorem TW.td {c k : Nat} (h : TW X c k) : TW (xTd X) c k := h
theorem TW.rs {c k : Nat} (h : TW X c k) (h1 : 1 ≤ (Lst X.1 c k).1) : xRs X = (none, tT X.2.1.2.2 (lKy X.1 (Lst X.1 c k)) (Lst X.1 c k).1) := by
  show pRs _ _ = _
  rw [h, if_neg (by omega)]
theorem TW.rs0 {c k : Nat} (h : TW X c k) (h0 : (Lst X.1 c k).1 = 0) : xRs X = (some 0, (0, X.2.1.2.2)) := by
  show pRs _ _ = _
  rw [h, if_pos h0]
theorem tw_fnd1 (hI : IY t X.1) {c k : Nat} (hc : c < 2) (hk : k < 3) (h : TW X c k) (h1 : (Lst X.1 c k).1 = 1) : cFind X = (nI ((Lst X.1 c k).2 0), xTd X) := by
  have hr := h.rs (by omega)
  obtain ⟨a, b⟩ := tT_ok (f := X.2.1.2.2) (K := lKy X.1 (Lst X.1 c k)) (i := (Lst X.1 c k).1) (by omega)
  have eo : xOne X = true := by unfold xOne; rw [hr]; show (true && _ == 1) = true; rw [a, h1]; rfl
  unfold cFind
  rw [eo, if_pos rfl, hr]
  show (oI (-6) (rPl (X.1.2 1) (rA (tT X.2.1.2.2 (lKy X.1 (Lst X.1 c k)) (Lst X.1 c k).1) 0)), _) = _
  rw [rA_in (by omega), b 0 (by omega), show lKy X.1 (Lst X.1 c k) 0 = (X.1.2 1).2 ((Lst X.1 c k).2 0) from rfl, hI.2.1.at (hI.ln hc hk (by omega)).1]
  rfl
theorem cN_pos {p : Nat → Bool} {i : Nat} : ∀ {n : Nat}, i < n → p i = true → 1 ≤ cN p n
  | 0, h, _ => absurd h (Nat.not_lt_zero i)
  | n + 1, h, hp => by
    rw [cN_s]
    by_cases e : i = n
    · subst e; rw [hp]; simp
    · have := cN_pos (n := n) (by omega) hp
      omega
theorem tw_beg1 (hI : IY t X.1) {c k : Nat} (hc : c < 2) (hk : k < 3) (h : TW X c k) (h1 : (Lst X.1 c k).1 = 1) : ∃ q, cBeg X = (nI q, xTd X) ∧ 1 ≤ q ∧ q ≤ 40 := by
  have hr := h.rs (by omega)
  obtain ⟨a, b⟩ := tT_ok (f := X.2.1.2.2) (K := lKy X.1 (Lst X.1 c k)) (i := (Lst X.1 c k).1) (by omega)
  have eo : xOne X = true := by unfold xOne; rw [hr]; show (true && _ == 1) = true; rw [a, h1]; rfl
  have hn := (hI.ln hc hk (show 0 < (Lst X.1 c k).1 by omega)).1
  refine ⟨bgW X.1 (lKy X.1 (Lst X.1 c k) 0), ?_, ?_, ?_⟩
  · unfold cBeg
    rw [eo, if_pos rfl, hr]
    show (nI (bgW X.1 (rA (tT X.2.1.2.2 (lKy X.1 (Lst X.1 c k)) (Lst X.1 c k).1) 0)), _) = _
    rw [rA_in (by omega), b 0 (by omega)]
  · exact cN_pos hn (by simp [lKy])
  · exact Nat.le_trans (cN_le _ _) hI.n40
theorem tw_fnd2 {c k : Nat} (h : TW X c k) (h2 : 2 ≤ (Lst X.1 c k).1) (h8 : (Lst X.1 c k).1 ≤ 8) : cFind X = (-3, xTd X) := by
  have hr := h.rs (by omega)
  obtain ⟨a, b⟩ := tT_ok (f := X.2.1.2.2) (K := lKy X.1 (Lst X.1 c k)) (i := (Lst X.1 c k).1) (by omega)
  have eo : xOne X = false := by unfold xOne; rw [hr]; show (true && _ == 1) = false; rw [a]; simp; omega
  unfold cFind
  rw [eo]; rfl
theorem tw_flt0 {c k : Nat} (h : TW X c k) (h0 : (Lst X.1 c k).1 = 0) : cFault X = (nI 0, xTd X) := by
  unfold cFault; rw [h.rs0 h0]; rfl
theorem tw_flt1 {c k : Nat} (h : TW X c k) (h1 : 1 ≤ (Lst X.1 c k).1) : cFault X = (-6, xTd X) := by
  unfold cFault; rw [h.rs h1]; rfl
theorem tw_fil0 {c k : Nat} (hc : c < 2) (hk : k < 3) (h : TW X c k) (h0 : (Lst X.1 c k).1 = 0) : cFill X (nI c) (nI k) = (-3, xTd X) := by
  obtain ⟨e1, e2, e3, e4⟩ := inL_n hc hk
  unfold cFill; rw [e1, if_pos rfl, e2, e3]
  unfold cFil; rw [h.rs0 h0]; rfl
theorem tw_fil1 (hI : IY t X.1) {c k : Nat} (hc : c < 2) (hk : k < 3) (h : TW X c k) (h1 : 1 ≤ (Lst X.1 c k).1) (h8 : (Lst X.1 c k).1 ≤ 8) : cFill X (nI c) (nI k) = (-5, xTd X) := by
  obtain ⟨e1, e2, e3, e4⟩ := inL_n hc hk
  obtain ⟨a, b⟩ := tT_ok (f := X.2.1.2.2) (K := lKy X.1 (Lst X.1 c k)) (i := (Lst X.1 c k).1) (by omega)
  unfold cFill; rw [e1, if_pos rfl, e2, e3]
  unfold cFil; rw [h.rs h1]
  have hm : mJ X.1 (tT X.2.1.2.2 (lKy X.1 (Lst X.1 c k)) (Lst X.1 c k).1) c (5 + lix c k) = false := by
    refine mJ_f (i := 0) (by omega) (Or.inl ?_)
    rw [b 0 (by omega), show lKy X.1 (Lst X.1 c k) 0 = (X.1.2 1).2 ((Lst X.1 c k).2 0) from rfl, tkn_s (hI.2.1.at (hI.ln hc hk (by omega)).1), stO_l hk (by omega), Bool.or_true]
  show (if (none : Option Nat).isSome = true then _ else if mJ X.1 (tT X.2.1.2.2 (lKy X.1 (Lst X.1 c k)) (Lst X.1 c k).1) c (5 + lix c k) = false then (-5, xTd X) else _) = _
  rw [if_neg (by decide), if_pos hm]
theorem wr_B (h : IY t Y) {c k : Nat} (hc : c < 2) (hk : k < 3) (P : Rw) : ∀ i, i ≤ (Lst Y c k).1 → rB (wrR Y P (Lst Y c k) i) (2 ^ 31)
  | 0, _ => rB_0
  | i + 1, hi => by
    have ih := wr_B h hc hk P i (by omega)
    rw [wr_s h hc hk P (by omega)]
    have key : ∀ j, rB (apL (wrR Y P (Lst Y c k) i) (lKy Y (Lst Y c k) i) j) (2 ^ 31) := by
      intro j
      induction j with
      | zero =>
        show rB (if 0 < (wrR Y P (Lst Y c k) i).1 then rAdd 80 (wrR Y P (Lst Y c k) i) 44 else wrR Y P (Lst Y c k) i) _
        split
        · exact rB_add ih (by decide)
        · exact ih
      | succ j ih2 => exact rB_add ih2 (by have := kL_lt (lKy Y (Lst Y c k) i) j; omega)
    exact key _
theorem wri_v {c k : Nat} (hc : c < 2) (hk : k < 3) : cWrite X (nI c) (nI k) = (nI (wrR X.1 X.2.1.1 (Lst X.1 c k) (Lst X.1 c k).1).1, xPd X (wrR X.1 X.2.1.1 (Lst X.1 c k) (Lst X.1 c k).1) X.2.1.2) := by
  obtain ⟨e1, e2, e3, e4⟩ := inL_n hc hk
  unfold cWrite; rw [e1, if_pos rfl, e4]
theorem sgn_v {S : Rw} {p : Nat} (hp : p < S.1) (h31 : p < 2 ^ 31) : cSign S (nI p) = nI (S.2 p) := by
  unfold cSign; rw [inR_i hp h31, if_pos rfl, nI_clamp h31, rA_in hp]
theorem sgn_n {S : Rw} {p : Nat} (hp : S.1 ≤ p) (h31 : p < 2 ^ 31) : cSign S (nI p) = -1 := by
  unfold cSign; rw [inR_nI h31, if_neg (by simp; omega)]
end
