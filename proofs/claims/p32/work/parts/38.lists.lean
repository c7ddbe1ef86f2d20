/-! lists, the next names, storms and twins -/
section
variable {t : Nat} {Y : ST}
theorem wGv_in (h : IY t Y) (v c : Nat) : wGv Y v c = aN (fun s => (Y.2 11).2 s == v && (Y.2 12).2 s == c) (Y.2 11).1 := aN_cong fun s hs => by
  show _ = ((Y.2 11).2 s == v && (Y.2 12).2 s == c)
  rw [rA_in (by rw [h.gk (k := 12) (by decide) (by decide)]; exact hs)]
/-- the next name, and how many are left, behind the first m names of list k -/
def nxM (Y : ST) (c k m : Nat) : Option Nat := if k = Y.1 % 3 then (fF (fun i => !wGv Y ((Lst Y c k).2 i) c) m).map (Lst Y c k).2 else if Y.1 % 3 < k then nxN Y c else none
def lfM (Y : ST) (c k m : Nat) : Nat := if k = Y.1 % 3 then cN (fun i => !wGv Y ((Lst Y c k).2 i) c) m else if Y.1 % 3 < k then nmL Y c 0 else 0
def onL (Y : ST) (c k : Nat) : Nat := sN (fun q => (Lst Y c q).1) k
def bit (Y : ST) (c v : Nat) : Nat := if stO Y v c then 1 else 0
theorem nxM_0 (c : Nat) : nxM Y c 0 0 = none := by
  unfold nxM
  split
  · rfl
  · rw [if_neg (by omega)]
theorem lfM_0 (c : Nat) : lfM Y c 0 0 = 0 := by
  unfold lfM
  split
  · rfl
  · rw [if_neg (by omega)]
theorem nxM_e (c k : Nat) : nxM Y c k (Lst Y c k).1 = nxM Y c (k + 1) 0 := by
  unfold nxM
  by_cases e : k = Y.1 % 3
  · rw [if_pos e, if_neg (by omega), if_pos (by omega)]
    unfold nxN; rw [← e]
  · rw [if_neg e]
    by_cases q : Y.1 % 3 < k
    · rw [if_pos q, if_neg (by omega), if_pos (by omega)]
    · rw [if_neg q]
      by_cases z : k + 1 = Y.1 % 3
      · rw [if_pos z]; rfl
      · rw [if_neg z, if_neg (by omega)]
theorem lfM_e (c k : Nat) : lfM Y c k (Lst Y c k).1 = lfM Y c (k + 1) 0 := by
  unfold lfM
  by_cases e : k = Y.1 % 3
  · rw [if_pos e, if_neg (by omega), if_pos (by omega)]
    unfold nmL; rw [Nat.add_zero, ← e]
    exact cN_cong fun j _ => by simp
  · rw [if_neg e]
    by_cases q : Y.1 % 3 < k
    · rw [if_pos q, if_neg (by omega), if_pos (by omega)]
    · rw [if_neg q]
      by_cases z : k + 1 = Y.1 % 3
      · rw [if_pos z]; rfl
      · rw [if_neg z, if_neg (by omega)]
theorem nxM_3 (c : Nat) : nxM Y c 3 0 = nxN Y c := by unfold nxM; rw [if_neg (by omega), if_pos (by omega)]
theorem lfM_3 (c : Nat) : lfM Y c 3 0 = nmL Y c 0 := by unfold lfM; rw [if_neg (by omega), if_pos (by omega)]
theorem fF_s1 {p : Nat → Bool} {n : Nat} : fF p (n + 1) = match fF p n with
  | some i => some i
  | none => if p n then some n else none := by
  cases e : fF p n with
  | some i =>
    obtain ⟨a, b, c⟩ := fF_s e
    exact fF_some (by omega) b c
  | none =>
    have h := fF_n e
    cases e2 : p n with
    | true => exact fF_some (Nat.lt_succ_self n) e2 h
    | false => exact fF_none (fun j hj => by
        rcases Nat.lt_or_ge j n with q | q
        · exact h j q
        · rw [show j = n by omega]; exact e2)
/-- a name more: given, of another list, or free -/
theorem nxM_g {c k m : Nat} (h : wGv Y ((Lst Y c k).2 m) c = true) : nxM Y c k (m + 1) = nxM Y c k m := by
  unfold nxM
  split
  · rw [fF_s1]
    cases fF (fun i => !wGv Y ((Lst Y c k).2 i) c) m with
    | some i => rfl
    | none => show Option.map _ (if (!wGv Y ((Lst Y c k).2 m) c) = true then _ else _) = _; rw [h]; rfl
  · rfl
theorem lfM_g {c k m : Nat} (h : wGv Y ((Lst Y c k).2 m) c = true) : lfM Y c k (m + 1) = lfM Y c k m := by
  unfold lfM
  split
  · rw [cN_s, h]; rfl
  · rfl
theorem nxM_o {c k m : Nat} (h : k ≠ Y.1 % 3) (m2 : Nat) : nxM Y c k m = nxM Y c k m2 := by unfold nxM; rw [if_neg h, if_neg h]
theorem lfM_o {c k m : Nat} (h : k ≠ Y.1 % 3) (m2 : Nat) : lfM Y c k m = lfM Y c k m2 := by unfold lfM; rw [if_neg h, if_neg h]
theorem nxM_n {c k m : Nat} (hk : k = Y.1 % 3) (h : wGv Y ((Lst Y c k).2 m) c = false) (hn : nxM Y c k m = none) : nxM Y c k (m + 1) = some ((Lst Y c k).2 m) := by
  unfold nxM at hn ⊢
  rw [if_pos hk] at hn ⊢
  rw [fF_s1]
  cases e : fF (fun i => !wGv Y ((Lst Y c k).2 i) c) m with
  | some i => rw [e] at hn; cases hn
  | none => show Option.map _ (if (!wGv Y ((Lst Y c k).2 m) c) = true then _ else _) = _; rw [h]; rfl
theorem nxM_p {c k m : Nat} (hk : k = Y.1 % 3) {v : Nat} (hn : nxM Y c k m = some v) : nxM Y c k (m + 1) = some v := by
  unfold nxM at hn ⊢
  rw [if_pos hk] at hn ⊢
  rw [fF_s1]
  cases e : fF (fun i => !wGv Y ((Lst Y c k).2 i) c) m with
  | some i => rw [e] at hn; exact hn
  | none => rw [e] at hn; cases hn
theorem lfM_n {c k m : Nat} (hk : k = Y.1 % 3) (h : wGv Y ((Lst Y c k).2 m) c = false) : lfM Y c k (m + 1) = lfM Y c k m + 1 := by
  unfold lfM
  rw [if_pos hk, if_pos hk, cN_s, h]; rfl
theorem nmL_a {c k : Nat} (hk : k < 3) (h : (k + 3 - Y.1 % 3) % 3 ≠ 0) : nmL Y c ((k + 3 - Y.1 % 3) % 3) = (Lst Y c k).1 := by
  unfold nmL
  rw [show (Y.1 + (k + 3 - Y.1 % 3) % 3) % 3 = k by omega]
  have : (fun i => decide (0 < (k + 3 - Y.1 % 3) % 3) || !wGv Y ((Lst Y c k).2 i) c) = fun _ => true := by
    funext i
    simp [show 0 < (k + 3 - Y.1 % 3) % 3 by omega]
  rw [this, cN_all]
theorem sN_3 (f : Nat → Nat) : sN f 3 = f 0 + f 1 + f 2 := by
  show 0 + f 0 + f 1 + f 2 = _; omega
/-- each name once: so many stand on a coast -/
theorem IY.on (h : IY t Y) {c : Nat} (hc : c < 2) : onL Y c 3 = sN (bit Y c) (Y.2 1).1 := by
  have hL := h.2.2.1
  have hU := h.2.2.2.1
  have e1 : onL Y c 3 = sN (fun q => sN (fun v => cN (fun j => (Lst Y c q).2 j == v) (Lst Y c q).1) (Y.2 1).1) 3 := sN_cong fun q hq => (sN_cnt (fun j hj => ((hL _ (lix_lt hc hq)).2 j hj).1)).symm
  rw [e1, sN_swap]
  refine sN_cong fun v _ => ?_
  rw [sN_3]
  have e2 : ∀ q, q < 3 → cN (fun j => (Lst Y c q).2 j == v) (Lst Y c q).1 = if (rPl (Lst Y c q) v).isSome then 1 else 0 := fun q hq => by
    have ha := lix_lt hc hq
    rw [cN_1 (fun i j hi hj a b => (hU _ _ ha ha rfl i j hi hj (by rw [beq_iff_eq] at a b; exact a.trans b.symm)).2)]
    unfold rPl; rw [fF_isSome]
  have e3 : ∀ q r, q < 3 → r < 3 → q ≠ r → (rPl (Lst Y c q) v).isSome = true → (rPl (Lst Y c r) v).isSome = false := fun q r hq hr hne a => by
    cases b : (rPl (Lst Y c r) v).isSome with
    | false => rfl
    | true =>
      obtain ⟨i, ei⟩ := Option.isSome_iff_exists.mp a
      obtain ⟨j, ej⟩ := Option.isSome_iff_exists.mp b
      obtain ⟨i1, i2⟩ := rPl_s ei
      obtain ⟨j1, j2⟩ := rPl_s ej
      have := (hU _ _ (lix_lt hc hq) (lix_lt hc hr) (by rw [(lix_d hc hq).1, (lix_d hc hr).1]) i j i1 j1 (i2.trans j2.symm)).1
      unfold lix at this; omega
  have e4 : stO Y v c = (((false || (rPl (Lst Y c 0) v).isSome) || (rPl (Lst Y c 1) v).isSome) || (rPl (Lst Y c 2) v).isSome) := rfl
  rw [e2 0 (by decide), e2 1 (by decide), e2 2 (by decide)]
  unfold bit; rw [e4]
  have a01 := e3 0 1 (by decide) (by decide) (by decide)
  have a02 := e3 0 2 (by decide) (by decide) (by decide)
  have a12 := e3 1 2 (by decide) (by decide) (by decide)
  generalize (rPl (Lst Y c 0) v).isSome = b0 at a01 a02 ⊢
  generalize (rPl (Lst Y c 1) v).isSome = b1 at a01 a12 ⊢
  generalize (rPl (Lst Y c 2) v).isSome = b2 at a02 a12 ⊢
  cases b0 <;> cases b1 <;> cases b2 <;> first | rfl | exact absurd (a01 rfl) (by decide) | exact absurd (a02 rfl) (by decide) | exact absurd (a12 rfl) (by decide)
theorem sN_mono {f : Nat → Nat} {i : Nat} : ∀ {j : Nat}, i ≤ j → sN f i ≤ sN f j
  | 0, h => by rw [show i = 0 by omega]; exact Nat.le_refl _
  | j + 1, h => by
    rcases Nat.lt_or_ge j i with q | q
    · rw [show i = j + 1 by omega]; exact Nat.le_refl _
    · have := sN_mono (f := f) q
      rw [sN_s]; omega
theorem bit_b {v c : Nat} (hc : c < 2) : coF Y v 2 / 2 ^ c &&& 1 = bit Y c v := coF_b hc
theorem stO_l {c k m : Nat} (hk : k < 3) (hm : m < (Lst Y c k).1) : stO Y ((Lst Y c k).2 m) c = true := stO_t.mpr ⟨k, m, hk, hm, rfl⟩
/-- a storm's twin -/
theorem tw_s (h : IY t Y) {s u : Nat} (hs : s < (Y.2 11).1) (e : twO Y s = some u) : u < (Y.2 11).1 ∧ u ≠ s ∧ (Y.2 11).2 u = (Y.2 11).2 s ∧ (Y.2 12).2 u ≠ (Y.2 12).2 s ∧ twO Y u = some s := by
  obtain ⟨-, -, g3, g4⟩ := h.2.2.2.2.1
  obtain ⟨a, b, -⟩ := fF_s e
  simp only [Bool.and_eq_true, bne_iff_ne, ne_eq, beq_iff_eq] at b
  rw [rA_in hs] at b
  have hc : (Y.2 12).2 u ≠ (Y.2 12).2 s := fun q => b.1 (g4 u s a hs b.2 q)
  refine ⟨a, b.1, b.2, hc, fF_some hs ?_ (fun j hj => ?_)⟩
  · simp only [Bool.and_eq_true, bne_iff_ne, ne_eq, beq_iff_eq]
    rw [rA_in a]
    exact ⟨fun q => b.1 q.symm, b.2.symm⟩
  · cases q : (j != u && (Y.2 11).2 j == rA (Y.2 11) u) with
    | false => rfl
    | true =>
      simp only [Bool.and_eq_true, bne_iff_ne, ne_eq, beq_iff_eq] at q
      rw [rA_in a] at q
      have hj' : j < (Y.2 11).1 := by omega
      have c1 := (g3 j hj').2.1
      have c2 := (g3 u a).2.1
      have c3 := (g3 s hs).2.1
      have hju : (Y.2 12).2 j ≠ (Y.2 12).2 u := fun z => q.1 (g4 j u hj' a q.2 z)
      have := g4 j s hj' hs (q.2.trans b.2) (by omega)
      omega
theorem sN_opt {o : Option Nat} {p : Nat → Bool} {n : Nat} (ho : ∀ w, o = some w → w < n) : sN (fun u => if o == some u && p u then 1 else 0) n = if o.any p then 1 else 0 := by
  cases o with
  | none =>
    have : sN (fun u => if (none : Option Nat) == some u && p u then 1 else 0) n = sN (fun _ => 0) n := sN_cong fun u _ => rfl
    rw [this, sN_0]; rfl
  | some w =>
    have hw := ho w rfl
    show _ = if p w then 1 else 0
    cases e : p w with
    | false =>
      have : sN (fun u => if some w == some u && p u then 1 else 0) n = sN (fun _ => 0) n := sN_cong fun u _ => by
        by_cases q : w = u
        · subst q; rw [e]; simp
        · simp [q]
      rw [this, sN_0]; rfl
    | true =>
      have : sN (fun u => if some w == some u && p u then 1 else 0) n = sN (fun u => if u == w then 1 else 0) n := sN_cong fun u _ => by
        by_cases q : w = u
        · subst q; rw [e]; simp
        · simp [q]; intro z; exact absurd z.symm q
      rw [this, sN_one, if_pos hw]; rfl
theorem cN_or {p q : Nat → Bool} : ∀ {n : Nat}, (∀ j, j < n → p j = true → q j = false) → cN (fun j => p j || q j) n = cN p n + cN q n
  | 0, _ => rfl
  | n + 1, h => by
    have ih := cN_or (n := n) (fun j hj => h j (by omega))
    have h2 := h n (by omega)
    rw [cN_s, cN_s, cN_s, ih]
    cases e : p n with
    | false => simp; omega
    | true => rw [h2 e]; simp; omega
/-- twins are two and two -/
theorem IY.tw2 (h : IY t Y) : cN (fun s => (twO Y s).isSome) (Y.2 11).1 = 2 * twN Y := by
  have eA : ∀ s, twB Y s = (twO Y s).any (fun u => decide (s < u)) := fun s => by
    unfold twB; cases twO Y s <;> rfl
  have hlt : ∀ s, ∀ w, twO Y s = some w → w < (Y.2 11).1 := fun s w e => (fF_s e).1
  have e1 : cN (fun s => (twO Y s).isSome) (Y.2 11).1 = cN (fun s => (twO Y s).any (fun u => decide (s < u)) || (twO Y s).any (fun u => decide (u < s))) (Y.2 11).1 := cN_cong fun s hs => by
    cases e : twO Y s with
    | none => rfl
    | some u =>
      have := (tw_s h hs e).2.1
      show true = (decide (s < u) || decide (u < s))
      rcases Nat.lt_or_ge s u with q | q
      · simp [q]
      · simp [show u < s by omega]
  rw [e1, cN_or (fun s _ a => by
    cases e : twO Y s with
    | none => rfl
    | some u =>
      rw [e] at a
      change decide (s < u) = true at a
      show decide (u < s) = false
      simp at a ⊢; omega)]
  have e2 : cN (fun s => (twO Y s).any (fun u => decide (s < u))) (Y.2 11).1 = twN Y := cN_cong fun s _ => (eA s).symm
  have e3 : cN (fun s => (twO Y s).any (fun u => decide (u < s))) (Y.2 11).1 = cN (fun s => (twO Y s).any (fun u => decide (s < u))) (Y.2 11).1 := by
    rw [cN_sN, cN_sN]
    have f1 : sN (fun s => if (twO Y s).any (fun u => decide (u < s)) then 1 else 0) (Y.2 11).1 = sN (fun s => sN (fun u => if twO Y s == some u && decide (u < s) then 1 else 0) (Y.2 11).1) (Y.2 11).1 := sN_cong fun s _ => (sN_opt (hlt s)).symm
    have f2 : sN (fun s => if (twO Y s).any (fun u => decide (s < u)) then 1 else 0) (Y.2 11).1 = sN (fun s => sN (fun u => if twO Y s == some u && decide (s < u) then 1 else 0) (Y.2 11).1) (Y.2 11).1 := sN_cong fun s _ => (sN_opt (hlt s)).symm
    rw [f1, f2, sN_swap]
    refine sN_cong fun u hu => sN_cong fun s hs => ?_
    have : (twO Y s == some u) = (twO Y u == some s) := by
      rw [Bool.eq_iff_iff, beq_iff_eq, beq_iff_eq]
      exact ⟨fun e => (tw_s h hs e).2.2.2.2, fun e => (tw_s h hu e).2.2.2.2⟩
    rw [this]
  rw [e3, e2]; omega
end
section
variable {t : Nat} {Y : ST}
theorem nxM_lt (h : IY t Y) {c k m v : Nat} (hc : c < 2) (hk : k < 3) (hm : m ≤ (Lst Y c k).1) (e : nxM Y c k m = some v) : v < 2 ^ 31 := by
  have h40 := h.n40
  unfold nxM at e
  split at e
  · obtain ⟨i, e1, e2⟩ := Option.map_eq_some_iff.mp e
    have hi := (fF_s e1).1
    have := ((h.2.2.1 _ (lix_lt hc hk)).2 i (by show i < (Lst Y c k).1; omega)).1
    rw [← e2]; show (Lst Y c k).2 i < _
    exact Nat.lt_trans this (by omega)
  · split at e
    · unfold nxN at e
      obtain ⟨i, e1, e2⟩ := Option.map_eq_some_iff.mp e
      have hi := (fF_s e1).1
      have := ((h.2.2.1 _ (lix_lt hc (Nat.mod_lt Y.1 (by decide : 0 < 3)))).2 i hi).1
      rw [← e2]; exact Nat.lt_trans this (by omega)
    · cases e
theorem nI_ge0 {i : Nat} (h : i < 2 ^ 31) : 0 ≤ nI i := by
  rw [Int32.le_iff_toInt_le, nI_toInt h, Int32.toInt_zero]; omega
end
