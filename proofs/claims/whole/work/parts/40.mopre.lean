/-! what the reference's changes keep -/
theorem tkF_at {S : Nat → Nat} {q p x : Nat} : tkF S q p x = if x = q then S q - 1 else if q + 1 + p ≤ x ∧ x < q + S q then S (x + 1) else S x := by
  unfold tkF va_up tkJ
  by_cases h : x = q
  · rw [if_pos h, if_pos h]
  · rw [if_neg h, if_neg h]
    by_cases h2 : q + 1 + p ≤ x ∧ x < q + 1 + (S q - 1)
    · rw [if_pos h2, if_pos (by omega)]
    · rw [if_neg h2, if_neg (by omega)]
theorem tkF_q {S : Nat → Nat} {q p : Nat} : tkF S q p q = S q - 1 := by rw [tkF_at, if_pos rfl]
theorem tkF_lo {S : Nat → Nat} {q p x : Nat} (h : x < q) : tkF S q p x = S x := by rw [tkF_at, if_neg (by omega), if_neg (by omega)]
theorem tkF_hi {S : Nat → Nat} {q p x : Nat} (h : q + S q ≤ x) (h2 : q < x) : tkF S q p x = S x := by rw [tkF_at, if_neg (by omega), if_neg (by omega)]
theorem tkF_e {S : Nat → Nat} {q p j : Nat} (hj : j < S q - 1) : tkF S q p (q + 1 + j) = if p ≤ j then S (q + 1 + (j + 1)) else S (q + 1 + j) := by
  rw [tkF_at, if_neg (by omega)]
  by_cases h : p ≤ j
  · rw [if_pos h, if_pos (by omega)]; rfl
  · rw [if_neg h, if_neg (by omega)]
theorem mOk_tk {S : Nat → Nat} {c k p : Nat} (h : mOk S) (hc : c < 2) (hk : k < 3) (hp : p < S (409 + 27 * c + 9 * k)) : mOk (tkF S (409 + 27 * c + 9 * k) p) := by
  have h8 := h.l hc hk
  have hle := fun j => h.le (j := j) hc hk
  obtain ⟨q, hq⟩ : ∃ q, q = 409 + 27 * c + 9 * k := ⟨_, rfl⟩
  rw [← hq] at hp h8 hle ⊢
  have lo : ∀ x, x < q → tkF S q p x = S x := fun x hx => tkF_lo hx
  have hi : ∀ x, q + 8 < x → tkF S q p x = S x := fun x hx => tkF_hi (by omega) (by omega)
  have e4 := lo 4 (by omega)
  refine ⟨by rw [e4]; exact h.n, by rw [lo 5 (by omega)]; exact h.g, by rw [lo 7 (by omega)]; exact h.k, fun c' hc' k' hk' => ?_, fun g hg => ?_, fun j hj => ?_, fun n hn => ?_, fun x hx => ?_⟩
  · rw [e4]
    by_cases e : c' = c ∧ k' = k
    · obtain ⟨rfl, rfl⟩ := e
      rw [← hq, tkF_q]
      refine ⟨by omega, fun j hj => ?_⟩
      rw [tkF_e hj]
      split
      · exact hle _ (by omega)
      · exact hle _ (by omega)
    · have hd : 409 + 27 * c' + 9 * k' + 8 < q ∨ q + 8 < 409 + 27 * c' + 9 * k' := by omega
      have e0 : tkF S q p (409 + 27 * c' + 9 * k') = S (409 + 27 * c' + 9 * k') := by
        rcases hd with d | d
        · exact lo _ (by omega)
        · exact hi _ (by omega)
      rw [e0]
      have h8' := h.l hc' hk'
      refine ⟨h8', fun j hj => ?_⟩
      have e1 : tkF S q p (409 + 27 * c' + 9 * k' + 1 + j) = S (409 + 27 * c' + 9 * k' + 1 + j) := by
        rcases hd with d | d
        · exact lo _ (by omega)
        · exact hi _ (by omega)
      rw [e1]; exact h.le hc' hk' hj
  · rw [lo 5 (by omega)] at hg
    rw [hi _ (by omega), e4]; exact h.ge hg
  · rw [lo 7 (by omega)] at hj
    rw [hi _ (by omega), e4]; exact h.ke hj
  · rw [e4] at hn
    have := h.n
    rw [lo _ (by omega)]; exact h.nl hn
  · rw [tkF_at]
    split
    · have := h.2.2.2.2.2.2.2 q (by omega); omega
    · split
      · exact h.2.2.2.2.2.2.2 _ (by omega)
      · exact h.2.2.2.2.2.2.2 _ hx
theorem mOk_up {S : Nat → Nat} {x v : Nat} (h : mOk S) (hv : v < 2 ^ 26) (h0 : x ≠ 4 ∧ x ≠ 5 ∧ x ≠ 7) (h1 : ∀ n, n < 40 → x ≠ 9 + 10 * n) (h2 : x < 409 ∨ 463 ≤ x) (h3 : ∀ g, g < 16 → x ≠ 463 + 3 * g) (h4 : ∀ k, k < 10 → x ≠ 511 + 3 * k) : mOk (va_up S x v) := by
  have e4 : va_up S x v 4 = S 4 := vu_n (Ne.symm h0.1)
  have e5 : va_up S x v 5 = S 5 := vu_n (Ne.symm h0.2.1)
  have e7 : va_up S x v 7 = S 7 := vu_n (Ne.symm h0.2.2)
  refine ⟨by rw [e4]; exact h.n, by rw [e5]; exact h.g, by rw [e7]; exact h.k, fun c hc k hk => ?_, fun g hg => ?_, fun j hj => ?_, fun n hn => ?_, fun y hy => ?_⟩
  · have h8 := h.l hc hk
    rw [e4, vu_n (by omega)]
    refine ⟨h8, fun j hj => ?_⟩
    rw [vu_n (by omega)]; exact h.le hc hk hj
  · rw [e5] at hg
    have := h.g
    rw [e4, vu_n (Ne.symm (h3 g (by omega)))]; exact h.ge hg
  · rw [e7] at hj
    have := h.k
    rw [e4, vu_n (Ne.symm (h4 j (by omega)))]; exact h.ke hj
  · rw [e4] at hn
    have := h.n
    rw [vu_n (Ne.symm (h1 n (by omega)))]; exact h.nl hn
  · by_cases e : y = x
    · rw [e, vu_s]; exact hv
    · rw [vu_n e]; exact h.2.2.2.2.2.2.2 y hy
theorem lS_at {S rr pd : Nat → Nat} {w x : Nat} : lS S rr pd w x = if x = 4 then S 4 + 1 else if 9 + 10 * S 4 + 1 ≤ x ∧ x < 9 + 10 * S 4 + 1 + rr (2 * w + 1) then pd (rr (2 * w) + (x - (9 + 10 * S 4 + 1))) else if x = 9 + 10 * S 4 then rr (2 * w + 1) else if 9 + 10 * S 4 ≤ x ∧ x < 9 + 10 * S 4 + 10 then 0 else S x := rfl
theorem lS_4 {S rr pd : Nat → Nat} {w : Nat} : lS S rr pd w 4 = S 4 + 1 := rfl
theorem lS_lo {S rr pd : Nat → Nat} {w x : Nat} (h : x < 9 + 10 * S 4) (h4 : x ≠ 4) : lS S rr pd w x = S x := by
  rw [lS_at, if_neg h4, if_neg (by omega), if_neg (by omega), if_neg (by omega)]
theorem lS_hi {S rr pd : Nat → Nat} {w x : Nat} (h : 9 + 10 * S 4 + 10 ≤ x) (hl : rr (2 * w + 1) ≤ 6) : lS S rr pd w x = S x := by
  rw [lS_at, if_neg (by omega), if_neg (by omega), if_neg (by omega), if_neg (by omega)]
theorem lS_n {S rr pd : Nat → Nat} {w : Nat} : lS S rr pd w (9 + 10 * S 4) = rr (2 * w + 1) := by
  rw [lS_at, if_neg (by omega), if_neg (by omega), if_pos rfl]
theorem lS_c {S rr pd : Nat → Nat} {w j : Nat} (h : j < rr (2 * w + 1)) : lS S rr pd w (9 + 10 * S 4 + 1 + j) = pd (rr (2 * w) + j) := by
  rw [lS_at, if_neg (by omega), if_pos (by omega), Nat.add_sub_cancel_left]
theorem lS_z {S rr pd : Nat → Nat} {w j : Nat} (h : rr (2 * w + 1) < j) (hj : j < 10) : lS S rr pd w (9 + 10 * S 4 + j) = 0 := by
  rw [lS_at, if_neg (by omega), if_neg (by omega), if_neg (by omega), if_pos (by omega)]
theorem mOk_lS {S rr pd : Nat → Nat} {td w : Nat} (h : mOk S) (hR : rOk rr pd td) (hw : w < td) (h40 : S 4 < 40) : mOk (lS S rr pd w) := by
  have hl6 := hR.l hw
  have ha := hR.a hw
  refine ⟨by rw [lS_4]; omega, by rw [lS_lo (by omega) (by decide)]; exact h.g, by rw [lS_lo (by omega) (by decide)]; exact h.k, fun c hc k hk => ?_, fun g hg => ?_, fun j hj => ?_, fun n hn => ?_, fun y hy => ?_⟩
  · rw [lS_4, lS_hi (by omega) hl6]
    refine ⟨h.l hc hk, fun j hj => ?_⟩
    rw [lS_hi (by omega) hl6]
    exact Nat.lt_succ_of_lt (h.le hc hk hj)
  · rw [lS_lo (by omega) (by decide)] at hg
    rw [lS_4, lS_hi (by omega) hl6]; exact Nat.lt_succ_of_lt (h.ge hg)
  · rw [lS_lo (by omega) (by decide)] at hj
    rw [lS_4, lS_hi (by omega) hl6]; exact Nat.lt_succ_of_lt (h.ke hj)
  · rw [lS_4] at hn
    rcases Nat.lt_or_ge n (S 4) with q | q
    · rw [lS_lo (by omega) (by omega)]; exact h.nl q
    · have e : n = S 4 := by omega
      rw [e, lS_n]; exact hl6
  · rw [lS_at]
    split
    · omega
    · split
      · exact Nat.lt_trans (hR.2.2 _ (by omega)) (by decide)
      · split
        · omega
        · split
          · decide
          · exact h.2.2.2.2.2.2.2 y hy
def zLn (S rr pd : Nat → Nat) (w : Nat) : Nat := (mKn S rr pd w).getD (S 4)
theorem mLv_n {S rr pd : Nat → Nat} {w : Nat} : mLv S rr pd w = nI (zLn S rr pd w) := by
  unfold mLv zLn
  cases e : mKn S rr pd w with
  | none => rw [if_pos rfl]; rfl
  | some v => rw [if_neg (by simp)]; rfl
theorem mKn_lt {S rr pd : Nat → Nat} {w v : Nat} (h : mKn S rr pd w = some v) : v < S 4 := (lF_s h).1
theorem mLS_n {S rr pd : Nat → Nat} {w : Nat} (h : mKn S rr pd w = none) : mLS S rr pd w = lS S rr pd w := if_pos h
theorem mLS_o {S rr pd : Nat → Nat} {w : Nat} (h : mKn S rr pd w ≠ none) : mLS S rr pd w = S := if_neg h
theorem zLn_n {S rr pd : Nat → Nat} {w : Nat} (h : mKn S rr pd w = none) : zLn S rr pd w = S 4 := by unfold zLn; rw [h]; rfl
theorem zLn_s {S rr pd : Nat → Nat} {w v : Nat} (h : mKn S rr pd w = some v) : zLn S rr pd w = v := by unfold zLn; rw [h]; rfl
theorem mOk_mLS {S rr pd : Nat → Nat} {td w : Nat} (h : mOk S) (hR : rOk rr pd td) (hw : w < td) (h40 : mKn S rr pd w = none → S 4 < 40) : mOk (mLS S rr pd w) := by
  by_cases e : mKn S rr pd w = none
  · rw [mLS_n e]; exact mOk_lS h hR hw (h40 e)
  · rw [mLS_o e]; exact h
theorem zLn_lt {S rr pd : Nat → Nat} {w : Nat} : zLn S rr pd w < mLS S rr pd w 4 := by
  cases e : mKn S rr pd w with
  | none => rw [mLS_n e, zLn_n e, lS_4]; exact Nat.lt_succ_self _
  | some v => rw [mLS_o (by rw [e]; simp), zLn_s e]; exact mKn_lt e
/-- a list with a number more -/
def adL (S : Nat → Nat) (q v : Nat) : Nat → Nat := va_up (va_up S (q + 1 + S q) v) q (va_up S (q + 1 + S q) v q + 1)
theorem adL_at {S : Nat → Nat} {q v x : Nat} : adL S q v x = if x = q then S q + 1 else if x = q + 1 + S q then v else S x := by
  show (if x = q then (if q = q + 1 + S q then v else S q) + 1 else (if x = q + 1 + S q then v else S x)) = _
  rw [if_neg (show ¬ q = q + 1 + S q by omega)]
theorem adL_lo {S : Nat → Nat} {q v x : Nat} (h : x < q) : adL S q v x = S x := by rw [adL_at, if_neg (by omega), if_neg (by omega)]
theorem adL_hi {S : Nat → Nat} {q v x : Nat} (h : q + 1 + S q < x) : adL S q v x = S x := by rw [adL_at, if_neg (by omega), if_neg (by omega)]
theorem adL_q {S : Nat → Nat} {q v : Nat} : adL S q v q = S q + 1 := by rw [adL_at, if_pos rfl]
theorem adL_v {S : Nat → Nat} {q v : Nat} : adL S q v (q + 1 + S q) = v := by rw [adL_at, if_neg (by omega), if_pos rfl]
theorem adL_e {S : Nat → Nat} {q v j : Nat} (h : j < S q) : adL S q v (q + 1 + j) = S (q + 1 + j) := by rw [adL_at, if_neg (by omega), if_neg (by omega)]
theorem mOk_ad {S : Nat → Nat} {c k v : Nat} (h : mOk S) (hc : c < 2) (hk : k < 3) (h8 : S (409 + 27 * c + 9 * k) < 8) (hv : v < S 4) : mOk (adL S (409 + 27 * c + 9 * k) v) := by
  have hle := fun j => h.le (j := j) hc hk
  obtain ⟨q, hq⟩ : ∃ q, q = 409 + 27 * c + 9 * k := ⟨_, rfl⟩
  rw [← hq] at h8 hle ⊢
  have lo : ∀ x, x < q → adL S q v x = S x := fun x hx => adL_lo hx
  have hi : ∀ x, q + 8 < x → adL S q v x = S x := fun x hx => adL_hi (by omega)
  have e4 := lo 4 (by omega)
  have hn40 := h.n
  refine ⟨by rw [e4]; exact h.n, by rw [lo 5 (by omega)]; exact h.g, by rw [lo 7 (by omega)]; exact h.k, fun c' hc' k' hk' => ?_, fun g hg => ?_, fun j hj => ?_, fun n hn => ?_, fun x hx => ?_⟩
  · rw [e4]
    by_cases e : c' = c ∧ k' = k
    · obtain ⟨rfl, rfl⟩ := e
      rw [← hq, adL_q]
      refine ⟨by omega, fun j hj => ?_⟩
      rcases Nat.lt_or_ge j (S q) with d | d
      · rw [adL_e d]; exact hle j d
      · have ej : j = S q := by omega
        rw [ej, adL_v]; exact hv
    · have hd : 409 + 27 * c' + 9 * k' + 8 < q ∨ q + 8 < 409 + 27 * c' + 9 * k' := by omega
      have e0 : adL S q v (409 + 27 * c' + 9 * k') = S (409 + 27 * c' + 9 * k') := by
        rcases hd with d | d
        · exact lo _ (by omega)
        · exact hi _ (by omega)
      rw [e0]
      have h8' := h.l hc' hk'
      refine ⟨h8', fun j hj => ?_⟩
      have e1 : adL S q v (409 + 27 * c' + 9 * k' + 1 + j) = S (409 + 27 * c' + 9 * k' + 1 + j) := by
        rcases hd with d | d
        · exact lo _ (by omega)
        · exact hi _ (by omega)
      rw [e1]; exact h.le hc' hk' hj
  · rw [lo 5 (by omega)] at hg
    rw [hi _ (by omega), e4]; exact h.ge hg
  · rw [lo 7 (by omega)] at hj
    rw [hi _ (by omega), e4]; exact h.ke hj
  · rw [e4] at hn
    rw [lo _ (by omega)]; exact h.nl hn
  · rw [adL_at]
    split
    · omega
    · split
      · omega
      · exact h.2.2.2.2.2.2.2 _ hx
/-! a name retires: off a list from behind, then off all -/
def rtI (S : Nat → Nat) (q v n : Nat) : Nat → (Nat → Nat)
  | 0 => S
  | t + 1 => if rtI S q v n t (q + 1 + (n - 1 - t)) = v then tkF (rtI S q v n t) q (n - 1 - t) else rtI S q v n t
theorem rtI_t {S : Nat → Nat} {q v n t : Nat} (h : rtI S q v n t (q + 1 + (n - 1 - t)) = v) : rtI S q v n (t + 1) = tkF (rtI S q v n t) q (n - 1 - t) := if_pos h
theorem rtI_f {S : Nat → Nat} {q v n t : Nat} (h : ¬ rtI S q v n t (q + 1 + (n - 1 - t)) = v) : rtI S q v n (t + 1) = rtI S q v n t := if_neg h
theorem rtI_ok {S : Nat → Nat} {c k v : Nat} (h : mOk S) (hc : c < 2) (hk : k < 3) : ∀ t, t ≤ S (409 + 27 * c + 9 * k) → mOk (rtI S (409 + 27 * c + 9 * k) v (S (409 + 27 * c + 9 * k)) t) ∧ S (409 + 27 * c + 9 * k) - t ≤ rtI S (409 + 27 * c + 9 * k) v (S (409 + 27 * c + 9 * k)) t (409 + 27 * c + 9 * k) ∧ rtI S (409 + 27 * c + 9 * k) v (S (409 + 27 * c + 9 * k)) t (409 + 27 * c + 9 * k) ≤ S (409 + 27 * c + 9 * k) ∧ ∀ x, (x < 409 + 27 * c + 9 * k ∨ 409 + 27 * c + 9 * k + 8 < x) → rtI S (409 + 27 * c + 9 * k) v (S (409 + 27 * c + 9 * k)) t x = S x
  | 0, _ => ⟨h, Nat.sub_le _ _, Nat.le_refl _, fun _ _ => rfl⟩
  | t + 1, ht => by
    obtain ⟨h1, h2, h3, h4⟩ := rtI_ok (v := v) h hc hk t (by omega)
    have h8 := h.l hc hk
    by_cases e : rtI S (409 + 27 * c + 9 * k) v (S (409 + 27 * c + 9 * k)) t (409 + 27 * c + 9 * k + 1 + (S (409 + 27 * c + 9 * k) - 1 - t)) = v
    · rw [rtI_t e]
      refine ⟨mOk_tk h1 hc hk (by omega), by rw [tkF_q]; omega, by rw [tkF_q]; omega, fun x hx => ?_⟩
      rcases hx with q | q
      · rw [tkF_lo q]; exact h4 x (Or.inl q)
      · rw [tkF_hi (by omega) (by omega)]; exact h4 x (Or.inr q)
    · rw [rtI_f e]
      exact ⟨h1, by omega, h3, h4⟩
def qK (k : Nat) : Nat := 409 + 27 * (k / 3) + 9 * (k % 3)
def rtK (S : Nat → Nat) (v : Nat) : Nat → (Nat → Nat)
  | 0 => va_up S (9 + 10 * v + 7) 1
  | k + 1 => rtI (rtK S v k) (409 + 27 * (k / 3) + 9 * (k % 3)) v (rtK S v k (409 + 27 * (k / 3) + 9 * (k % 3))) (rtK S v k (409 + 27 * (k / 3) + 9 * (k % 3)))
theorem rtK_ok {S : Nat → Nat} {v : Nat} (h : mOk S) (hv : v < 40) : ∀ k, k ≤ 6 → mOk (rtK S v k) ∧ ∀ x, (x < 409 ∨ 463 ≤ x) → rtK S v k x = va_up S (9 + 10 * v + 7) 1 x
  | 0, _ => ⟨mOk_up h (by decide) (by omega) (by omega) (by omega) (by omega) (by omega), fun _ _ => rfl⟩
  | k + 1, hk => by
    obtain ⟨h1, h2⟩ := rtK_ok (v := v) h hv k (by omega)
    have h3 := rtI_ok (v := v) (c := k / 3) (k := k % 3) h1 (by omega) (by omega) _ (Nat.le_refl _)
    refine ⟨h3.1, fun x hx => ?_⟩
    rw [← h2 x hx]
    exact h3.2.2.2 x (by omega)
theorem mHm_c {S T : Nat → Nat} (h5 : T 5 = S 5) (h : ∀ g, g < S 5 → T (463 + 3 * g) = S (463 + 3 * g) ∧ T (463 + 3 * g + 2) = S (463 + 3 * g + 2)) (v : Nat) : mHm T v = mHm S v := by
  unfold mHm
  rw [h5]
  exact sN_cong fun g hg => by rw [(h g hg).1, (h g hg).2]
/-! the year ends -/
def oweS (S : Nat → Nat) : Nat → (Nat → Nat)
  | 0 => S
  | i + 1 => va_up (oweS S i) (511 + 3 * i + 1) (oweS S i (511 + 3 * i + 1) + (if oweS S i 1 ≤ mHm (oweS S i) (oweS S i (511 + 3 * i)) then 1 else 0))
theorem oweS_ok {S : Nat → Nat} (h : mOk S) (hB : ∀ k, k < 541 → S k < 2 ^ 25) : ∀ i, i ≤ S 7 → mOk (oweS S i) ∧ (∀ x, x < 511 → oweS S i x = S x) ∧ (∀ x, 511 + 3 * i ≤ x → oweS S i x = S x) ∧ ∀ j, oweS S i (511 + 3 * j) = S (511 + 3 * j)
  | 0, _ => ⟨h, fun _ _ => rfl, fun _ _ => rfl, fun _ => rfl⟩
  | i + 1, hi => by
    obtain ⟨h1, h2, h3, h4⟩ := oweS_ok h hB i (by omega)
    have hk := h.k
    have hb := hB (511 + 3 * i + 1) (by omega)
    have e1 := h3 (511 + 3 * i + 1) (by omega)
    refine ⟨mOk_up h1 ?_ (by omega) (by omega) (by omega) (by omega) (by omega), fun x hx => ?_, fun x hx => ?_, fun j => ?_⟩
    · rw [e1]; split <;> omega
    · exact (vu_n (by omega)).trans (h2 x hx)
    · exact (vu_n (by omega)).trans (h3 x (by omega))
    · exact (vu_n (by omega)).trans (h4 j)
def rhM (S : Nat → Nat) : Nat → (Nat → Nat) × Nat
  | 0 => (S, 0)
  | i + 1 => if (rhM S i).1 0 ≤ mHm (rhM S i).1 i then (rtK (rhM S i).1 i 6, (rhM S i).2 + 1) else rhM S i
theorem rhM_t {S : Nat → Nat} {i : Nat} (h : (rhM S i).1 0 ≤ mHm (rhM S i).1 i) : rhM S (i + 1) = (rtK (rhM S i).1 i 6, (rhM S i).2 + 1) := if_pos h
theorem rhM_f {S : Nat → Nat} {i : Nat} (h : ¬ (rhM S i).1 0 ≤ mHm (rhM S i).1 i) : rhM S (i + 1) = rhM S i := if_neg h
theorem rhM_ok {S : Nat → Nat} (h : mOk S) : ∀ i, i ≤ S 4 → mOk (rhM S i).1 ∧ (rhM S i).2 ≤ i ∧ ∀ x, (x < 409 ∨ 463 ≤ x) → (∀ n, x ≠ 9 + 10 * n + 7) → (rhM S i).1 x = S x
  | 0, _ => ⟨h, Nat.le_refl _, fun _ _ _ => rfl⟩
  | i + 1, hi => by
    obtain ⟨h1, h2, h3⟩ := rhM_ok h i (by omega)
    have hn := h.n
    by_cases e : (rhM S i).1 0 ≤ mHm (rhM S i).1 i
    · rw [rhM_t e]
      obtain ⟨a, b⟩ := rtK_ok (v := i) h1 (by omega) 6 (Nat.le_refl _)
      refine ⟨a, Nat.succ_le_succ h2, fun x hx hn => ?_⟩
      show rtK (rhM S i).1 i 6 x = S x
      rw [b x hx, vu_n (hn i)]; exact h3 x hx hn
    · rw [rhM_f e]; exact ⟨h1, Nat.le_succ_of_le h2, h3⟩
/-! names of the pad come on trial -/
def zEr (b : Bool) : Int32 := if b then -5 else 0
def zRo (b : Bool) : Int32 := if b then -4 else 0
theorem zEr_t {b : Bool} : zEr b = -5 ↔ b = true := by cases b <;> decide
theorem zRo_t {b : Bool} : zRo b = -4 ↔ b = true := by cases b <;> decide
def cmA (S rr pd : Nat → Nat) (td c k : Nat) : Nat → (Nat → Nat) × Bool × Bool
  | 0 => (S, false, false)
  | i + 1 => if (cmA S rr pd td c k i).2.1 = true then cmA S rr pd td c k i
    else if mKn (cmA S rr pd td c k i).1 rr pd i = none ∧ (cmA S rr pd td c k i).1 4 = 40 then ((cmA S rr pd td c k i).1, mBd (cmA S rr pd td c k i).1 rr pd td i c k, true)
    else (mLS (cmA S rr pd td c k i).1 rr pd i, mLS (cmA S rr pd td c k i).1 rr pd i (9 + 10 * zLn (cmA S rr pd td c k i).1 rr pd i + 7) == 1 || mOn (mLS (cmA S rr pd td c k i).1 rr pd i) (zLn (cmA S rr pd td c k i).1 rr pd i) c || mBd (mLS (cmA S rr pd td c k i).1 rr pd i) rr pd td i c k, (cmA S rr pd td c k i).2.2)
section
variable {S rr pd : Nat → Nat} {td c k i : Nat}
theorem cmA_e (h : (cmA S rr pd td c k i).2.1 = true) : cmA S rr pd td c k (i + 1) = cmA S rr pd td c k i := if_pos h
theorem cmA_k (h : (cmA S rr pd td c k i).2.1 = false) (hn : mKn (cmA S rr pd td c k i).1 rr pd i = none) (h40 : (cmA S rr pd td c k i).1 4 = 40) : cmA S rr pd td c k (i + 1) = ((cmA S rr pd td c k i).1, mBd (cmA S rr pd td c k i).1 rr pd td i c k, true) := (if_neg (by rw [h]; exact Bool.false_ne_true)).trans (if_pos ⟨hn, h40⟩)
theorem cmA_l (h : (cmA S rr pd td c k i).2.1 = false) (hn : ¬ (mKn (cmA S rr pd td c k i).1 rr pd i = none ∧ (cmA S rr pd td c k i).1 4 = 40)) : cmA S rr pd td c k (i + 1) = (mLS (cmA S rr pd td c k i).1 rr pd i, mLS (cmA S rr pd td c k i).1 rr pd i (9 + 10 * zLn (cmA S rr pd td c k i).1 rr pd i + 7) == 1 || mOn (mLS (cmA S rr pd td c k i).1 rr pd i) (zLn (cmA S rr pd td c k i).1 rr pd i) c || mBd (mLS (cmA S rr pd td c k i).1 rr pd i) rr pd td i c k, (cmA S rr pd td c k i).2.2) := (if_neg (by rw [h]; exact Bool.false_ne_true)).trans (if_neg hn)
theorem cmA_stay (h : (cmA S rr pd td c k i).2.1 = true) : ∀ d, cmA S rr pd td c k (i + d) = cmA S rr pd td c k i
  | 0 => rfl
  | d + 1 => by
    have h1 := cmA_stay h d
    rw [show i + (d + 1) = i + d + 1 by omega, cmA_e (by rw [h1]; exact h), h1]
theorem cmA_end (h : (cmA S rr pd td c k i).2.1 = true) (hi : i ≤ td) : cmA S rr pd td c k td = cmA S rr pd td c k i := by
  have := cmA_stay h (td - i)
  rw [show i + (td - i) = td by omega] at this; exact this
end
theorem cmA_ok {S rr pd : Nat → Nat} {td c k : Nat} (h : mOk S) (hR : rOk rr pd td) : ∀ i, i ≤ td → mOk (cmA S rr pd td c k i).1 ∧ (∀ x, (x < 9 ∨ 409 ≤ x) → x ≠ 4 → (cmA S rr pd td c k i).1 x = S x) ∧ S 4 ≤ (cmA S rr pd td c k i).1 4
  | 0, _ => ⟨h, fun _ _ _ => rfl, Nat.le_refl _⟩
  | i + 1, hi => by
    obtain ⟨h1, h2, h3⟩ := cmA_ok (c := c) (k := k) h hR i (by omega)
    cases e : (cmA S rr pd td c k i).2.1 with
    | true => rw [cmA_e e]; exact ⟨h1, h2, h3⟩
    | false =>
      by_cases hn : mKn (cmA S rr pd td c k i).1 rr pd i = none ∧ (cmA S rr pd td c k i).1 4 = 40
      · rw [cmA_k e hn.1 hn.2]; exact ⟨h1, h2, h3⟩
      · rw [cmA_l e hn]
        have h40 : mKn (cmA S rr pd td c k i).1 rr pd i = none → (cmA S rr pd td c k i).1 4 < 40 := fun q => by
          have := h1.n
          have : (cmA S rr pd td c k i).1 4 ≠ 40 := fun z => hn ⟨q, z⟩
          omega
        refine ⟨mOk_mLS h1 hR (by omega) h40, fun x hx h4 => ?_, ?_⟩
        · rw [← h2 x hx h4]
          by_cases q : mKn (cmA S rr pd td c k i).1 rr pd i = none
          · show mLS (cmA S rr pd td c k i).1 rr pd i x = _
            have := h40 q
            rw [mLS_n q]
            rcases hx with d | d
            · exact lS_lo (by omega) h4
            · exact lS_hi (by omega) (hR.l (by omega))
          · show mLS (cmA S rr pd td c k i).1 rr pd i x = _
            rw [mLS_o q]
        · show S 4 ≤ mLS (cmA S rr pd td c k i).1 rr pd i 4
          by_cases q : mKn (cmA S rr pd td c k i).1 rr pd i = none
          · rw [mLS_n q, lS_4]; omega
          · rw [mLS_o q]; exact h3
def cmR (S rr pd : Nat → Nat) (td c k : Nat) : Int32 := if (cmA S rr pd td c k td).2.1 = true then -5 else if (cmA S rr pd td c k td).2.2 = true ∨ 8 < (cmA S rr pd td c k td).1 (409 + 27 * c + 9 * k) + td then -4 else 0
/-- known names stay known -/
theorem mtB_c {S T rr pd : Nat → Nat} {w n : Nat} (h0 : T (9 + 10 * n) = S (9 + 10 * n)) (h : ∀ j, j < rr (2 * w + 1) → T (9 + 10 * n + 1 + j) = S (9 + 10 * n + 1 + j)) : mtB T rr pd w n = mtB S rr pd w n := by
  unfold mtB
  rw [h0, aN_cong (fun j hj => by rw [h j hj])]
theorem lF_some {p : Nat → Bool} {n i : Nat} (hi : i < n) (h : p i = true) : lF p n ≠ none := fun e => by
  have := lF_n e i hi
  rw [h] at this; cases this
theorem mKn_lS {S rr pd : Nat → Nat} {td w u : Nat} (hR : rOk rr pd td) (hu : u < td) (h : mKn S rr pd u ≠ none) : mKn (lS S rr pd w) rr pd u ≠ none := by
  cases e : mKn S rr pd u with
  | none => exact absurd e h
  | some v =>
    obtain ⟨a, b, -⟩ := lF_s e
    have := hR.l hu
    refine lF_some (i := v) (by rw [lS_4]; omega) ?_
    rw [mtB_c (S := S) (lS_lo (by omega) (by omega)) (fun j hj => lS_lo (by omega) (by omega))]; exact b
theorem mKn_nw {S rr pd : Nat → Nat} {w : Nat} : mKn (lS S rr pd w) rr pd w ≠ none := by
  refine lF_some (i := S 4) (by rw [lS_4]; exact Nat.lt_succ_self _) ?_
  unfold mtB
  rw [lS_n, aN_f.mpr (fun j hj => by rw [lS_c hj]; simp)]
  simp
theorem cmA_kn {S rr pd : Nat → Nat} {td c k : Nat} (hR : rOk rr pd td) : ∀ i, i ≤ td → (cmA S rr pd td c k i).2.1 = false → (cmA S rr pd td c k i).2.2 = false → ∀ u, u < i → mKn (cmA S rr pd td c k i).1 rr pd u ≠ none
  | 0, _, _, _, u, hu => absurd hu (Nat.not_lt_zero u)
  | i + 1, hi, he, hr, u, hu => by
    cases e : (cmA S rr pd td c k i).2.1 with
    | true => rw [cmA_e e, e] at he; cases he
    | false =>
      by_cases hn : mKn (cmA S rr pd td c k i).1 rr pd i = none ∧ (cmA S rr pd td c k i).1 4 = 40
      · rw [cmA_k e hn.1 hn.2] at hr; cases hr
      · rw [cmA_l e hn] at hr ⊢
        show mKn (mLS (cmA S rr pd td c k i).1 rr pd i) rr pd u ≠ none
        rcases Nat.lt_or_ge u i with d | d
        · have h1 := cmA_kn hR i (by omega) e hr u d
          by_cases q : mKn (cmA S rr pd td c k i).1 rr pd i = none
          · rw [mLS_n q]; exact mKn_lS hR (by omega) h1
          · rw [mLS_o q]; exact h1
        · have eu : u = i := by omega
          subst eu
          by_cases q : mKn (cmA S rr pd td c k u).1 rr pd u = none
          · rw [mLS_n q]; exact mKn_nw
          · rw [mLS_o q]; exact q
theorem cmR_pos {S rr pd : Nat → Nat} {td c k : Nat} (h : ¬ cmR S rr pd td c k < 0) : (cmA S rr pd td c k td).2.1 = false ∧ (cmA S rr pd td c k td).2.2 = false ∧ (cmA S rr pd td c k td).1 (409 + 27 * c + 9 * k) + td ≤ 8 := by
  unfold cmR at h
  split at h
  · exact absurd (by decide) h
  · rename_i q
    split at h
    · exact absurd (by decide) h
    · rename_i q2
      refine ⟨?_, ?_, ?_⟩
      · cases e : (cmA S rr pd td c k td).2.1 with
        | true => exact absurd e q
        | false => rfl
      · cases e : (cmA S rr pd td c k td).2.2 with
        | true => exact absurd (Or.inl e) q2
        | false => rfl
      · rcases Nat.lt_or_ge 8 ((cmA S rr pd td c k td).1 (409 + 27 * c + 9 * k) + td) with d | d
        · exact absurd (Or.inr d) q2
        · exact d
/-- the names of the pad at the end of a list -/
def flM (T rr pd : Nat → Nat) (q : Nat) : Nat → (Nat → Nat)
  | 0 => T
  | i + 1 => adL (flM T rr pd q i) q ((mKn (flM T rr pd q i) rr pd i).getD 0)
theorem mKn_cg {S T rr pd : Nat → Nat} {td w : Nat} (hR : rOk rr pd td) (hw : w < td) (hS : S 4 ≤ 40) (h : ∀ x, x < 409 → T x = S x) : mKn T rr pd w = mKn S rr pd w := by
  unfold mKn
  rw [h 4 (by decide)]
  have := hR.l hw
  have hc : ∀ {n : Nat}, n ≤ 40 → lF (mtB T rr pd w) n = lF (mtB S rr pd w) n := by
    intro n
    induction n with
    | zero => intro _; rfl
    | succ n ih =>
      intro hn
      show (if _ then _ else _) = (if _ then _ else _)
      rw [mtB_c (S := S) (T := T) (h _ (by omega)) (fun j hj => h _ (by omega)), ih (by omega)]
  exact hc hS
theorem flM_ok {T rr pd : Nat → Nat} {td c k : Nat} (h : mOk T) (hR : rOk rr pd td) (hc : c < 2) (hk : k < 3) (h8 : T (409 + 27 * c + 9 * k) + td ≤ 8) (hkn : ∀ u, u < td → mKn T rr pd u ≠ none) : ∀ i, i ≤ td → mOk (flM T rr pd (409 + 27 * c + 9 * k) i) ∧ flM T rr pd (409 + 27 * c + 9 * k) i (409 + 27 * c + 9 * k) = T (409 + 27 * c + 9 * k) + i ∧ ∀ x, x < 409 → flM T rr pd (409 + 27 * c + 9 * k) i x = T x
  | 0, _ => ⟨h, rfl, fun _ _ => rfl⟩
  | i + 1, hi => by
    obtain ⟨h1, h2, h3⟩ := flM_ok h hR hc hk h8 hkn i (by omega)
    have h4 := hkn i (by omega)
    rw [← mKn_cg hR (by omega) h.n h3] at h4
    cases e : mKn (flM T rr pd (409 + 27 * c + 9 * k) i) rr pd i with
    | none => exact absurd e h4
    | some v =>
      show mOk (adL _ _ ((mKn (flM T rr pd (409 + 27 * c + 9 * k) i) rr pd i).getD 0)) ∧ adL _ _ ((mKn (flM T rr pd (409 + 27 * c + 9 * k) i) rr pd i).getD 0) _ = _ ∧ ∀ x, x < 409 → adL _ _ ((mKn (flM T rr pd (409 + 27 * c + 9 * k) i) rr pd i).getD 0) x = T x
      rw [e]
      refine ⟨mOk_ad h1 hc hk (by omega) (mKn_lt e), by rw [adL_q, h2]; omega, fun x hx => ?_⟩
      rw [adL_lo (by omega)]; exact h3 x hx
