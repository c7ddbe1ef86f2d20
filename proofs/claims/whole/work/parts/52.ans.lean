/-! the answers of the queries are the same -/
section
variable {Y : ST} {S : Nat → Nat}
theorem RS.n4 (h : RS Y S) {k : Nat} (h1 : 1 ≤ k) (h2 : k ≤ 4) : (Y.2 k).1 = S 4 := h.2.2.1.2.1 k h1 h2
theorem RS.le40 (h : RS Y S) : S 4 ≤ 40 := h.2.2.1.1
theorem RS.is (h : RS Y S) {n : Nat} (hn : n < S 4) : kIs ((Y.2 1).2 n) (S (9 + 10 * n)) (fun j => S (9 + 10 * n + 1 + j)) := (h.2.2.1.2.2.1 n hn).1
theorem RS.key (h : RS Y S) {n : Nat} (hn : n < S 4) : rA (Y.2 1) n = (Y.2 1).2 n := rA_in (by rw [h.n4 (by decide) (by decide)]; exact hn)
theorem RS.inj (h : RS Y S) {a b : Nat} (ha : a < S 4) (hb : b < S 4) (e : (Y.2 1).2 a = (Y.2 1).2 b) : a = b := h.2.2.1.2.2.2 a b ha hb e
theorem RS.px (h : RS Y S) {a b : Nat} (ha : a < S 4) (hb : b < S 4) : kS ((Y.2 1).2 a) ((Y.2 1).2 b) = mPx S a b := kS_is (h.is ha) (h.is hb)
theorem RS.set (h : RS Y S) {i : Nat} (hi : i < 3) : rA (Y.2 0) i = S i := by
  rw [rA_in (by rw [h.2.1.1]; exact hi)]; exact h.2.1.2 i hi
theorem RS.n5 (h : RS Y S) {k : Nat} (h1 : 11 ≤ k) (h2 : k ≤ 13) : (Y.2 k).1 = S 5 := h.2.2.2.2.1.2.1 k h1 h2
theorem RS.n7 (h : RS Y S) {k : Nat} (h1 : 14 ≤ k) (h2 : k ≤ 16) : (Y.2 k).1 = S 7 := h.2.2.2.2.2.1.2.1 k h1 h2
theorem RS.ll (h : RS Y S) {c k : Nat} (hc : c < 2) (hk : k < 3) : (Lst Y c k).1 = S (409 + 27 * c + 9 * k) := by rw [qLix]; exact (h.2.2.2.1 (lix c k) (lix_lt hc hk)).1
theorem RS.l8 (h : RS Y S) {c k : Nat} (hc : c < 2) (hk : k < 3) : S (409 + 27 * c + 9 * k) ≤ 8 := by rw [qLix]; exact (h.2.2.2.1 (lix c k) (lix_lt hc hk)).2.1
theorem RS.le (h : RS Y S) {c k j : Nat} (hc : c < 2) (hk : k < 3) (hj : j < S (409 + 27 * c + 9 * k)) : (Lst Y c k).2 j = S (409 + 27 * c + 9 * k + 1 + j) ∧ S (409 + 27 * c + 9 * k + 1 + j) < S 4 := by rw [qLix] at hj ⊢; exact (h.2.2.2.1 (lix c k) (lix_lt hc hk)).2.2.1 j hj
theorem RS.st (h : RS Y S) {g : Nat} (hg : g < S 5) : (Y.2 11).2 g = S (463 + 3 * g) ∧ (Y.2 12).2 g = S (463 + 3 * g + 1) ∧ (Y.2 13).2 g = S (463 + 3 * g + 2) ∧ S (463 + 3 * g) < S 4 ∧ S (463 + 3 * g + 1) < 2 := h.2.2.2.2.1.2.2.1 g hg
theorem RS.sk (h : RS Y S) {k : Nat} (hk : k < S 7) : (Y.2 14).2 k = S (511 + 3 * k) ∧ S (511 + 3 * k) < S 4 ∧ (Y.2 15).2 k = S (511 + 3 * k + 1) ∧ (Y.2 16).2 k = S (511 + 3 * k + 2) := h.2.2.2.2.2.1.2.2 k hk
theorem q_ls (h : RS Y S) {c k v : Nat} (hc : c < 2) (hk : k < 3) : (rPl (Lst Y c k) v).isSome = mLs S v c k := by
  unfold rPl mLs
  rw [fF_isSome, h.ll hc hk]
  exact aN_cong fun j hj => by rw [(h.le hc hk hj).1]
theorem q_on (h : RS Y S) {v c : Nat} (hc : c < 2) : stO Y v c = mOn S v c := by
  unfold stO mOn
  show (((false || (rPl (Lst Y c 0) v).isSome) || (rPl (Lst Y c 1) v).isSome) || (rPl (Lst Y c 2) v).isSome) = _
  rw [Bool.false_or, q_ls h hc (by decide), q_ls h hc (by decide), q_ls h hc (by decide)]
theorem q_co (h : RS Y S) {v : Nat} : coF Y v 2 = (if mOn S v 0 then 1 else 0) + (if mOn S v 1 then 2 else 0) := by
  show (if stO Y v 1 = true then (if stO Y v 0 = true then 0 ||| 2 ^ 0 else 0) ||| 2 ^ 1 else (if stO Y v 0 = true then 0 ||| 2 ^ 0 else 0)) = _
  rw [q_on h (by decide), q_on h (by decide)]
  cases mOn S v 0 <;> cases mOn S v 1 <;> rfl
theorem q_ns (h : RS Y S) {v : Nat} : nsO Y v = mSk S v := by
  unfold nsO mSk
  rw [h.n7 (by decide) (by decide)]
  exact cN_cong fun j hj => by rw [(h.sk hj).1]
theorem q_lk (h : RS Y S) : lik Y = S 2 := h.set (by decide)
theorem q_al (h : RS Y S) {a b : Nat} (ha : a < S 4) (hb : b < S 4) : kAl ((Y.2 1).2 a) ((Y.2 1).2 b) (lik Y) = mAl S a b := by
  unfold kAl mAl
  rw [q_lk h, h.px ha hb]
  congr 1
  rw [Bool.eq_iff_iff, bne_iff_ne, bne_iff_ne]
  exact ⟨fun q e => q (by rw [e]), fun q e => q (h.inj ha hb e)⟩
theorem q_an (h : RS Y S) {a : Nat} (ha : a < S 4) : alT Y a = mAn S a := by
  unfold alT mAn
  rw [h.n4 (by decide) (by decide), h.key ha]
  exact cN_cong fun j hj => q_al h ha hj
theorem a_Of (h : RS Y S) (a w : Int32) : cOf Y a w = mOf S a w := by
  unfold cOf mOf
  rw [h.n4 (k := 1) (by decide) (by decide)]
  rcases inR_or a (S 4) with e | ⟨n, hn, hn31, rfl⟩
  · rw [e]; rfl
  · rw [inR_i hn hn31, if_pos rfl, if_pos rfl]
    rcases inR_or w 7 with e | ⟨k, hk, hk31, rfl⟩
    · rw [e]; rfl
    · rw [inR_i hk hk31, if_pos rfl, if_pos rfl, nI_clamp hn31, nI_clamp hk31]
      have hd := h.2.2.1.2.2.1 n hn
      match k, hk with
      | 0, _ => show nI _ = nI _; rw [h.key hn, kS_self (h.is hn)]
      | 1, _ => show nI _ = nI _; rw [rA_in (by rw [h.n4 (by decide) (by decide)]; exact hn), hd.2.1]
      | 2, _ => show nI _ = nI _; rw [q_co h]
      | 3, _ => show nI _ = nI _; rw [rA_in (by rw [h.n4 (by decide) (by decide)]; exact hn), hd.2.2.1]
      | 4, _ => show nI _ = nI _; rw [rA_in (by rw [h.n4 (by decide) (by decide)]; exact hn), hd.2.2.2]
      | 5, _ => show nI _ = nI _; rw [q_ns h]
      | 6, _ => show nI _ = nI _; rw [q_an h hn]
      | k + 7, hk => omega
theorem a_Letter (h : RS Y S) (a j : Int32) : cLetter Y a j = mLetter S a j := by
  unfold cLetter mLetter
  rw [h.n4 (k := 1) (by decide) (by decide)]
  rcases inR_or a (S 4) with e | ⟨n, hn, hn31, rfl⟩
  · rw [e]; rfl
  · rw [inR_i hn hn31, if_pos rfl, nI_clamp hn31, Bool.true_and, h.key hn]
    have hi := h.is hn
    rcases inR_or j (S (9 + 10 * n)) with e | ⟨i, hi2, hi31, rfl⟩
    · rw [e]
      have hz : kA ((Y.2 1).2 n) j = 0 := by
        unfold kA
        rcases inR_or j 6 with e2 | ⟨i, hi6, hi31, rfl⟩
        · rw [e2]; rfl
        · rw [inR_i hi6 hi31, if_pos rfl, nI_clamp hi31]
          rw [inR_nI hi31] at e
          exact hi.2.2.2.2 i (by simpa using e) hi6
      rw [hz]; rfl
    · rw [inR_i hi2 hi31, if_pos rfl, nI_clamp hi31, kA_nI (by have := hi.2.1; omega)]
      have h1 := hi.2.2.2.1 i hi2
      have e1 : kL ((Y.2 1).2 n) i = S (9 + 10 * n + 1 + i) - 96 := h1.2.2
      have e2 : 97 ≤ S (9 + 10 * n + 1 + i) := h1.1
      rw [if_neg (by omega), e1]
      congr 1; omega
theorem a_Listed (h : RS Y S) (c k p : Int32) : cListed Y c k p = mListed S c k p := by
  unfold cListed mListed inL
  rcases inR_or c 2 with e | ⟨i, hi, hi31, rfl⟩
  · rw [e]; rfl
  · rcases inR_or k 3 with e | ⟨j, hj, hj31, rfl⟩
    · rw [e, Bool.and_false]; rfl
    · rw [inR_i hi hi31, inR_i hj hj31, ixL_nI hi hj, nI_clamp hi31, nI_clamp hj31]
      simp only [Bool.true_and]
      rw [h.ll hi hj]
      rcases inR_or p (S (409 + 27 * i + 9 * j)) with e | ⟨q, hq, hq31, rfl⟩
      · rw [e]; rfl
      · rw [inR_i hq hq31, if_pos rfl, if_pos rfl, nI_clamp hq31, rA_in (by rw [h.ll hi hj]; exact hq), (h.le hi hj hq).1]
/-- at most one of a kind: the first is the last -/
theorem fFlF {p : Nat → Bool} {n : Nat} (hu : ∀ i j, i < n → j < n → p i = true → p j = true → i = j) : fF p n = lF p n := by
  cases e : lF p n with
  | none => exact fF_none (lF_n e)
  | some i =>
    obtain ⟨a, b, -⟩ := lF_s e
    refine fF_some a b fun j hj => ?_
    cases ej : p j with
    | false => rfl
    | true => exact absurd (hu j i (by omega) a ej b) (by omega)
theorem q_tw (h : RS Y S) {g : Nat} (hg : g < S 5) : twO Y g = mTw S g := by
  unfold twO mTw
  rw [h.n5 (by decide) (by decide), rA_in (by rw [h.n5 (by decide) (by decide)]; exact hg), (h.st hg).1]
  rw [fF_cong (q := fun o => o != g && S (463 + 3 * o) == S (463 + 3 * g)) (fun j hj => by rw [(h.st hj).1])]
  refine fFlF fun i j hi hj pi pj => ?_
  simp only [Bool.and_eq_true, bne_iff_ne, ne_eq, beq_iff_eq] at pi pj
  have hd := h.2.2.2.2.1.2.2.2
  have ci := (h.st hi).2.2.2.2
  have cj := (h.st hj).2.2.2.2
  have cg := (h.st hg).2.2.2.2
  have ni : S (463 + 3 * i + 1) ≠ S (463 + 3 * g + 1) := fun e => pi.1 (hd i g hi hg pi.2 e)
  have nj : S (463 + 3 * j + 1) ≠ S (463 + 3 * g + 1) := fun e => pj.1 (hd j g hj hg pj.2 e)
  exact hd i j hi hj (by rw [pi.2, pj.2]) (by omega)
theorem a_OfS (h : RS Y S) (g w : Int32) : cOfS Y g w = mOfS S g w := by
  unfold cOfS mOfS
  rw [h.n5 (k := 11) (by decide) (by decide)]
  rcases inR_or g (S 5) with e | ⟨n, hn, hn31, rfl⟩
  · rw [e]; rfl
  · rw [inR_i hn hn31, if_pos rfl, if_pos rfl, nI_clamp hn31]
    have hd := h.st hn
    rcases inR_or w 4 with e | ⟨k, hk, hk31, rfl⟩
    · rw [e]
      have e3 : inR w 3 = false := by
        rcases inR_or w 3 with q | ⟨k, hk, hk31, rfl⟩
        · exact q
        · rw [inR_i (by omega) hk31] at e; cases e
      rw [e3, if_neg Bool.false_ne_true, if_neg Bool.false_ne_true, if_neg (fun q => by rw [q, inR_i (by decide) (by decide)] at e; cases e)]
    · rw [inR_i hk hk31, if_pos rfl, nI_clamp hk31]
      match k, hk with
      | 0, _ => rw [inR_i (by decide) (by decide), if_pos rfl]; show nI _ = nI _; rw [rA_in (by rw [h.n5 (by decide) (by decide)]; exact hn), hd.1]; rfl
      | 1, _ => rw [inR_i (by decide) (by decide), if_pos rfl]; show nI _ = nI _; rw [rA_in (by rw [h.n5 (by decide) (by decide)]; exact hn), hd.2.1]
      | 2, _ => rw [inR_i (by decide) (by decide), if_pos rfl]; show nI _ = nI _; rw [rA_in (by rw [h.n5 (by decide) (by decide)]; exact hn), hd.2.2.1]
      | 3, _ => rw [show inR (nI 3) 3 = false by decide, if_neg Bool.false_ne_true, if_pos rfl]; show oI _ _ = oI _ _; rw [q_tw h hn]
      | k + 4, hk => omega
theorem a_OfN (h : RS Y S) (g w : Int32) : cOfN Y g w = mOfN S g w := by
  unfold cOfN mOfN
  rw [h.n7 (k := 14) (by decide) (by decide)]
  rcases inR_or g (S 7) with e | ⟨n, hn, hn31, rfl⟩
  · rw [e]; rfl
  · rw [inR_i hn hn31, if_pos rfl, if_pos rfl, nI_clamp hn31]
    have hd := h.sk hn
    rcases inR_or w 3 with e | ⟨k, hk, hk31, rfl⟩
    · rw [e]; rfl
    · rw [inR_i hk hk31, if_pos rfl, if_pos rfl, nI_clamp hk31]
      match k, hk with
      | 0, _ => show nI _ = nI _; rw [rA_in (by rw [h.n7 (by decide) (by decide)]; exact hn), hd.1]; rfl
      | 1, _ => show nI _ = nI _; rw [rA_in (by rw [h.n7 (by decide) (by decide)]; exact hn), hd.2.2.1]
      | 2, _ => show nI _ = nI _; rw [rA_in (by rw [h.n7 (by decide) (by decide)]; exact hn), hd.2.2.2]
      | k + 3, hk => omega
theorem cN_lt {p q : Nat → Bool} {i : Nat} : ∀ {n : Nat}, i < n → (∀ x, x < n → p x = true → q x = true) → p i = false → q i = true → cN p n < cN q n
  | 0, hi, _, _, _ => absurd hi (Nat.not_lt_zero i)
  | n + 1, hi, h, h1, h2 => by
    rw [cN_s, cN_s]
    have hle : ∀ {m : Nat}, (∀ x, x < m → p x = true → q x = true) → cN p m ≤ cN q m := by
      intro m
      induction m with
      | zero => intro _; exact Nat.le_refl 0
      | succ m ih =>
        intro hh
        rw [cN_s, cN_s]
        have := ih fun x hx => hh x (by omega)
        cases e : p m with
        | false => rw [if_neg Bool.false_ne_true]; omega
        | true => rw [hh m (by omega) e]; omega
    rcases Nat.lt_or_ge i n with a | a
    · have := cN_lt (n := n) a (fun x hx => h x (by omega)) h1 h2
      cases e : p n with
      | false => rw [if_neg Bool.false_ne_true]; omega
      | true => rw [h n (by omega) e]; omega
    · have ei : i = n := by omega
      subst ei
      have := hle (m := i) (fun x hx => h x (by omega))
      rw [h1, h2, if_neg Bool.false_ne_true, if_pos rfl]; omega
theorem q_ah (h : RS Y S) {a b : Nat} (ha : a < S 4) (hb : b < S 4) : mAh S a b = decide ((Y.2 1).2 a < (Y.2 1).2 b) := by
  have := kLt (h.is ha) (h.is hb)
  rw [h.px ha hb] at this
  unfold mAh
  by_cases q : mPx S a b = S (9 + 10 * a) ∨ mPx S a b = S (9 + 10 * b)
  · rw [if_pos q] at this ⊢
    exact (decide_eq_decide.mpr this).symm
  · rw [if_neg q] at this ⊢
    exact (decide_eq_decide.mpr this).symm
theorem q_rk (h : RS Y S) {n : Nat} (hn : n < S 4) : rnk Y n = mRa S n := by
  unfold rnk mRa
  rw [h.n4 (by decide) (by decide), h.key hn]
  refine cN_cong fun j hj => ?_
  rw [q_ah h hj hn]
  by_cases e : j = n
  · subst e; simp
  · rw [show (j != n) = true by simp [e], Bool.true_and]
theorem a_Ranked (h : RS Y S) (r : Int32) : cRanked Y r = mRanked S r := by
  unfold cRanked mRanked
  rw [h.n4 (by decide) (by decide)]
  have hb : ∀ n, n < S 4 → rnk Y n < 2 ^ 31 := fun n hn => by
    have h1 : rnk Y n ≤ (Y.2 1).1 := cN_le _ _
    rw [h.n4 (by decide) (by decide)] at h1
    have := h.le40
    omega
  by_cases hr : r < 0
  · rw [if_pos hr, fF_none (fun j hj => by
      rw [decide_eq_false_iff_not]
      intro e
      rw [← e] at hr
      exact nI_pos (hb j hj) hr)]
    rfl
  · rw [if_neg hr]
    congr 1
    rw [fF_cong (q := fun n => decide (nI (mRa S n) = r)) (fun j hj => by rw [q_rk h hj])]
    refine fFlF fun i j hi hj pi pj => ?_
    have e := (of_decide_eq_true pi).trans (of_decide_eq_true pj).symm
    rw [← q_rk h hi, ← q_rk h hj] at e
    have e := nI_inj (hb i hi) (hb j hj) e
    have key : ∀ a b, a < S 4 → b < S 4 → (Y.2 1).2 a < (Y.2 1).2 b → rnk Y a < rnk Y b := fun a b ha hb q => by
      unfold rnk
      rw [h.n4 (by decide) (by decide), h.key ha, h.key hb]
      exact cN_lt ha (fun x _ hx => by have := of_decide_eq_true hx; exact decide_eq_true (by omega)) (decide_eq_false (by omega)) (decide_eq_true q)
    rcases Nat.lt_trichotomy ((Y.2 1).2 i) ((Y.2 1).2 j) with q | q | q
    · have := key i j hi hj q; omega
    · exact h.inj hi hj q
    · have := key j i hj hi q; omega
theorem q_gv (h : RS Y S) {v c : Nat} : wGv Y v c = mGv S v c := by
  unfold wGv mGv
  rw [h.n5 (by decide) (by decide)]
  exact aN_cong fun g hg => by rw [rA_in (by rw [h.n5 (by decide) (by decide)]; exact hg), (h.st hg).1, (h.st hg).2.1]
theorem mNd_n {S : Nat → Nat} {c q n : Nat} : ∀ t, t ≤ n → (∀ i, n - t ≤ i → i < n → mGv S (S (q + 1 + i)) c = true) → mNd S c q n t = none
  | 0, _, _ => rfl
  | t + 1, ht, h => by
    rw [mNd, if_pos (h (n - 1 - t) (by omega) (by omega))]
    exact mNd_n t (by omega) fun i h1 h2 => h i (by omega) h2
theorem mNd_s {S : Nat → Nat} {c q n i : Nat} (hi : i < n) (hg : mGv S (S (q + 1 + i)) c = false) : ∀ t, t ≤ n → n - t ≤ i → (∀ j, n - t ≤ j → j < i → mGv S (S (q + 1 + j)) c = true) → mNd S c q n t = some (S (q + 1 + i))
  | 0, _, h1, _ => by omega
  | t + 1, ht, h1, h => by
    by_cases e : i = n - 1 - t
    · subst e
      rw [mNd, hg, if_neg Bool.false_ne_true]
    · rw [mNd, if_pos (h (n - 1 - t) (by omega) (by omega))]
      exact mNd_s hi hg t (by omega) (by omega) fun j h2 h3 => h j (by omega) h3
theorem q_nx (h : RS Y S) {c : Nat} (hc : c < 2) : nxN Y c = mNx S c := by
  unfold nxN mNx
  have hk : S 3 % 3 < 3 := Nat.mod_lt _ (by decide)
  rw [show Y.1 = S 3 from h.1.1, h.ll hc hk]
  cases e : fF (fun i => !wGv Y ((Lst Y c (S 3 % 3)).2 i) c) (S (409 + 27 * c + 9 * (S 3 % 3))) with
  | none =>
    have hn := fF_n e
    rw [mNd_n _ (Nat.le_refl _) (fun i _ hi => by
      have := hn i hi
      rw [(h.le hc hk hi).1, q_gv h] at this
      simpa using this)]
    rfl
  | some i =>
    obtain ⟨a, b, d⟩ := fF_s e
    rw [mNd_s a (by rw [(h.le hc hk a).1, q_gv h] at b; simpa using b) _ (Nat.le_refl _) (by omega) (fun j _ hj => by
      have := d j hj
      rw [(h.le hc hk (by omega)).1, q_gv h] at this
      simpa using this)]
    show some ((Lst Y c (S 3 % 3)).2 i) = _
    rw [(h.le hc hk a).1]
theorem a_Next (h : RS Y S) (c : Int32) : cNext Y c = mNext S c := by
  unfold cNext mNext
  rcases inR_or c 2 with e | ⟨i, hi, hi31, rfl⟩
  · rw [e]; rfl
  · rw [inR_i hi hi31, nI_clamp hi31, q_nx h hi]
theorem a_Left (h : RS Y S) (c a : Int32) : cLeft Y c a = mLeft S c a := by
  unfold cLeft mLeft
  rcases inR_or c 2 with e | ⟨i, hi, hi31, rfl⟩
  · rw [e]; rfl
  · rw [inR_i hi hi31, nI_clamp hi31, if_pos rfl, if_pos rfl]
    rcases inR_or a 3 with e | ⟨j, hj, hj31, rfl⟩
    · rw [e]; rfl
    · rw [inR_i hj hj31, nI_clamp hj31, if_pos rfl, if_pos rfl]
      congr 1
      unfold nmL mLf
      have hk : (S 3 + j) % 3 < 3 := Nat.mod_lt _ (by decide)
      rw [show Y.1 = S 3 from h.1.1, h.ll hi hk]
      exact cN_cong fun m hm => by rw [(h.le hi hk hm).1, q_gv h]
theorem q_hm (h : RS Y S) (v : Nat) : hrY Y v = mHm S v := by
  unfold hrY mHm
  rw [h.n5 (by decide) (by decide)]
  exact sN_cong fun g hg => by rw [rA_in (by rw [h.n5 (by decide) (by decide)]; exact hg), (h.st hg).1, (h.st hg).2.2.1]
theorem q_hd (h : RS Y S) (l : Nat) : hdB Y l = mIf S l := by
  unfold hdB mIf
  rw [h.n4 (by decide) (by decide)]
  exact cN_cong fun n _ => by rw [q_hm h]
theorem a_IfR (h : RS Y S) (l : Int32) : cIfR Y l = mIfR S l := by
  unfold cIfR mIfR
  rw [q_hd h]
theorem a_Same (h : RS Y S) (a b : Int32) : cSame Y a b = mSame S a b := by
  unfold cSame mSame
  rw [h.n4 (k := 1) (by decide) (by decide)]
  rcases inR_or a (S 4) with e | ⟨i, hi, hi31, rfl⟩
  · rw [e]; rfl
  · rcases inR_or b (S 4) with e | ⟨j, hj, hj31, rfl⟩
    · rw [e, Bool.and_false]; rfl
    · rw [inR_i hi hi31, inR_i hj hj31, nI_clamp hi31, nI_clamp hj31, h.key hi, h.key hj, h.px hi hj]
theorem q_tn (h : RS Y S) : twN Y = mTn S := by
  unfold twN mTn
  rw [h.n5 (by decide) (by decide)]
  exact cN_cong fun g hg => by unfold twB mTb; rw [q_tw h hg]; cases mTw S g <;> rfl
end
theorem a_Count {X : XS} {S : Nat → Nat} {ln sts : Nat} (h : RS X.1 S) (h1 : X.2.1.1.1 = ln) (h2 : X.2.2.1.1 = sts) (w : Int32) : cCount X w = mCount S ln sts w := by
  unfold cCount mCount
  rcases inR_or w 14 with e | ⟨k, hk, hk31, rfl⟩
  · rw [e]; rfl
  · rw [inR_i hk hk31, if_pos rfl, if_pos rfl, nI_clamp hk31]
    match k, hk with
    | 0, _ => show nI _ = nI _; rw [h.1.1]
    | 1, _ => show nI _ = nI _; rw [h.n4 (by decide) (by decide)]
    | 2, _ => show nI _ = nI _; rw [h.n4 (by decide) (by decide)]; congr 1; exact sN_cong fun n hn => (h.2.2.1.2.2.1 n hn).2.1
    | 3, _ => show nI _ = nI _; rw [h.n5 (by decide) (by decide)]
    | 4, _ => show nI _ = nI _; rw [h.n4 (by decide) (by decide), h.2.2.2.2.2.2.1]; congr 1; exact sN_cong fun n hn => (h.2.2.1.2.2.1 n hn).2.2.1
    | 5, _ => show nI _ = nI _; rw [q_tn h]
    | 6, _ => show nI _ = nI _; rw [h.n7 (by decide) (by decide)]
    | 7, _ => show nI _ = nI _; rw [h.n7 (by decide) (by decide)]; congr 1; exact sN_cong fun n hn => (h.sk hn).2.2.1
    | 8, _ => show nI _ = nI _; rw [h.n7 (by decide) (by decide), h.2.2.2.2.2.2.2]; congr 1; exact sN_cong fun n hn => (h.sk hn).2.2.2
    | 9, _ => show nI _ = nI _; rw [h.set (by decide)]
    | 10, _ => show nI _ = nI _; rw [h.set (by decide)]
    | 11, _ => show nI _ = nI _; rw [h.set (by decide)]
    | 12, _ => show nI _ = nI _; rw [h1]
    | 13, _ => show nI _ = nI _; rw [h2]
    | k + 14, hk => omega
