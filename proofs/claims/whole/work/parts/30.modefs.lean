/-! THE REFERENCE: its object and seven rows; what its queries answer, in the words of its row S. -/
def MAt (G : gT) (o : Nat) (S sp bf sv iz rd pd : Nat → Nat) (ln sts td ac : Nat) (H : Heap) : Prop :=
  gE G o (eO 6 [.ref (o + 1), .ref (o + 2), .ref (o + 3), .ref (o + 4), .ref (o + 5), .ref (o + 6), .ref (o + 7), .int (nI ln), .int (nI sts), .int (nI td), .int (nI ac)]) H ∧ gE G (o + 1) (eI G 541 S) H ∧ gE G (o + 2) (eI G 541 sp) H ∧ gE G (o + 3) (eI G 3246 bf) H ∧ gE G (o + 4) (eI G 1082 sv) H ∧ gE G (o + 5) (eZ G 2 iz) H ∧ gE G (o + 6) (eI G 60 rd) H ∧ gE G (o + 7) (eC G 80 pd) H
/-- how many first places are of a kind -/
def pfx (p : Nat → Bool) (n : Nat) : Nat := (fF (fun j => !p j) n).getD n
theorem pfx_at {p : Nat → Bool} {n i : Nat} (hi : i ≤ n) (h : ∀ j, j < i → p j = true) (h2 : i < n → p i = false) : pfx p n = i := by
  unfold pfx
  rcases Nat.lt_or_ge i n with q | q
  · rw [fF_some q (by rw [h2 q]; rfl) (fun j hj => by rw [h j hj]; rfl)]; rfl
  · rw [fF_none (fun j hj => by rw [h j (by omega)]; rfl)]; show n = i; omega
theorem pfx_le (p : Nat → Bool) (n : Nat) : pfx p n ≤ n := by
  unfold pfx
  cases e : fF (fun j => !p j) n with
  | some i => exact Nat.le_of_lt (fF_s e).1
  | none => exact Nat.le_refl n
theorem pfx_t {p : Nat → Bool} {n j : Nat} (h : j < pfx p n) : p j = true := by
  unfold pfx at h
  cases e : fF (fun j => !p j) n with
  | some i =>
    rw [e] at h
    have := (fF_s e).2.2 j h
    simpa using this
  | none =>
    rw [e] at h
    have := fF_n e j h
    simpa using this
theorem pfx_f {p : Nat → Bool} {n : Nat} (h : pfx p n < n) : p (pfx p n) = false := by
  unfold pfx at h ⊢
  cases e : fF (fun j => !p j) n with
  | some i =>
    have := (fF_s e).2.1
    show p i = false
    simpa using this
  | none => rw [e] at h; exact absurd h (Nat.lt_irrefl n)
theorem pfx_cong {p q : Nat → Bool} {n : Nat} (h : ∀ j, j < n → p j = q j) : pfx p n = pfx q n := by
  unfold pfx; rw [fF_cong (fun j hj => by rw [h j hj])]
/-- the last place below n of a kind -/
def lF (p : Nat → Bool) : Nat → Option Nat
  | 0 => none
  | n + 1 => if p n then some n else lF p n
theorem lF_t {p : Nat → Bool} {n : Nat} (h : p n = true) : lF p (n + 1) = some n := if_pos h
theorem lF_f {p : Nat → Bool} {n : Nat} (h : p n = false) : lF p (n + 1) = lF p n := by show (if p n then _ else _) = _; rw [h]; rfl
abbrev qL (c k : Nat) : Nat := 409 + 27 * c + 9 * k
/-- what the reference's row keeps to -/
def mOk (S : Nat → Nat) : Prop := S 4 ≤ 40 ∧ S 5 ≤ 16 ∧ S 7 ≤ 10 ∧ (∀ c, c < 2 → ∀ k, k < 3 → S (409 + 27 * c + 9 * k) ≤ 8 ∧ ∀ j, j < S (409 + 27 * c + 9 * k) → S (409 + 27 * c + 9 * k + 1 + j) < S 4) ∧ (∀ g, g < S 5 → S (463 + 3 * g) < S 4) ∧ (∀ k, k < S 7 → S (511 + 3 * k) < S 4) ∧ (∀ n, n < S 4 → S (9 + 10 * n) ≤ 6) ∧ (∀ k, k < 541 → S k < 2 ^ 26)
theorem mOk.n {S : Nat → Nat} (h : mOk S) : S 4 ≤ 40 := h.1
theorem mOk.g {S : Nat → Nat} (h : mOk S) : S 5 ≤ 16 := h.2.1
theorem mOk.k {S : Nat → Nat} (h : mOk S) : S 7 ≤ 10 := h.2.2.1
theorem mOk.l {S : Nat → Nat} (h : mOk S) {c k : Nat} (hc : c < 2) (hk : k < 3) : S (409 + 27 * c + 9 * k) ≤ 8 := (h.2.2.2.1 c hc k hk).1
theorem mOk.le {S : Nat → Nat} (h : mOk S) {c k j : Nat} (hc : c < 2) (hk : k < 3) (hj : j < S (409 + 27 * c + 9 * k)) : S (409 + 27 * c + 9 * k + 1 + j) < S 4 := (h.2.2.2.1 c hc k hk).2 j hj
theorem mOk.ge {S : Nat → Nat} (h : mOk S) {g : Nat} (hg : g < S 5) : S (463 + 3 * g) < S 4 := h.2.2.2.2.1 g hg
theorem mOk.ke {S : Nat → Nat} (h : mOk S) {k : Nat} (hk : k < S 7) : S (511 + 3 * k) < S 4 := h.2.2.2.2.2.1 k hk
theorem mOk.nl {S : Nat → Nat} (h : mOk S) {n : Nat} (hn : n < S 4) : S (9 + 10 * n) ≤ 6 := h.2.2.2.2.2.2.1 n hn
theorem mOk.b {S : Nat → Nat} (h : mOk S) {k : Nat} (hk : k < 541) : S k < 2 ^ 31 := Nat.lt_trans (h.2.2.2.2.2.2.2 k hk) (by decide)
/-- what was read of the pad -/
def rOk (rd pd : Nat → Nat) (td : Nat) : Prop := td ≤ 27 ∧ (∀ w, w < td → rd (2 * w) + rd (2 * w + 1) ≤ 80 ∧ rd (2 * w + 1) ≤ 6) ∧ ∀ k, k < 80 → pd k < 2 ^ 16
theorem rOk.a {rd pd : Nat → Nat} {td w : Nat} (h : rOk rd pd td) (hw : w < td) : rd (2 * w) + rd (2 * w + 1) ≤ 80 := (h.2.1 w hw).1
theorem rOk.l {rd pd : Nat → Nat} {td w : Nat} (h : rOk rd pd td) (hw : w < td) : rd (2 * w + 1) ≤ 6 := (h.2.1 w hw).2
theorem rOk.p {rd pd : Nat → Nat} {td k : Nat} (h : rOk rd pd td) (hk : k < 80) : pd k < 2 ^ 31 := Nat.lt_trans (h.2.2 k hk) (by decide)
theorem inD_R {x : Int32} {n : Nat} (hn : n < 2 ^ 31) : inD x (nI 0) (nI n - nI 1) = inR x n := by
  rcases inR_or x n with h | ⟨i, hi, hi31, rfl⟩
  · rw [h]
    unfold inD
    rcases inR_out h (by omega) with q | q
    · have : ¬ nI 0 ≤ x := by rw [Int32.le_iff_toInt_le, nI_toInt (by omega)]; omega
      simp [this]
    · have : ¬ x ≤ nI n - nI 1 := by
        rcases Nat.eq_zero_or_pos n with z | z
        · subst z
          rw [Int32.le_iff_toInt_le, show (nI 0 - nI 1).toInt = -1 by decide]; omega
        · rw [gI_sub z, Int32.le_iff_toInt_le, nI_toInt (by omega)]; omega
      simp [this]
  · rw [inR_i hi hi31, gI_sub (by omega)]
    exact inD_t (Nat.zero_le i) (by omega) (by omega)
theorem inD_c {x : Int32} {h : Nat} (hh : h < 2 ^ 30) : inD x (nI 0) (nI h) = inR x (h + 1) := by
  rw [← inD_R (n := h + 1) (by omega), gI_sub (by omega)]; rfl
/-! the queries -/
def mtB (S rd pd : Nat → Nat) (w n : Nat) : Bool := S (9 + 10 * n) == rd (2 * w + 1) && !aN (fun j => S (9 + 10 * n + 1 + j) != pd (rd (2 * w) + j)) (rd (2 * w + 1))
def mKn (S rd pd : Nat → Nat) (w : Nat) : Option Nat := lF (mtB S rd pd w) (S 4)
def mPx (S : Nat → Nat) (a b : Nat) : Nat := pfx (fun j => decide (j < S (9 + 10 * a)) && decide (j < S (9 + 10 * b)) && S (9 + 10 * a + 1 + j) == S (9 + 10 * b + 1 + j)) 6
def mSp (rd pd : Nat → Nat) (w v : Nat) : Nat := pfx (fun j => decide (j < rd (2 * w + 1)) && decide (j < rd (2 * v + 1)) && pd (rd (2 * w) + j) == pd (rd (2 * v) + j)) 6
def mSa (S rd pd : Nat → Nat) (w n : Nat) : Nat := pfx (fun j => decide (j < rd (2 * w + 1)) && decide (j < S (9 + 10 * n)) && pd (rd (2 * w) + j) == S (9 + 10 * n + 1 + j)) 6
def mAl (S : Nat → Nat) (a b : Nat) : Bool := a != b && decide (S 2 ≤ mPx S a b)
def mLs (S : Nat → Nat) (v c k : Nat) : Bool := aN (fun j => S (409 + 27 * c + 9 * k + 1 + j) == v) (S (409 + 27 * c + 9 * k))
def mOn (S : Nat → Nat) (v c : Nat) : Bool := mLs S v c 0 || mLs S v c 1 || mLs S v c 2
def mGv (S : Nat → Nat) (v c : Nat) : Bool := aN (fun g => S (463 + 3 * g) == v && S (463 + 3 * g + 1) == c) (S 5)
/-- from behind: what the first t from the end give -/
def mNd (S : Nat → Nat) (c q n : Nat) : Nat → Option Nat
  | 0 => none
  | t + 1 => if mGv S (S (q + 1 + (n - 1 - t))) c then mNd S c q n t else some (S (q + 1 + (n - 1 - t)))
def mNx (S : Nat → Nat) (c : Nat) : Option Nat := mNd S c (409 + 27 * c + 9 * (S 3 % 3)) (S (409 + 27 * c + 9 * (S 3 % 3))) (S (409 + 27 * c + 9 * (S 3 % 3)))
def mHm (S : Nat → Nat) (v : Nat) : Nat := sN (fun g => if S (463 + 3 * g) == v then S (463 + 3 * g + 2) else 0) (S 5)
def mB1 (S rd pd : Nat → Nat) (w v : Nat) : Bool := v != w && ((mSp rd pd w v == rd (2 * w + 1) && mSp rd pd w v == rd (2 * v + 1)) || decide (S 2 ≤ mSp rd pd w v))
def mB2 (S rd pd : Nat → Nat) (w n : Nat) : Bool := (mSa S rd pd w n == rd (2 * w + 1) && mSa S rd pd w n == S (9 + 10 * n)) || decide (S 2 ≤ mSa S rd pd w n)
def mBd (S rd pd : Nat → Nat) (td w c k : Nat) : Bool := aN (mB1 S rd pd w) td || aN (fun j => mB2 S rd pd w (S (409 + 27 * c + 9 * k + 1 + j))) (S (409 + 27 * c + 9 * k))
def mSk (S : Nat → Nat) (v : Nat) : Nat := cN (fun k => S (511 + 3 * k) == v) (S 7)
def mAn (S : Nat → Nat) (v : Nat) : Nat := cN (fun n => mAl S v n) (S 4)
def mTw (S : Nat → Nat) (g : Nat) : Option Nat := lF (fun o => o != g && S (463 + 3 * o) == S (463 + 3 * g)) (S 5)
def mTb (S : Nat → Nat) (g : Nat) : Bool := match mTw S g with
  | some t => decide (g < t)
  | none => false
def mTn (S : Nat → Nat) : Nat := cN (mTb S) (S 5)
def mAh (S : Nat → Nat) (a b : Nat) : Bool := if mPx S a b = S (9 + 10 * a) ∨ mPx S a b = S (9 + 10 * b) then decide (S (9 + 10 * a) < S (9 + 10 * b)) else decide (S (9 + 10 * a + 1 + mPx S a b) < S (9 + 10 * b + 1 + mPx S a b))
def mRa (S : Nat → Nat) (n : Nat) : Nat := cN (fun o => o != n && mAh S o n) (S 4)
def mLf (S : Nat → Nat) (c a : Nat) : Nat := cN (fun j => decide (0 < a) || !mGv S (S (409 + 27 * c + 9 * ((S 3 + a) % 3) + 1 + j)) c) (S (409 + 27 * c + 9 * ((S 3 + a) % 3)))
def mIf (S : Nat → Nat) (h : Nat) : Nat := cN (fun n => decide (h ≤ mHm S n)) (S 4)
def mOf (S : Nat → Nat) (a w : Int32) : Int32 := if inR a (S 4) then (if inR w 7 then (match w.toNatClampNeg with
    | 0 => nI (S (9 + 10 * a.toNatClampNeg))
    | 1 => nI (S (9 + 10 * a.toNatClampNeg + 7))
    | 2 => nI ((if mOn S a.toNatClampNeg 0 then 1 else 0) + (if mOn S a.toNatClampNeg 1 then 2 else 0))
    | 3 => nI (S (9 + 10 * a.toNatClampNeg + 8))
    | 4 => nI (S (9 + 10 * a.toNatClampNeg + 9))
    | 5 => nI (mSk S a.toNatClampNeg)
    | _ => nI (mAn S a.toNatClampNeg)) else -2) else -1
def mLetter (S : Nat → Nat) (a j : Int32) : Int32 := if inR a (S 4) && inR j (S (9 + 10 * a.toNatClampNeg)) then nI (S (9 + 10 * a.toNatClampNeg + 1 + j.toNatClampNeg)) else -1
def mListed (S : Nat → Nat) (c k p : Int32) : Int32 := if inL c k && inR p (S (409 + 27 * c.toNatClampNeg + 9 * k.toNatClampNeg)) then nI (S (409 + 27 * c.toNatClampNeg + 9 * k.toNatClampNeg + 1 + p.toNatClampNeg)) else -1
def mOfS (S : Nat → Nat) (g w : Int32) : Int32 := if inR g (S 5) then (if inR w 3 then nI (S (463 + 3 * g.toNatClampNeg + w.toNatClampNeg)) else if w = nI 3 then oI (-6) (mTw S g.toNatClampNeg) else -2) else -1
def mOfN (S : Nat → Nat) (g w : Int32) : Int32 := if inR g (S 7) then (if inR w 3 then nI (S (511 + 3 * g.toNatClampNeg + w.toNatClampNeg)) else -2) else -1
def mRanked (S : Nat → Nat) (r : Int32) : Int32 := if r < 0 then -1 else oI (-1) (lF (fun n => decide (nI (mRa S n) = r)) (S 4))
def mSign (pd : Nat → Nat) (ln : Nat) (p : Int32) : Int32 := if inR p ln then nI (pd p.toNatClampNeg) else -1
def mCount (S : Nat → Nat) (ln sts : Nat) (w : Int32) : Int32 := if inR w 14 then (match w.toNatClampNeg with
    | 0 => nI (S 3)
    | 1 => nI (S 4)
    | 2 => nI (sN (fun n => S (9 + 10 * n + 7)) (S 4))
    | 3 => nI (S 5)
    | 4 => nI (S 6)
    | 5 => nI (mTn S)
    | 6 => nI (S 7)
    | 7 => nI (sN (fun k => S (511 + 3 * k + 1)) (S 7))
    | 8 => nI (S 8)
    | 9 => nI (S 0)
    | 10 => nI (S 1)
    | 11 => nI (S 2)
    | 12 => nI ln
    | _ => nI sts) else -2
def mNext (S : Nat → Nat) (c : Int32) : Int32 := if inR c 2 then oI (-6) (mNx S c.toNatClampNeg) else -1
def mLeft (S : Nat → Nat) (c a : Int32) : Int32 := if inR c 2 then (if inR a 3 then nI (mLf S c.toNatClampNeg a.toNatClampNeg) else -2) else -1
def mIfR (S : Nat → Nat) (h : Int32) : Int32 := if inD h (nI 1) (nI 99) then nI (mIf S h.toNatClampNeg) else -2
def mSame (S : Nat → Nat) (a b : Int32) : Int32 := if inR a (S 4) && inR b (S 4) then nI (mPx S a.toNatClampNeg b.toNatClampNeg) else -1
theorem aN_mono {p : Nat → Bool} {i n : Nat} (h : aN p i = true) (hi : i ≤ n) : aN p n = true := by
  obtain ⟨j, hj, hp⟩ := aN_t.mp h
  exact aN_t.mpr ⟨j, by omega, hp⟩
theorem mHm_lt {S : Nat → Nat} (h : mOk S) (v : Nat) : mHm S v < 2 ^ 31 := by
  have h1 : mHm S v ≤ S 5 * 2 ^ 26 := sN_le (fun j hj => by
    have hg := h.g
    split
    · exact Nat.le_of_lt (h.2.2.2.2.2.2.2 _ (by omega))
    · exact Nat.zero_le _)
  have h2 : S 5 * 2 ^ 26 ≤ 16 * 2 ^ 26 := Nat.mul_le_mul_right _ h.g
  omega
theorem mTb_le {S : Nat → Nat} {g : Nat} (h16 : S 5 ≤ 16) (hg : g < 2 ^ 31) (hl : ∀ t, mTw S g = some t → t < S 5) : oI (-6) (mTw S g) ≤ nI g ↔ mTb S g = false := by
  unfold mTb
  cases e : mTw S g with
  | none =>
    refine ⟨fun _ => rfl, fun _ => ?_⟩
    show (-6 : Int32) ≤ nI g
    rw [Int32.le_iff_toInt_le, nI_toInt hg]
    have : (-6 : Int32).toInt = -6 := by decide
    omega
  | some t =>
    have ht := hl t e
    show nI t ≤ nI g ↔ decide (g < t) = false
    rw [nI_lei (by omega) hg]
    simp
theorem lF_s {p : Nat → Bool} : ∀ {n i : Nat}, lF p n = some i → i < n ∧ p i = true ∧ ∀ j, i < j → j < n → p j = false
  | 0, i, h => by cases h
  | n + 1, i, h => by
    cases e : p n with
    | true => rw [lF_t e] at h; cases h; exact ⟨Nat.lt_succ_self _, e, fun j a b => by omega⟩
    | false =>
      rw [lF_f e] at h
      obtain ⟨a, b, c⟩ := lF_s h
      refine ⟨by omega, b, fun j h1 h2 => ?_⟩
      rcases Nat.lt_or_ge j n with q | q
      · exact c j h1 q
      · have : j = n := by omega
        rw [this]; exact e
theorem lF_n {p : Nat → Bool} : ∀ {n : Nat}, lF p n = none → ∀ j, j < n → p j = false
  | 0, _, j, hj => by omega
  | n + 1, h, j, hj => by
    cases e : p n with
    | true => rw [lF_t e] at h; cases h
    | false =>
      rw [lF_f e] at h
      rcases Nat.lt_or_ge j n with q | q
      · exact lF_n h j q
      · have : j = n := by omega
        rw [this]; exact e
theorem inD_l {x lo hi : Int32} (h : x < lo) : inD x lo hi = false := by
  unfold inD
  have : ¬ lo ≤ x := by rw [Int32.le_iff_toInt_le]; rw [Int32.lt_iff_toInt_lt] at h; omega
  simp [this]
theorem inD_h {x lo hi : Int32} (h : ¬ x ≤ hi) : inD x lo hi = false := by unfold inD; simp [h]
theorem inD_y {x lo hi : Int32} (h1 : ¬ x < lo) (h2 : x ≤ hi) : inD x lo hi = true := by
  unfold inD
  have : lo ≤ x := by rw [Int32.le_iff_toInt_le]; rw [Int32.lt_iff_toInt_lt] at h1; omega
  simp [this, h2]
theorem mtB_f {a : Bool} {p : Nat → Bool} {k n : Nat} (h : (a && !aN p k) = false) (hk : k ≤ n) : (a && !aN p n) = false := by
  cases ha : a with
  | false => rfl
  | true =>
    rw [ha, Bool.true_and] at h
    have h1 : aN p k = true := by simpa using h
    rw [aN_mono h1 hk]; rfl
theorem inD_h2 {x lo hi : Int32} (h : hi < x) : inD x lo hi = false := inD_h (by rw [Int32.le_iff_toInt_le]; rw [Int32.lt_iff_toInt_lt] at h; omega)
theorem inD_y2 {x lo hi : Int32} (h1 : ¬ x < lo) (h2 : ¬ hi < x) : inD x lo hi = true := inD_y h1 (by rw [Int32.le_iff_toInt_le]; rw [Int32.lt_iff_toInt_lt] at h2; omega)
theorem gU0 {u : Nat} (hu : u < 2 ^ 31) (h : nI u - 1 < 0) : u = 0 := by
  rcases Nat.eq_zero_or_pos u with q | q
  · exact q
  · obtain ⟨v, rfl⟩ : ∃ v, u = v + 1 := ⟨u - 1, by omega⟩
    rw [gI_s1] at h; exact absurd h (nI_pos (by omega))
theorem gU1 {u : Nat} (h : ¬ nI u - 1 < 0) : ∃ v, u = v + 1 := by
  rcases Nat.eq_zero_or_pos u with q | q
  · subst q; exact absurd gI_neg1 h
  · exact ⟨u - 1, by omega⟩
