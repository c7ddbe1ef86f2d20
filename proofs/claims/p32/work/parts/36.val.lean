/-! answers, by what an office's state keeps to -/
theorem g_val {l : Launch} {y : MethodName} {cc : ByteArray} {nL fr lo mc ms : Nat} {ret : Option FieldType} {G : gT} {av : List Value} {P : Heap → Prop} {free : Addr → Prop} {v v' : Int32} (h : gM l y cc nL ret fr lo mc ms G av P (rd (.int v)) free) (e : v = v') : gM l y cc nL ret fr lo mc ms G av P (rd (.int v')) free := by
  subst e; exact h
theorem g_valw {l : Launch} {y : MethodName} {cc : ByteArray} {nL fr lo mc ms x : Nat} {ret : Option FieldType} {G : gT} {av : List Value} {P : Heap → Prop} {free : Addr → Prop} {r : Int32 × XS} {v' : Int32} {X' : XS} (h : gM l y cc nL ret fr lo mc ms G av P (wi (.int r.1) (fun H H1 => XAt G x r.2 H1 ∧ gFr x (x + 262) H H1)) free) (e : r = (v', X')) : gM l y cc nL ret fr lo mc ms G av P (wi (.int v') (fun H H1 => XAt G x X' H1 ∧ gFr x (x + 262) H H1)) free := by
  subst e; exact h
section
variable {t : Nat} {Y : ST} {X : XS}
theorem IY.n40 (h : IY t Y) : (Y.2 1).1 ≤ 40 := h.2.1.1
theorem IY.nk (h : IY t Y) {k : Nat} (h1 : 1 ≤ k) (h4 : k ≤ 4) : (Y.2 k).1 = (Y.2 1).1 := h.2.1.2.1 k h1 h4
theorem IY.g16 (h : IY t Y) : (Y.2 11).1 ≤ 16 := h.2.2.2.2.1.1
theorem IY.gk (h : IY t Y) {k : Nat} (h1 : 11 ≤ k) (h4 : k ≤ 13) : (Y.2 k).1 = (Y.2 11).1 := h.2.2.2.2.1.2.1 k h1 h4
theorem IY.s10 (h : IY t Y) : (Y.2 14).1 ≤ 10 := h.2.2.2.2.2.1.1
theorem IY.sk (h : IY t Y) {k : Nat} (h1 : 14 ≤ k) (h4 : k ≤ 16) : (Y.2 k).1 = (Y.2 14).1 := h.2.2.2.2.2.1.2.1 k h1 h4
theorem IY.l8 (h : IY t Y) {a : Nat} (ha : a < 6) : (Y.2 (5 + a)).1 ≤ 8 := (h.2.2.1 a ha).1
theorem IY.set3 (h : IY t Y) {i : Nat} (hi : i < 3) : rA (Y.2 0) i = (Y.2 0).2 i ∧ 1 ≤ (Y.2 0).2 i ∧ (Y.2 0).2 i ≤ 99 := ⟨rA_in (by rw [h.1.1]; exact hi), h.1.2 i hi⟩
theorem cnt_k {k : Nat} (hk : k < 14) : inR (nI k) 14 = true ∧ (nI k).toNatClampNeg = k := ⟨inR_i hk (by omega), nI_clamp (by omega)⟩
theorem cnt_0 : cCount X (nI 0) = nI X.1.1 := by unfold cCount; rw [(cnt_k (k := 0) (by decide)).1, (cnt_k (k := 0) (by decide)).2]; rfl
theorem cnt_1 : cCount X (nI 1) = nI (X.1.2 1).1 := by unfold cCount; rw [(cnt_k (k := 1) (by decide)).1, (cnt_k (k := 1) (by decide)).2]; rfl
theorem cnt_2 : cCount X (nI 2) = nI (sN (X.1.2 2).2 (X.1.2 2).1) := by unfold cCount; rw [(cnt_k (k := 2) (by decide)).1, (cnt_k (k := 2) (by decide)).2]; rfl
theorem cnt_3 : cCount X (nI 3) = nI (X.1.2 11).1 := by unfold cCount; rw [(cnt_k (k := 3) (by decide)).1, (cnt_k (k := 3) (by decide)).2]; rfl
theorem cnt_4 : cCount X (nI 4) = nI (sN (X.1.2 3).2 (X.1.2 3).1) := by unfold cCount; rw [(cnt_k (k := 4) (by decide)).1, (cnt_k (k := 4) (by decide)).2]; rfl
theorem cnt_5 : cCount X (nI 5) = nI (twN X.1) := by unfold cCount; rw [(cnt_k (k := 5) (by decide)).1, (cnt_k (k := 5) (by decide)).2]; rfl
theorem cnt_6 : cCount X (nI 6) = nI (X.1.2 14).1 := by unfold cCount; rw [(cnt_k (k := 6) (by decide)).1, (cnt_k (k := 6) (by decide)).2]; rfl
theorem cnt_7 : cCount X (nI 7) = nI (sN (X.1.2 15).2 (X.1.2 15).1) := by unfold cCount; rw [(cnt_k (k := 7) (by decide)).1, (cnt_k (k := 7) (by decide)).2]; rfl
theorem cnt_8 : cCount X (nI 8) = nI (sN (X.1.2 16).2 (X.1.2 16).1) := by unfold cCount; rw [(cnt_k (k := 8) (by decide)).1, (cnt_k (k := 8) (by decide)).2]; rfl
theorem cnt_9 (h : IY t X.1) {i : Nat} (hi : i < 3) : cCount X (nI (9 + i)) = nI ((X.1.2 0).2 i) := by
  unfold cCount; rw [(cnt_k (k := 9 + i) (by omega)).1, (cnt_k (k := 9 + i) (by omega)).2]
  rcases (show i = 0 ∨ i = 1 ∨ i = 2 by omega) with rfl | rfl | rfl
  · exact congrArg nI (h.set3 (i := 0) (by decide)).1
  · exact congrArg nI (h.set3 (i := 1) (by decide)).1
  · exact congrArg nI (h.set3 (i := 2) (by decide)).1
theorem cnt_12 : cCount X (nI 12) = nI X.2.1.1.1 := by unfold cCount; rw [(cnt_k (k := 12) (by decide)).1, (cnt_k (k := 12) (by decide)).2]; rfl
theorem of_k (h : IY t Y) {a : Nat} (ha : a < (Y.2 1).1) : inR (nI a) (Y.2 1).1 = true ∧ (nI a).toNatClampNeg = a ∧ ∀ k, 1 ≤ k → k ≤ 4 → rA (Y.2 k) a = (Y.2 k).2 a := by
  have h40 := h.n40
  exact ⟨inR_i ha (by omega), nI_clamp (by omega), fun k k1 k2 => rA_in (by rw [h.nk k1 k2]; exact ha)⟩
theorem of_0 (h : IY t Y) {a : Nat} (ha : a < (Y.2 1).1) : cOf Y (nI a) (nI 0) = nI (kS ((Y.2 1).2 a) ((Y.2 1).2 a)) := by
  obtain ⟨e1, e2, e3⟩ := of_k h ha
  unfold cOf; rw [e1, if_pos rfl, inR_i (show 0 < 7 by decide) (by decide), if_pos rfl, e2, nI_clamp (by decide)]
  show nI (kS (rA (Y.2 1) a) (rA (Y.2 1) a)) = _
  rw [e3 1 (by decide) (by decide)]
theorem of_1 (h : IY t Y) {a : Nat} (ha : a < (Y.2 1).1) : cOf Y (nI a) (nI 1) = nI ((Y.2 2).2 a) := by
  obtain ⟨e1, e2, e3⟩ := of_k h ha
  unfold cOf; rw [e1, if_pos rfl, inR_i (show 1 < 7 by decide) (by decide), if_pos rfl, e2, nI_clamp (by decide)]
  show nI (rA (Y.2 2) a) = _
  rw [e3 2 (by decide) (by decide)]
theorem of_2 (h : IY t Y) {a : Nat} (ha : a < (Y.2 1).1) : cOf Y (nI a) (nI 2) = nI (coF Y a 2) := by
  obtain ⟨e1, e2, e3⟩ := of_k h ha
  unfold cOf; rw [e1, if_pos rfl, inR_i (show 2 < 7 by decide) (by decide), if_pos rfl, e2, nI_clamp (by decide)]
  rfl
theorem of_3 (h : IY t Y) {a : Nat} (ha : a < (Y.2 1).1) : cOf Y (nI a) (nI 3) = nI ((Y.2 3).2 a) := by
  obtain ⟨e1, e2, e3⟩ := of_k h ha
  unfold cOf; rw [e1, if_pos rfl, inR_i (show 3 < 7 by decide) (by decide), if_pos rfl, e2, nI_clamp (by decide)]
  show nI (rA (Y.2 3) a) = _
  rw [e3 3 (by decide) (by decide)]
theorem of_4 (h : IY t Y) {a : Nat} (ha : a < (Y.2 1).1) : cOf Y (nI a) (nI 4) = nI ((Y.2 4).2 a) := by
  obtain ⟨e1, e2, e3⟩ := of_k h ha
  unfold cOf; rw [e1, if_pos rfl, inR_i (show 4 < 7 by decide) (by decide), if_pos rfl, e2, nI_clamp (by decide)]
  show nI (rA (Y.2 4) a) = _
  rw [e3 4 (by decide) (by decide)]
theorem of_5 (h : IY t Y) {a : Nat} (ha : a < (Y.2 1).1) : cOf Y (nI a) (nI 5) = nI (nsO Y a) := by
  obtain ⟨e1, e2, e3⟩ := of_k h ha
  unfold cOf; rw [e1, if_pos rfl, inR_i (show 5 < 7 by decide) (by decide), if_pos rfl, e2, nI_clamp (by decide)]
  rfl
theorem of_6 (h : IY t Y) {a : Nat} (ha : a < (Y.2 1).1) : cOf Y (nI a) (nI 6) = nI (alT Y a) := by
  obtain ⟨e1, e2, e3⟩ := of_k h ha
  unfold cOf; rw [e1, if_pos rfl, inR_i (show 6 < 7 by decide) (by decide), if_pos rfl, e2, nI_clamp (by decide)]
  rfl
theorem of_n {w : Int32} {a : Nat} (ha : (Y.2 1).1 ≤ a) (h31 : a < 2 ^ 31) : cOf Y (nI a) w = -1 := by
  unfold cOf; rw [inR_nI h31, if_neg (by simp; omega)]
theorem of_m {w : Int32} : cOf Y (-1) w = -1 := by unfold cOf; rw [inR_neg (by decide)]; rfl
theorem smv (h : IY t Y) {a b : Nat} (ha : a < (Y.2 1).1) (hb : b < (Y.2 1).1) : cSame Y (nI a) (nI b) = nI (kS ((Y.2 1).2 a) ((Y.2 1).2 b)) := by
  obtain ⟨e1, e2, e3⟩ := of_k h ha
  obtain ⟨f1, f2, f3⟩ := of_k h hb
  unfold cSame; rw [e1, f1, Bool.and_self, if_pos rfl, e2, f2, e3 1 (by decide) (by decide), f3 1 (by decide) (by decide)]
/-- a name's letters -/
theorem IY.key (h : IY t Y) {a : Nat} (ha : a < (Y.2 1).1) : kK ((Y.2 1).2 a) := h.2.1.2.2.1 a ha
theorem kK_L {κ : Nat} (h : kK κ) : 2 ≤ kS κ κ ∧ kS κ κ ≤ 6 ∧ κ < 2 ^ 30 := ⟨h.1, h.2.1, h.2.2.1⟩
theorem kK_let {κ j : Nat} (h : kK κ) (hj : j < kS κ κ) : kA κ (nI j) = kL κ j ∧ 1 ≤ kL κ j ∧ kL κ j ≤ 26 := by
  have h6 := h.2.1
  obtain ⟨a, b, -⟩ := h.2.2.2.1 j hj
  change 97 ≤ 96 + kL κ j at a
  change 96 + kL κ j ≤ 122 at b
  exact ⟨kA_nI (by omega), by omega, by omega⟩
theorem kK_end {κ : Nat} (h : kK κ) {j : Nat} (hj : kS κ κ ≤ j) (h31 : j < 2 ^ 31) : kA κ (nI j) = 0 := by
  unfold kA
  rw [inR_nI h31, nI_clamp h31]
  by_cases q : j < 6
  · rw [if_pos (by simpa using q)]; exact h.2.2.2.2 j hj q
  · rw [if_neg (by simpa using q)]
theorem lt_v (h : IY t Y) {a j : Nat} (ha : a < (Y.2 1).1) (hj : j < kS ((Y.2 1).2 a) ((Y.2 1).2 a)) : cLetter Y (nI a) (nI j) = nI (96 + kL ((Y.2 1).2 a) j) := by
  obtain ⟨e1, e2, e3⟩ := of_k h ha
  obtain ⟨k1, k2, k3⟩ := kK_let (h.key ha) hj
  unfold cLetter; rw [e1, if_pos rfl, e2, e3 1 (by decide) (by decide), k1, if_neg (by omega)]
theorem lt_e (h : IY t Y) {a j : Nat} (ha : a < (Y.2 1).1) (hj : kS ((Y.2 1).2 a) ((Y.2 1).2 a) ≤ j) (h31 : j < 2 ^ 31) : cLetter Y (nI a) (nI j) = -1 := by
  obtain ⟨e1, e2, e3⟩ := of_k h ha
  unfold cLetter; rw [e1, if_pos rfl, e2, e3 1 (by decide) (by decide), kK_end (h.key ha) hj h31, if_pos rfl]
/-- lists -/
theorem ls_v (h : IY t Y) {c k p : Nat} (hc : c < 2) (hk : k < 3) (hp : p < (Y.2 (5 + lix c k)).1) : cListed Y (nI c) (nI k) (nI p) = nI ((Y.2 (5 + lix c k)).2 p) := by
  have h8 := h.l8 (lix_lt hc hk)
  unfold cListed; rw [inL_nI hc hk, ixL_nI hc hk, inR_i hp (by omega), Bool.and_self, if_pos rfl, nI_clamp (by omega), rA_in hp]
theorem ls_n {c k p : Nat} (hc : c < 2) (hk : k < 3) (hp : (Y.2 (5 + lix c k)).1 ≤ p) (h31 : p < 2 ^ 31) : cListed Y (nI c) (nI k) (nI p) = -1 := by
  unfold cListed; rw [inL_nI hc hk, ixL_nI hc hk, inR_nI h31, if_neg (by simp; omega)]
theorem nx_v {c : Nat} (hc : c < 2) : cNext Y (nI c) = oI (-6) (nxN Y c) := by
  unfold cNext; rw [inR_i hc (by omega), if_pos rfl, nI_clamp (by omega)]
theorem lf_v {c a : Nat} (hc : c < 2) (ha : a < 3) : cLeft Y (nI c) (nI a) = nI (nmL Y c a) := by
  unfold cLeft; rw [inR_i hc (by omega), if_pos rfl, inR_i ha (by omega), if_pos rfl, nI_clamp (by omega), nI_clamp (by omega)]
/-- storms -/
theorem st_k (h : IY t Y) {g : Nat} (hg : g < (Y.2 11).1) : inR (nI g) (Y.2 11).1 = true ∧ (nI g).toNatClampNeg = g ∧ ∀ k, 11 ≤ k → k ≤ 13 → rA (Y.2 k) g = (Y.2 k).2 g := by
  have h16 := h.g16
  exact ⟨inR_i hg (by omega), nI_clamp (by omega), fun k k1 k2 => rA_in (by rw [h.gk k1 k2]; exact hg)⟩
theorem st_0 (h : IY t Y) {g : Nat} (hg : g < (Y.2 11).1) : cOfS Y (nI g) (nI 0) = nI ((Y.2 11).2 g) := by
  obtain ⟨e1, e2, e3⟩ := st_k h hg
  unfold cOfS; rw [e1, if_pos rfl, inR_i (show 0 < 4 by decide) (by decide), if_pos rfl, e2, nI_clamp (by decide)]
  show nI (rA (Y.2 11) g) = _
  rw [e3 11 (by decide) (by decide)]
theorem st_1 (h : IY t Y) {g : Nat} (hg : g < (Y.2 11).1) : cOfS Y (nI g) (nI 1) = nI ((Y.2 12).2 g) := by
  obtain ⟨e1, e2, e3⟩ := st_k h hg
  unfold cOfS; rw [e1, if_pos rfl, inR_i (show 1 < 4 by decide) (by decide), if_pos rfl, e2, nI_clamp (by decide)]
  show nI (rA (Y.2 12) g) = _
  rw [e3 12 (by decide) (by decide)]
theorem st_2 (h : IY t Y) {g : Nat} (hg : g < (Y.2 11).1) : cOfS Y (nI g) (nI 2) = nI ((Y.2 13).2 g) := by
  obtain ⟨e1, e2, e3⟩ := st_k h hg
  unfold cOfS; rw [e1, if_pos rfl, inR_i (show 2 < 4 by decide) (by decide), if_pos rfl, e2, nI_clamp (by decide)]
  show nI (rA (Y.2 13) g) = _
  rw [e3 13 (by decide) (by decide)]
theorem st_3 (h : IY t Y) {g : Nat} (hg : g < (Y.2 11).1) : cOfS Y (nI g) (nI 3) = oI (-6) (twO Y g) := by
  obtain ⟨e1, e2, e3⟩ := st_k h hg
  unfold cOfS; rw [e1, if_pos rfl, inR_i (show 3 < 4 by decide) (by decide), if_pos rfl, e2, nI_clamp (by decide)]
  rfl
theorem st_n {w : Int32} {g : Nat} (hg : (Y.2 11).1 ≤ g) (h31 : g < 2 ^ 31) : cOfS Y (nI g) w = -1 := by
  unfold cOfS; rw [inR_nI h31, if_neg (by simp; omega)]
/-- namesakes -/
theorem sk_k (h : IY t Y) {g : Nat} (hg : g < (Y.2 14).1) : inR (nI g) (Y.2 14).1 = true ∧ (nI g).toNatClampNeg = g ∧ ∀ k, 14 ≤ k → k ≤ 16 → rA (Y.2 k) g = (Y.2 k).2 g := by
  have h16 := h.s10
  exact ⟨inR_i hg (by omega), nI_clamp (by omega), fun k k1 k2 => rA_in (by rw [h.sk k1 k2]; exact hg)⟩
theorem sk_1 (h : IY t Y) {g : Nat} (hg : g < (Y.2 14).1) : cOfN Y (nI g) (nI 1) = nI ((Y.2 15).2 g) := by
  obtain ⟨e1, e2, e3⟩ := sk_k h hg
  unfold cOfN; rw [e1, if_pos rfl, inR_i (show 1 < 3 by decide) (by decide), if_pos rfl, e2, nI_clamp (by decide)]
  show nI (rA (Y.2 15) g) = _
  rw [e3 15 (by decide) (by decide)]
theorem sk_2 (h : IY t Y) {g : Nat} (hg : g < (Y.2 14).1) : cOfN Y (nI g) (nI 2) = nI ((Y.2 16).2 g) := by
  obtain ⟨e1, e2, e3⟩ := sk_k h hg
  unfold cOfN; rw [e1, if_pos rfl, inR_i (show 2 < 3 by decide) (by decide), if_pos rfl, e2, nI_clamp (by decide)]
  show nI (rA (Y.2 16) g) = _
  rw [e3 16 (by decide) (by decide)]
theorem sk_n {w : Int32} {g : Nat} (hg : (Y.2 14).1 ≤ g) (h31 : g < 2 ^ 31) : cOfN Y (nI g) w = -1 := by
  unfold cOfN; rw [inR_nI h31, if_neg (by simp; omega)]
/-! sums -/
theorem sN_add (f g : Nat → Nat) : ∀ n, sN (fun i => f i + g i) n = sN f n + sN g n
  | 0 => rfl
  | n + 1 => by rw [sN_s, sN_s, sN_s, sN_add f g n]; omega
theorem sN_0 : ∀ n, sN (fun _ => 0) n = 0
  | 0 => rfl
  | n + 1 => by rw [sN_s, sN_0 n]
theorem sN_swap (f : Nat → Nat → Nat) (n : Nat) : ∀ m, sN (fun i => sN (f i) m) n = sN (fun j => sN (fun i => f i j) n) m
  | 0 => sN_0 n
  | m + 1 => by
    rw [sN_s, ← sN_swap f n m, ← sN_add]
    rfl
theorem cN_sN (p : Nat → Bool) : ∀ n, cN p n = sN (fun i => if p i then 1 else 0) n
  | 0 => rfl
  | n + 1 => by rw [cN_s, sN_s, cN_sN p n]
theorem sN_one {v : Nat} : ∀ {n : Nat}, sN (fun i => if i == v then 1 else 0) n = if v < n then 1 else 0
  | 0 => rfl
  | n + 1 => by
    have ih := sN_one (v := v) (n := n)
    have e0 : (if n == v then 1 else 0 : Nat) = if n = v then 1 else 0 := by simp
    rw [sN_s, ih, e0]
    split <;> split <;> split <;> omega
theorem sN_ones : ∀ m, sN (fun _ => 1) m = m
  | 0 => rfl
  | m + 1 => by rw [sN_s, sN_ones m]
/-- how often each value below n stands among m numbers below n -/
theorem sN_cnt {f : Nat → Nat} {n m : Nat} (h : ∀ j, j < m → f j < n) : sN (fun v => cN (fun j => f j == v) m) n = m := by
  have e1 : sN (fun v => cN (fun j => f j == v) m) n = sN (fun v => sN (fun j => if f j == v then 1 else 0) m) n := sN_cong fun v _ => cN_sN _ _
  rw [e1, sN_swap]
  have e2 : sN (fun j => sN (fun v => if f j == v then 1 else 0) n) m = sN (fun _ => 1) m := sN_cong fun j hj => by
    have e3 : sN (fun v => if f j == v then 1 else 0) n = sN (fun v => if v == f j then 1 else 0) n := sN_cong fun v _ => by
      have : (f j == v) = (v == f j) := by rw [Bool.eq_iff_iff, beq_iff_eq, beq_iff_eq]; exact ⟨Eq.symm, Eq.symm⟩
      rw [this]
    show sN (fun v => if f j == v then 1 else 0) n = 1
    rw [e3, sN_one, if_pos (h j hj)]
  rw [e2, sN_ones]
/-- namesakes, name by name -/
theorem IY.sakes (h : IY t Y) : sN (fun v => nsO Y v) (Y.2 1).1 = (Y.2 14).1 := sN_cnt (fun j hj => h.2.2.2.2.2.1.2.2 j hj)
end
