/-! saving: the slots' cells -/
def gA (x : Nat) : Addr → Prop := fun q => (x ≤ q ∧ q < x + 262) ∨ x + 262 ≤ q
def gFA (x : Nat) (H H1 : Heap) : Prop := H.size ≤ H1.size ∧ ∀ q : Nat, q < H.size → ¬ gA x q → H1[q]? = H[q]?
theorem gFA.rf {x : Nat} {H : Heap} : gFA x H H := ⟨Nat.le_refl _, fun _ _ _ => rfl⟩
theorem gFA.of {x : Nat} {H H1 : Heap} (h : gFr x (x + 262) H H1) : gFA x H H1 := ⟨by rw [h.1]; exact Nat.le_refl _, fun q _ hq => h.2 q (by
  rcases Nat.lt_or_ge q x with a | a
  · exact Or.inl a
  · rcases Nat.lt_or_ge q (x + 262) with b | b
    · exact absurd (Or.inl ⟨a, b⟩) hq
    · exact Or.inr b)⟩
theorem StAt.kp {G : gT} {b : Nat} {Y : ST} {H H1 : Heap} (h : StAt G b Y H) (hq : ∀ q : Nat, b ≤ q → q < b + 36 → H1[q]? = H[q]?) : StAt G b Y H1 := by
  refine ⟨h.1.kept (hq b (by omega) (by omega)), h.2.1.kept (hq _ (by omega) (by omega)), fun k hk => ?_⟩
  have := ro_lt k hk
  obtain ⟨a1, a2, a3⟩ := h.2.2 k hk
  exact ⟨a1.kept (hq _ (by omega) (by omega)), a2.kept (hq _ (by omega) (by omega)), a3⟩
theorem RowAt.kp {G : gT} {r cap : Nat} {R : Rw} {H H1 : Heap} (h : RowAt G r cap R H) (hq : ∀ q : Nat, r ≤ q → q < r + 2 → H1[q]? = H[q]?) : RowAt G r cap R H1 :=
  ⟨h.1.kept (hq _ (by omega) (by omega)), h.2.1.kept (hq _ (by omega) (by omega)), h.2.2⟩
theorem HAt.kp {G : gT} {h n : Nat} {π : Nat → Nat} {Z : Nat → ST} {H H1 : Heap} (hh : HAt G h n π Z H) (hq : ∀ q : Nat, h ≤ q → q < h + 218 → H1[q]? = H[q]?) : HAt G h n π Z H1 := by
  obtain ⟨h1, h2, h3, h4, h5, h6⟩ := hh
  refine ⟨h1.kept (hq _ (by omega) (by omega)), h2.kept (hq _ (by omega) (by omega)), fun k hk => ?_, h4, h5, h6⟩
  have := h5 k hk
  exact (h3 k hk).kp (fun q a b => hq q (by omega) (by omega))
theorem cSv_1 {X : XS} {i z : Nat} : (cSv X i z).1 = X.1 := by unfold cSv; split <;> rfl
theorem x_keepN {G : gT} {x i z : Nat} {X : XS} {H H1 : Heap} (h : XAt G x X H) (hz : H.size = z) (hx : x + 262 ≤ z) (hi : i < 2) (ho : X.2.2.2.1 i = none) (hsl : SlAt G (x + 260) (va_up X.2.2.2.1 i (some z)) H1) (hst : StAt G z (cpL inS X.1 17) H1)
    (hq : ∀ q : Nat, q < z → q ≠ x + 260 + 1 → H1[q]? = H[q]?) : XAt G x (cSv X i z) H1 := by
  obtain ⟨h1, h2, h3, h4, h5, h6, h7⟩ := h
  have e : cSv X i z = (X.1, X.2.1, X.2.2.1, va_up X.2.2.2.1 i (some z), va_up X.2.2.2.2 i (cpL inS X.1 17)) := by unfold cSv; rw [ho]
  rw [e]
  refine ⟨h1.kept (hq _ (by omega) (by omega)), h2.kp (fun q a b => hq q (by omega) (by omega)), ⟨h3.1.kept (hq _ (by omega) (by omega)), h3.2.1.kp (fun q a b => hq q (by omega) (by omega)), h3.2.2.kp (fun q a b => hq q (by omega) (by omega))⟩, h4.kp (fun q a b => hq q (by omega) (by omega)), hsl, ?_, ?_⟩
  · intro j hj w hw
    replace hw : (if j = i then some z else X.2.2.2.1 j) = some w := hw
    show x + 262 ≤ w ∧ StAt G w (if j = i then cpL inS X.1 17 else X.2.2.2.2 j) H1
    by_cases q : j = i
    · rw [if_pos q] at hw ⊢
      cases hw
      exact ⟨hx, hst⟩
    · rw [if_neg q] at hw ⊢
      obtain ⟨a, b⟩ := h6 j hj w hw
      have := b.top
      exact ⟨a, b.kp (fun q a1 b1 => hq q (by omega) (by omega))⟩
  · intro a b ha hb
    replace ha : (if 0 = i then some z else X.2.2.2.1 0) = some a := ha
    replace hb : (if 1 = i then some z else X.2.2.2.1 1) = some b := hb
    by_cases q0 : 0 = i
    · rw [if_pos q0] at ha
      rw [if_neg (by omega)] at hb
      cases ha
      have := (h6 1 (by decide) b hb).2.top
      exact Or.inr (by omega)
    · rw [if_neg q0] at ha
      by_cases q1 : 1 = i
      · rw [if_pos q1] at hb
        cases hb
        have := (h6 0 (by decide) a ha).2.top
        exact Or.inl (by omega)
      · omega
theorem x_keepS {G : gT} {x i z u : Nat} {X : XS} {H H1 : Heap} (h : XAt G x X H) (hi : i < 2) (ho : X.2.2.2.1 i = some u) (hsl : SlAt G (x + 260) (va_up X.2.2.2.1 i (some u)) H1) (hst : StAt G u (cpL (X.2.2.2.2 i) X.1 17) H1)
    (hq : ∀ q : Nat, (q < u ∨ u + 36 ≤ q) → q ≠ x + 260 + 1 → H1[q]? = H[q]?) : XAt G x (cSv X i z) H1 := by
  obtain ⟨h1, h2, h3, h4, h5, h6, h7⟩ := h
  have e : cSv X i z = (X.1, X.2.1, X.2.2.1, va_up X.2.2.2.1 i (some u), va_up X.2.2.2.2 i (cpL (X.2.2.2.2 i) X.1 17)) := by unfold cSv; rw [ho]
  have hu := (h6 i hi u ho).1
  rw [e]
  refine ⟨h1.kept (hq _ (by omega) (by omega)), h2.kp (fun q a b => hq q (by omega) (by omega)), ⟨h3.1.kept (hq _ (by omega) (by omega)), h3.2.1.kp (fun q a b => hq q (by omega) (by omega)), h3.2.2.kp (fun q a b => hq q (by omega) (by omega))⟩, h4.kp (fun q a b => hq q (by omega) (by omega)), hsl, ?_, ?_⟩
  · intro j hj w hw
    replace hw : (if j = i then some u else X.2.2.2.1 j) = some w := hw
    show x + 262 ≤ w ∧ StAt G w (if j = i then cpL (X.2.2.2.2 i) X.1 17 else X.2.2.2.2 j) H1
    by_cases q : j = i
    · rw [if_pos q] at hw ⊢
      cases hw
      exact ⟨hu, hst⟩
    · rw [if_neg q] at hw ⊢
      obtain ⟨a, b⟩ := h6 j hj w hw
      have hap : w + 36 ≤ u ∨ u + 36 ≤ w := by
        rcases (show (j = 0 ∧ i = 1) ∨ (j = 1 ∧ i = 0) by omega) with ⟨e1, e2⟩ | ⟨e1, e2⟩
        · subst e1; subst e2; exact h7 w u hw ho
        · subst e1; subst e2; have := h7 u w ho hw; omega
      exact ⟨a, b.kp (fun q a1 b1 => hq q (by omega) (by omega))⟩
  · intro a b ha hb
    replace ha : (if 0 = i then some u else X.2.2.2.1 0) = some a := ha
    replace hb : (if 1 = i then some u else X.2.2.2.1 1) = some b := hb
    by_cases q0 : 0 = i
    · rw [if_pos q0] at ha
      rw [if_neg (by omega)] at hb
      cases ha
      subst q0
      exact h7 _ _ ho hb
    · rw [if_neg q0] at ha
      by_cases q1 : 1 = i
      · rw [if_pos q1] at hb
        cases hb
        subst q1
        exact h7 _ _ ha ho
      · exact absurd hi (by omega)
theorem s_end {G : gT} {x : Nat} {r : Int32 × XS} {v : Int32} {X' : XS} {H H1 : Heap} (e : r = (v, X')) (h : XAt G x X' H1) (hf : gFA x H H1) : wi (.int r.1) (fun H H1 => XAt G x r.2 H1 ∧ gFA x H H1) (some (.int v)) H H1 := by
  subst e; exact ⟨rfl, h, hf⟩
theorem PadAt.gr {G : gT} {q lo : Nat} {S T : Rw} {H H1 : Heap} (h : PadAt G q S T H) (hf : gGr lo H H1) (hn : q + 5 ≤ lo) : PadAt G q S T H1 := ⟨h.1.gr hf (by omega), h.2.1.gr hf (by omega), h.2.2.gr hf (by omega)⟩
theorem PadAt.nw {G : gT} {q a : Nat} {S T : Rw} {H H1 : Heap} (h : PadAt G q S T H) (hq : ∀ q : Nat, q < a → H1[q]? = H[q]?) (hn : q + 5 ≤ a) : PadAt G q S T H1 := ⟨h.1.nw hq (by omega), h.2.1.nw hq (by omega), h.2.2.nw hq (by omega)⟩
theorem PadAt.ch {G : gT} {q a : Nat} {S T : Rw} {H H1 : Heap} (h : PadAt G q S T H) (hc : gCh a H H1) (hn : a < q ∨ q + 5 ≤ a) : PadAt G q S T H1 := ⟨h.1.ch hc (by omega), h.2.1.ch hc (by omega), h.2.2.ch hc (by omega)⟩
theorem HAt.gr {G : gT} {h n lo : Nat} {π : Nat → Nat} {Z : Nat → ST} {H H1 : Heap} (hh : HAt G h n π Z H) (hf : gGr lo H H1) (hn : h + 218 ≤ lo) : HAt G h n π Z H1 := hh.kp (fun q a b => hf.2 q (by omega))
theorem HAt.nw {G : gT} {h n c : Nat} {π : Nat → Nat} {Z : Nat → ST} {H H1 : Heap} (hh : HAt G h n π Z H) (hq : ∀ q : Nat, q < c → H1[q]? = H[q]?) (hn : h + 218 ≤ c) : HAt G h n π Z H1 := hh.kp (fun q a b => hq q (by omega))
theorem HAt.ch {G : gT} {h n c : Nat} {π : Nat → Nat} {Z : Nat → ST} {H H1 : Heap} (hh : HAt G h n π Z H) (hc : gCh c H H1) (hn : c < h ∨ h + 218 ≤ c) : HAt G h n π Z H1 := hh.kp (fun q a b => hc.2 q (by omega))
theorem SlAt.ch {G : gT} {v c : Nat} {o : Nat → Option Nat} {H H1 : Heap} (h : SlAt G v o H) (hc : gCh c H H1) (hn : c < v ∨ v + 2 ≤ c) : SlAt G v o H1 := ⟨h.1.ch hc (by omega), h.2.ch hc (by omega)⟩
theorem SlAt.gr {G : gT} {v lo : Nat} {o : Nat → Option Nat} {H H1 : Heap} (h : SlAt G v o H) (hf : gGr lo H H1) (hn : v + 2 ≤ lo) : SlAt G v o H1 := ⟨h.1.gr hf (by omega), h.2.gr hf (by omega)⟩
theorem gA.a {x q : Nat} (h1 : x ≤ q) (h2 : q < x + 262) : gA x q := Or.inl ⟨h1, h2⟩
theorem gA.b {x q : Nat} (h : x + 262 ≤ q) : gA x q := Or.inr h
theorem gA_kN {x sz : Nat} (hs : x + 262 ≤ sz) (q : Nat) (h : q = x + 260 + 1 ∨ sz ≤ q) : gA x q := by
  rcases h with h | h
  · exact gA.a (by omega) (by omega)
  · exact gA.b (by omega)
theorem gA_kS {x z : Nat} (hs : x + 262 ≤ z) (q : Nat) (h : q = x + 260 + 1 ∨ gRg z (z + 36) q) : gA x q := by
  rcases h with h | h
  · exact gA.a (by omega) (by omega)
  · exact gA.b (Nat.le_trans hs h.1)
theorem gFA_N {x sz : Nat} {H H1 : Heap} (h0 : H.size = sz) (h1 : H1.size = sz + 36) (hq : ∀ q : Nat, q < sz → q ≠ x + 260 + 1 → H1[q]? = H[q]?) : gFA x H H1 :=
  ⟨by omega, fun q a b => hq q (by omega) (fun e => b (gA.a (by omega) (by omega)))⟩
theorem gFA_S {x z : Nat} {H H1 : Heap} (hz : x + 262 ≤ z) (h1 : H1.size = H.size) (hq : ∀ q : Nat, (q < z ∨ z + 36 ≤ q) → q ≠ x + 260 + 1 → H1[q]? = H[q]?) : gFA x H H1 :=
  ⟨by omega, fun q a b => hq q (by
    rcases Nat.lt_or_ge q z with h | h
    · exact Or.inl h
    · exact absurd (gA.b (by omega)) b) (fun e => b (gA.a (by omega) (by omega)))⟩
