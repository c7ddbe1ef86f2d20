/-! the law's start and end, by what an office keeps to -/
section
variable {t : Nat} {X : XS}
theorem inS_k {k : Nat} (h : k ≠ 0) : inS.2 k = (0, fun _ => 0) := if_neg h
theorem IY_0 : IY 0 inS := by
  have e := fun k (h : k ≠ 0) => inS_k h
  refine ⟨⟨rfl, fun i hi => ?_⟩, ⟨?_, fun k k1 k2 => ?_, fun n hn => ?_, fun a b ha => ?_, fun n hn => ?_⟩, fun a ha => ?_, fun a b ha hb _ i j hi => ?_, ⟨?_, fun k k1 k2 => ?_, fun g hg => ?_, fun g q hg => ?_⟩, ⟨?_, fun k k1 k2 => ?_, fun g hg => ?_⟩, ⟨Nat.le_refl 0, fun k hk h1 => ?_⟩⟩
  · rcases (show i = 0 ∨ i = 1 ∨ i = 2 by omega) with rfl | rfl | rfl
    · exact ⟨by decide, by decide⟩
    · exact ⟨by decide, by decide⟩
    · exact ⟨by decide, by decide⟩
  · rw [e 1 (by decide)]; exact Nat.zero_le _
  · rw [e k (by omega), e 1 (by decide)]
  · rw [e 1 (by decide)] at hn; exact absurd hn (Nat.not_lt_zero n)
  · rw [e 1 (by decide)] at ha; exact absurd ha (Nat.not_lt_zero a)
  · rw [e 1 (by decide)] at hn; exact absurd hn (Nat.not_lt_zero n)
  · rw [e (5 + a) (by omega)]; exact ⟨Nat.zero_le _, fun j hj => absurd hj (Nat.not_lt_zero j)⟩
  · rw [e (5 + a) (by omega)] at hi; exact absurd hi (Nat.not_lt_zero i)
  · rw [e 11 (by decide)]; exact Nat.zero_le _
  · rw [e k (by omega), e 11 (by decide)]
  · rw [e 11 (by decide)] at hg; exact absurd hg (Nat.not_lt_zero g)
  · rw [e 11 (by decide)] at hg; exact absurd hg (Nat.not_lt_zero g)
  · rw [e 14 (by decide)]; exact Nat.zero_le _
  · rw [e k (by omega), e 14 (by decide)]
  · rw [e 14 (by decide)] at hg; exact absurd hg (Nat.not_lt_zero g)
  · by_cases q : k = 0
    · subst q
      intro j hj
      have hj : j < 3 := hj
      rcases (show j = 0 ∨ j = 1 ∨ j = 2 by omega) with rfl | rfl | rfl
      · decide
      · decide
      · decide
    · rw [e k q]; exact rB_0
theorem IX_0 : IX 0 inX := ⟨IY_0, rB_0⟩
theorem TW_0 : TW inX 0 0 := fun f => by
  have e : (Lst inX.1 0 0).1 = 0 := by show (inS.2 5).1 = 0; rw [inS_k (by decide)]
  rw [if_pos e]
  exact pRs_e (z := (0, 0, (0, f))) (fun j hj => by rw [show j = 0 from Nat.le_zero.mp hj]; rfl) rfl
theorem L0_0 : (Lst inX.1 0 0).1 = 0 := by show (inS.2 5).1 = 0; rw [inS_k (by decide)]
theorem s_undo : cUndo inX = (-5, inX) := rfl
theorem s_rest : cRes inX (nI 0) = (-5, inX) := by
  unfold cRes; rw [inR_i (by decide) (by decide), if_pos rfl]; rfl
theorem nx_0 {c : Nat} (hc : c < 2) : nxN inS c = none := by
  unfold nxN
  rw [show Lst inS c (inS.1 % 3) = (0, fun _ => 0) from inS_k (by omega)]
  rfl
theorem s_storm : cStorm inX (nI 0) = (-5, inX) := stm_n (by decide) (nx_0 (by decide))
theorem s_fill : cFill inX (nI 0) (nI 0) = (-3, xTd inX) := tw_fil0 (by decide) (by decide) TW_0 L0_0
theorem s_nmk : cNmk (xTd inX) = (-3, xTd (xTd inX)) := by
  have hr := (TW_0.td).rs0 L0_0
  have eo : xOne (xTd inX) = false := by unfold xOne; rw [hr]; rfl
  unfold cNmk; rw [eo]; rfl
theorem s_next : cNext inS (nI 1) = -6 := by rw [nx_v (by decide), nx_0 (by decide)]; rfl
theorem s_left : cLeft inS (nI 0) (nI 0) = nI 0 := by
  rw [lf_v (by decide) (by decide)]
  unfold nmL
  rw [show Lst inS 0 ((inS.1 + 0) % 3) = (0, fun _ => 0) from inS_k (by omega)]
  rfl
/-- saved, and what is saved -/
theorem save_v (z : Nat) : cSave X (nI 1) z = (nI (X.1.2 1).1, cSv X 1 z) := by
  unfold cSave; rw [inR_i (by decide) (by decide), if_pos rfl]; rfl
theorem sv_ok (X : XS) (z : Nat) : (cSv X 1 z).1 = X.1 ∧ (cSv X 1 z).2.1 = X.2.1 ∧ (∃ u, (cSv X 1 z).2.2.2.1 1 = some u) ∧ ∃ A, (cSv X 1 z).2.2.2.2 1 = cpL A X.1 17 := by
  unfold cSv
  cases X.2.2.2.1 1 with
  | none => exact ⟨rfl, rfl, ⟨z, by show va_up X.2.2.2.1 1 (some z) 1 = _; exact vuS⟩, ⟨inS, by show va_up X.2.2.2.2 1 (cpL inS X.1 17) 1 = _; exact vuS⟩⟩
  | some u => exact ⟨rfl, rfl, ⟨u, by show va_up X.2.2.2.1 1 (some u) 1 = _; exact vuS⟩, ⟨X.2.2.2.2 1, by show va_up X.2.2.2.2 1 (cpL (X.2.2.2.2 1) X.1 17) 1 = _; exact vuS⟩⟩
theorem cp_k {A B : ST} {k : Nat} (hk : k < 17) : (cpL A B 17).2 k = rCp (A.2 k) (B.2 k) := if_pos hk
theorem SOk_cp {A B : ST} (h : SOk B) : SOk (cpL A B 17) := by
  have key : ∀ {k n : Nat}, k < 17 → rB (B.2 k) n → rB ((cpL A B 17).2 k) n := fun {k n} hk hb => by
    rw [cp_k hk]
    intro i hi
    have hi : i < (B.2 k).1 := hi
    show (if i < (B.2 k).1 then (B.2 k).2 i else (A.2 k).2 i) < n
    rw [if_pos hi]; exact hb i hi
  exact ⟨h.1, fun k hk => key hk (h.2.1 k hk), key (by decide) h.2.2⟩
theorem rB_cp {A B : ST} {k n : Nat} (hk : k < 17) (h : rB (B.2 k) n) : rB ((cpL A B 17).2 k) n := by
  rw [cp_k hk]
  intro i hi
  have hi : i < (B.2 k).1 := hi
  show (if i < (B.2 k).1 then (B.2 k).2 i else (A.2 k).2 i) < n
  rw [if_pos hi]; exact h i hi
theorem sN_cp {A B : ST} {k : Nat} (hk : k < 17) : sN ((cpL A B 17).2 k).2 ((cpL A B 17).2 k).1 = sN (B.2 k).2 (B.2 k).1 := by
  rw [cp_k hk]
  exact sN_cong fun i hi => by
    show (if i < (B.2 k).1 then (B.2 k).2 i else (A.2 k).2 i) = _
    exact if_pos hi
theorem n_cp {A B : ST} {k : Nat} (hk : k < 17) : ((cpL A B 17).2 k).1 = (B.2 k).1 := by rw [cp_k hk]; rfl
/-- a year's end, the office told -/
theorem end_w (h : IX t X) (ht : t ≤ 900) : cEnd X = (nI (hdB X.1 ((X.1.2 0).2 0)), xRc X (eyS X.1)) ∧ IX (t + 1) (xRc X (eyS X.1)) ∧ ((xRc X (eyS X.1)).1.2 11).1 = 0 := by
  obtain ⟨a, b, c, d, e⟩ := h.1.endY
  have hy := h.1.2.2.2.2.2.2.1
  rw [(h.1.set3 (i := 0) (by decide)).1] at b e
  refine ⟨?_, h.rc a, c⟩
  unfold cEnd
  rw [if_pos (by omega), e]
theorem hd_le (h : IX t X) (q : Nat) : hdB X.1 q ≤ 40 := Nat.le_trans (cN_le _ _) h.1.n40
/-- brought back from slot 1 -/
theorem res_v {u : Nat} {S : ST} (h1 : X.2.2.2.1 1 = some u) (h2 : X.2.2.2.2 1 = S) : cRes X (nI 1) = (nI ((cpL X.1 S 17).2 1).1, xRc X (cpL X.1 S 17)) := by
  unfold cRes; rw [inR_i (by decide) (by decide), if_pos rfl, show (nI 1).toNatClampNeg = 1 from nI_clamp (by decide), h1, h2]
/-- the latest change undone -/
theorem und_v (X : XS) (Y : ST) : ∃ (q : Nat) (A B : ST), cUndo (xRc X Y) = (nI q, (cpL A (cpL B X.1 17) 17, X.2.1, (q, (xRc X Y).2.2.1.2), X.2.2.2)) ∧ q ≤ 5 := by
  refine ⟨hrN X.2.2.1.1, Y, hrZ0 X.2.2.1.1 X.2.2.1.2.2 (hrN X.2.2.1.1), ?_, by unfold hrN; split <;> omega⟩
  unfold cUndo
  show (if hrN X.2.2.1.1 + 1 = 0 then _ else _) = _
  rw [if_neg (by omega)]
  show (nI (hrN X.2.2.1.1 + 1 - 1), (cpL Y (hrZ X.2.2.1.1 X.2.2.1.2.2 X.1 (hrN X.2.2.1.1 + 1 - 1)) 17, X.2.1, (hrN X.2.2.1.1 + 1 - 1, (xRc X Y).2.2.1.2), X.2.2.2)) = _
  rw [show hrN X.2.2.1.1 + 1 - 1 = hrN X.2.2.1.1 by omega, show hrZ X.2.2.1.1 X.2.2.1.2.2 X.1 (hrN X.2.2.1.1) = cpL (hrZ0 X.2.2.1.1 X.2.2.1.2.2 (hrN X.2.2.1.1)) X.1 17 from vuS]
theorem XAt.sz {G : gT} {x : Nat} {H : Heap} (h : XAt G x X H) : x + 262 ≤ H.size := by
  have := h.2.2.2.2.1.2.lt
  omega
theorem gGr.fa {x : Nat} {H H1 : Heap} (h : gFA x H H1) (hx : x ≤ H.size) : gGr x H H1 := ⟨h.1, fun q hq => h.2 q (by omega) (by unfold gA; omega)⟩
end
section
variable {p : Program} {l : Launch} {e : Env} {R : Room} {s : State} {m : MethodId} {args : Array Value} {below : List Frame} {meth : Method} {c : Code} {H : Heap} {locs : List Loc} {cells slots : Nat} {Q : State → Prop}
variable {pc : Nat} {ls : Array Slot} {rest : List Value} {free : Addr → Prop}
/-- behind a call that answers and makes cells -/
theorem g_wx {v : Value} {Post : Heap → Heap → Prop} {fr : Addr → Prop} {mc ms : Nat} (hL : ∀ q ∈ locs, free q.base) (hs : ∀ q, fr q → free q) (kk : ∀ (H1 : Heap) (locs1 : List Loc), (∀ q ∈ locs1, free q.base) → Post H H1 → W p l e R s m args below meth c H1 locs1 (cells + mc) (slots + ms) Q (F0 m pc ls (v :: rest))) : ∀ (v' : Option Value) (H1 : Heap) (L : List Loc), wi v Post v' H H1 → (∀ q ∈ L, fr q.base) → W p l e R s m args below meth c H1 (locs ++ L) (cells + mc) (slots + ms) Q (F0 m pc ls (v'.toList ++ rest)) := by
  intro v' H1 L h hL1
  obtain ⟨rfl, h⟩ := h
  exact kk H1 _ (t_lL hL fun q hq => hs _ (hL1 q hq)) h
end
