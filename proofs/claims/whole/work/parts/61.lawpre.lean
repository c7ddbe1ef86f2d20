/-! the law: what its loop keeps -/
section
variable {p : Program} {l : Launch} {e : Env} {R : Room} {s : State} {m : MethodId} {args : Array Value} {below : List Frame} {meth : Method} {c : Code} {H : Heap} {locs : List Loc} {cells slots : Nat} {Q : State → Prop}
variable {cc : ByteArray} {nL : Nat} {own : String} {pc : Nat} {ls : Array Slot} {rest : List Value} {free : Addr → Prop}
theorem la_sld (C0 : CallFix p m c cc nL s args lw_g own) {b L x j : Nat} {xs : Nat → Int32} (hX0 : va_X b L xs s s.heap) (hxs : x = s.heap.size) (hbl : b < s.heap.size) (hS : va_S (fun q => x ≤ q) s.heap H locs) (hj : j < L) (hL : L ≤ 2048) (hdg : decode cc pc = .ok (.iaload, 1)) (kk : W p l e R s m args below meth c H locs cells slots Q (F0 m (pc + 1) ls (.int (xs j) :: rest))) : W p l e R s m args below meth c H locs cells slots Q (F0 m pc ls (.int (nI j) :: .ref b :: rest)) := by
  refine va_sld C0.1 C0.2.1 hX0 hbl (show ¬ x ≤ b by omega) hS (gIn hj (by omega)) hdg ?_
  rw [nI_clamp (by omega)]; exact kk
theorem g_wx {v : Value} {Post : Heap → Heap → Prop} {fr : Addr → Prop} {mc ms : Nat} (hL : ∀ q ∈ locs, free q.base) (hs : ∀ q, fr q → free q) (kk : ∀ (H1 : Heap) (locs1 : List Loc), (∀ q ∈ locs1, free q.base) → Post H H1 → W p l e R s m args below meth c H1 locs1 (cells + mc) (slots + ms) Q (F0 m pc ls (v :: rest))) : ∀ (v' : Option Value) (H1 : Heap) (L : List Loc), wi v Post v' H H1 → (∀ q ∈ L, fr q.base) → W p l e R s m args below meth c H1 (locs ++ L) (cells + mc) (slots + ms) Q (F0 m pc ls (v'.toList ++ rest)) := by
  intro v' H1 L h hL1
  obtain ⟨rfl, h⟩ := h
  exact kk H1 _ (t_lL hL fun q hq => hs _ (hL1 q hq)) h
end
theorem la_S {s : State} {x lo hi : Nat} {H H1 : Heap} {locs locs1 : List Loc} (hxs : x = s.heap.size) (hS : va_S (fun q => x ≤ q) s.heap H locs) (hf : gFr lo hi H H1) (hlo : x ≤ lo) (hL : ∀ q ∈ locs1, x ≤ q.base) : va_S (fun q => x ≤ q) s.heap H1 locs1 :=
  ⟨by rw [hf.1]; exact hS.1, fun q h1 h2 => (hf.2 q (Or.inl (by omega))).trans (hS.2.1 q h1 h2), hL⟩
theorem la_SA {s : State} {x : Nat} {H H1 : Heap} {locs locs1 : List Loc} (hxs : x = s.heap.size) (hS : va_S (fun q => x ≤ q) s.heap H locs) (hf : gFA x H H1) (hL : ∀ q ∈ locs1, x ≤ q.base) : va_S (fun q => x ≤ q) s.heap H1 locs1 :=
  ⟨Nat.le_trans hS.1 hf.1, fun q h1 h2 => (hf.2 q (Nat.lt_of_lt_of_le h1 hS.1) (show ¬ ((x ≤ q ∧ q < x + 262) ∨ x + 270 ≤ q) by omega)).trans (hS.2.1 q h1 h2), hL⟩
theorem MAtX.fr {G : gT} {o lo hi : Nat} {M : MS} {H H1 : Heap} (h : MAtX G o M H) (hf : gFr lo hi H H1) (hn : o + 8 ≤ lo ∨ hi ≤ o) : MAtX G o M H1 := by
  obtain ⟨h0, h1, h2, h3, h4, h5, h6, h7⟩ := h
  exact ⟨h0.fr hf (by omega), h1.fr hf (by omega), h2.fr hf (by omega), h3.fr hf (by omega), h4.fr hf (by omega), h5.fr hf (by omega), h6.fr hf (by omega), h7.fr hf (by omega)⟩
theorem la_MA {G : gT} {x : Nat} {M : MS} {H H1 : Heap} (h : MAtX G (x + 262) M H) (hf : gFA x H H1) : MAtX G (x + 262) M H1 := by
  have hk : ∀ j, j < 8 → x + 262 + j < H.size → H1[x + 262 + j]? = H[x + 262 + j]? := fun j hj hs => hf.2 _ hs (show ¬ ((x ≤ x + 262 + j ∧ x + 262 + j < x + 262) ∨ x + 270 ≤ x + 262 + j) by omega)
  obtain ⟨h0, h1, h2, h3, h4, h5, h6, h7⟩ := h
  exact ⟨h0.kept (hk 0 (by decide) h0.lt), h1.kept (hk 1 (by decide) h1.lt), h2.kept (hk 2 (by decide) h2.lt), h3.kept (hk 3 (by decide) h3.lt), h4.kept (hk 4 (by decide) h4.lt), h5.kept (hk 5 (by decide) h5.lt), h6.kept (hk 6 (by decide) h6.lt), h7.kept (hk 7 (by decide) h7.lt)⟩
theorem XAt.fr2 {G : gT} {x : Nat} {X : XS} {H H1 : Heap} (h : XAt G x X H) (hf : gFr (x + 262) (x + 262 + 8) H H1) : XAt G x X H1 := by
  obtain ⟨h1, h2, h3, h4, h5, h6, h7⟩ := h
  exact ⟨h1.fr hf (by omega), h2.fr hf (by omega), h3.fr hf (by omega), h4.fr hf (by omega), h5.fr hf (by omega), fun i hi z hz => ⟨(h6 i hi z hz).1, (h6 i hi z hz).2.fr hf (by have := (h6 i hi z hz).1; omega)⟩, h7⟩
def laI (G : gT) (s : State) (x t : Nat) (X : XS) (M : MS) (H : Heap) (locs : List Loc) : Prop :=
  XAt G x X H ∧ MAtX G (x + 262) M H ∧ x + 270 ≤ H.size ∧ va_S (fun q => x ≤ q) s.heap H locs ∧ RX t X M
/-- from behind a case -/
def laK (l : Launch) (G : gT) (b x t : Nat) (p : Program) (e : Env) (s : State) (m : MethodId) (below : List Frame) (meth : Method) (c : Code) (Q : State → Prop) : Prop :=
  ∀ (X : XS) (M : MS) (H : Heap) (locs : List Loc), laI G s x (t + 1) X M H locs → ∀ ls : Array Slot, lv_has ls 4 [(3, .int (nI (4 * t))), (2, .ref (x + 262)), (1, .ref x), (0, .ref b)] → W p l e room_1 s m #[.ref b] below meth c H locs (270 + 36 * (t + 1)) (8085 + 342 * (t + 1)) Q (F0 m 931 ls [])
theorem la_ok {t : Nat} {X : XS} {M : MS} (h : RX t X M) (ht : t ≤ 600) : XOk X := by
  obtain ⟨a, b⟩ := RB.SOk h.1 (by omega)
  refine ⟨a, fun i hi => ?_, b⟩
  have hP := h.2.1
  rw [hP.1] at hi
  have := hP.2.2.1 i hi
  rw [this.1]
  omega
theorem a_Sign {P : Rw} {pd : Nat → Nat} {ln : Nat} (h : RP P pd ln) (a : Int32) : cSign P a = mSign pd ln a := by
  unfold cSign mSign
  rw [h.1]
  rcases inR_or a ln with e | ⟨i, hi, hi31, rfl⟩
  · rw [e]; rfl
  · rw [inR_i hi hi31, if_pos rfl, if_pos rfl, nI_clamp hi31, rA_in (by rw [h.1]; exact hi), (h.2.2.1 i hi).1]
