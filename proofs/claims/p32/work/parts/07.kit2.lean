/-! more rows: arraycopy between two int rows, allocation -/
section GK4
variable {p : Program} {l : Launch} {e : Env} {R : Room} {s : State} {m : MethodId} {args : Array Value} {below : List Frame} {meth : Method} {c : Code} {H : Heap} {locs : List Loc} {cells slots : Nat} {Q : State → Prop}
variable {cc : ByteArray} {nL : Nat} {own : String} {pc : Nat} {ls : Array Slot} {rest : List Value} {G : gT} {a : Nat} {free : Addr → Prop}
theorem g_copy (C0 : CallFix p m c cc nL s args lw_g own) (hK : gK G s) (hsz : ls.size = nL) {index a0 n0 n1 n : Nat} {f g : Nat → Nat} (hlink : Cond.methodLink own index arraycopyName ∈ lw_g) (hnat : Cond.native arraycopyName ∈ lw_g) (hstat : Cond.static arraycopyName ∈ lw_g) (hini : Cond.initialized "java/lang/System" ∈ lw_g)
    (he0 : gE G a0 (eI G n0 f) H) (he1 : gE G a (eI G n1 g) H) (h4 : n ≤ n0) (h5 : n ≤ n1) (hn : n < 2 ^ 31) (hframes : 1 ≤ R.frames) (hlocals : (rest.map fun v => v.category).sum + (nativeFrameWords "java/lang/System" "arraycopy" 5 + 11) ≤ R.locals) (hdg : decode cc pc = .ok (.invokestatic index, 3))
    (hL : ∀ q ∈ locs, free q.base) (ha : free a)
    (kk : ∀ (H1 : Heap) (locs1 : List Loc), (∀ q ∈ locs1, free q.base) → gE G a (eI G n1 (fun k => if k < n then f k else g k)) H1 → gCh a H H1 → W p l e R s m args below meth c H1 locs1 cells slots Q (F0 m (pc + 3) ls rest)) : W p l e R s m args below meth c H locs cells slots Q (F0 m pc ls (.int (nI n) :: .int (nI 0) :: .ref a :: .int (nI 0) :: .ref a0 :: rest)) := by
  have hts := C0.2.2.2.2
  have hb := C0.2.1
  intro T hT X
  have hc0 : H[a0]? = some (vp_cell G.2.1 (n0, .inl (fun k => nI (f k)))) := he0
  have hc1 : H[a]? = some (vp_cell G.2.1 (n1, .inl (fun k => nI (g k)))) := he1
  obtain ⟨-, k0, hk0, cm0, hkk0⟩ := (hK.1.2 0 _ rfl).1 n0 (fun j => .int (nI (f j)))
  obtain ⟨-, k1, hk1, cm1, hkk1⟩ := (hK.1.2 0 _ rfl).1 n1 (fun j => .int (nI (g j)))
  have e0 : (nI 0).toInt = 0 := nI_toInt (by omega)
  have en : (nI n).toInt = (n : Int) := nI_toInt hn
  have z0 : (nI 0).toNatClampNeg = 0 := nI_clamp (by omega)
  have zn : (nI n).toNatClampNeg = n := nI_clamp hn
  obtain ⟨vm', X', step⟩ := X.arraycopy C0.1 C0.2.2.2.1 (hts _ hlink) (hts _ hnat) (hts _ hstat) (hts _ hini) (src := a0) (dst := a) (cs := vp_cell G.2.1 (n0, .inl (fun k => nI (f k)))) (cd := vp_cell G.2.1 (n1, .inl (fun k => nI (g k)))) (srcPos := nI 0) (destPos := nI 0) (n := nI n) (by rw [hT]; exact hc0) (by rw [hT]; exact hc1)
    (fun _ h => by cases h) (fun _ h => by cases h) (fun h => by cases h) (fun h => by cases h) hk0 hk1 hkk0 hkk1 (by simp [refKind]) (nI_pos (by omega)) (nI_pos (by omega)) (nI_pos hn)
    (by rw [e0, en]; show ¬ _ > ((arrV G.2.1 n0 (fun j => .int (nI (f j)))).slots.size : Int); rw [arrV_size]; omega)
    (by rw [e0, en]; show ¬ _ > ((arrV G.2.1 n1 (fun j => .int (nI (g j)))).slots.size : Int); rw [arrV_size]; omega)
    (fun vm₁ _ i hi => by
      rw [zn] at hi
      have e : (vp_cell G.2.1 (n0, .inl (fun k => nI (f k)))).slots.getD ((nI 0).toNatClampNeg + i) .null = .int (nI (f i)) := by
        show (arrV G.2.1 n0 (fun j => .int (nI (f j)))).slots.getD _ _ = _
        rw [z0, Nat.zero_add, Array.getD_eq_getD_getElem?, arrV_read _ _ (by omega)]
        rfl
      refine ⟨?_, ?_⟩
      · rw [e]; rfl
      · rw [e]; exact trivial)
    (g := F0 m pc ls (.int (nI n) :: .int (nI 0) :: .ref a :: .int (nI 0) :: .ref a0 :: rest)) rfl (by rw [C0.2.2.1]; exact hsz) (rest := rest) rfl (by rw [hb]; exact hdg) hframes (by show 2 * 0 + _ + _ ≤ _; omega)
  have e1 : copied (vp_cell G.2.1 (n0, .inl (fun k => nI (f k)))) (vp_cell G.2.1 (n1, .inl (fun k => nI (g k)))) (nI 0) (nI 0) (nI n) = vp_cell G.2.1 (n1, .inl (fun k => nI (if k < n then f k else g k))) := by
    have h1 := va_copied (fun z => Value.int z) G.2.1 G.2.1 (n0 := n0) (n1 := n1) (sp := 0) (dp := 0) (n := n) (fun k => nI (f k)) (fun k => nI (g k)) (by omega)
    have h2 : copied (vp_cell G.2.1 (n0, .inl (fun k => nI (f k)))) (vp_cell G.2.1 (n1, .inl (fun k => nI (g k)))) (nI 0) (nI 0) (nI n) = (arrV G.2.1 n1 (fun j => .int (nI (g j)))).storeRun (nI 0).toNatClampNeg ((arrV G.2.1 n0 (fun j => .int (nI (f j)))).stretch (nI 0).toNatClampNeg (nI n).toNatClampNeg) := rfl
    rw [h2, z0, zn, h1, vp_cell_i]
    congr 1
    funext k
    simp only [va_cpy, Nat.zero_le, true_and, Nat.zero_add, Nat.sub_zero]
    by_cases q : k < n
    · rw [if_pos q, if_pos q]
    · rw [if_neg q, if_neg q]
  rw [e1] at X' step
  have hl : a < H.size := (Array.getElem?_eq_some_iff.mp hc1).1
  obtain ⟨t, a1, b1⟩ := kk (H.setIfInBounds a (vp_cell G.2.1 (n1, .inl (fun k => nI (if k < n then f k else g k))))) _ (t_lL hL (fun q hq => by
      obtain ⟨z, -, hz⟩ := List.mem_map.mp hq
      rw [← hz]; exact ha)) (show (H.setIfInBounds a _)[a]? = some _ by simp [Array.getElem?_setIfInBounds, hl]) ⟨by simp, fun q hq => by simp [Array.getElem?_setIfInBounds, Ne.symm hq]⟩ _ (by rw [← hT]; rfl) X'
  exact ⟨t, step t a1, b1⟩
/-- the frame of what makes cells: nothing below lo changed -/
theorem g_new (C0 : CallFix p m c cc nL s args lw_g own) (hK : gK G s) {C : String} {T : u_T} {N ci index : Nat} (hin : ∀ w ∈ u_ws C T N, w ∈ lw_g) (ty : Nat → FieldType) (hty : ∀ k, k < N → parseFieldDescriptor (T k).2.2.1 = some (ty k)) (hcl : Cond.classLink own index C ∈ lw_g) (hinst : Cond.instantiable C N ∈ lw_g) (hini : Cond.initialized C ∈ lw_g)
    (hc : vwCl[ci]? = some (C, T, N)) {fs : List Value} (hfs : ∀ j, j < N → defaultValue (ty j) = vp_V fs j) (hcells : cells + 1 ≤ R.cells) (hslots : slots + N ≤ R.slots) (hdg : decode cc pc = .ok (.new index, 3)) {h : Nat} (hh : H.size = h)
    (kk : ∀ (H1 : Heap), gE G h (.inr (ci, fs)) H1 → H1.size = h + 1 → (∀ q : Nat, q < h → H1[q]? = H[q]?) → W p l e R s m args below meth c H1 locs (cells + 1) (slots + N) Q (F0 m (pc + 3) ls (.ref h :: rest))) : W p l e R s m args below meth c H locs cells slots Q (F0 m pc ls rest) := by
  have hts := C0.2.2.2.2
  have hKn := hK.1.1 ci _ hc
  subst hh
  refine W.newcK C0.1 C0.2.1 C0.2.2.2.1 (hts _ hcl) (hts _ hinst) (hts _ hini) rfl hdg hcells hslots hKn.2.1 rfl fun H1 kC hkC e1 z1 o1 => ?_
  exact kk H1 ⟨_, hc, (u_born ty hts hin hKn hkC e1 hty).to hfs⟩ z1 o1
theorem g_newi (C0 : CallFix p m c cc nL s args lw_g own) (hK : gK G s) {n : Nat} (hac : Cond.arrayClass .int ∈ lw_g) (hn : n < 134217728) (hcells : cells + 1 ≤ R.cells) (hslots : slots + n ≤ R.slots) (hdg : decode cc pc = .ok (.newarray .int, 2)) {h : Nat} (hh : H.size = h)
    (kk : ∀ (H1 : Heap), gE G h (eI G n (fun _ => 0)) H1 → H1.size = h + 1 → (∀ q : Nat, q < h → H1[q]? = H[q]?) → W p l e R s m args below meth c H1 locs (cells + 1) (slots + n) Q (F0 m (pc + 2) ls (.ref h :: rest))) : W p l e R s m args below meth c H locs cells slots Q (F0 m pc ls (.int (nI n) :: rest)) := by
  subst hh
  refine va_newaK (atype := .int) C0.1 C0.2.1 (C0.2.2.2.2 _ hac) rfl hdg rfl (nI_pos (by omega)) (nI_clamp (by omega)) (by show n * 4 ≤ 536870912; omega) hcells hslots rfl fun H1 cA e1 z1 o1 hAr hNm => ?_
  have hcA : cA = G.2.1 := Option.some.inj (hNm.symm.trans (hK.1.2 0 _ rfl).2)
  subst hcA
  exact kk H1 e1 z1 o1
end GK4
section GK5
variable {p : Program} {l : Launch} {e : Env} {R : Room} {s : State} {m : MethodId} {args : Array Value} {below : List Frame} {meth : Method} {c : Code} {H : Heap} {locs : List Loc} {cells slots : Nat} {Q : State → Prop}
variable {cc : ByteArray} {nL : Nat} {own : String} {pc : Nat} {ls : Array Slot} {rest : List Value} {G : gT} {a : Nat} {free : Addr → Prop}
theorem g_mmin (C0 : CallFix p m c cc nL s args lw_g own) (hsz : ls.size = nL) {index : Nat} (hlink : Cond.methodLink own index Lib.Math.min.name ∈ lw_g) (hstat : Cond.static Lib.Math.min.name ∈ lw_g) (hini : Cond.initialized "java/lang/Math" ∈ lw_g) (hcode : Cond.code Lib.Math.min.name Lib.Math.min.code 2 (some .int) ∈ lw_g)
    (hframes : 1 ≤ R.frames) (hlocals : (rest.map fun v => v.category).sum + 13 ≤ R.locals) (hc : cells ≤ R.cells) (hs : slots ≤ R.slots) {x y z : Nat} (hdg : decode cc pc = .ok (.invokestatic index, 3)) (hx : x < 2 ^ 31) (hy : y < 2 ^ 31) (hz : min x y = z)
    (kk : W p l e R s m args below meth c H locs cells slots Q (F0 m (pc + 3) ls (.int (nI z) :: rest))) : W p l e R s m args below meth c H locs cells slots Q (F0 m pc ls (.int (nI y) :: .int (nI x) :: rest)) := by
  have hts := C0.2.2.2.2
  refine va_mmin C0.1 C0.2.1 (C0.2.2.1.trans hsz.symm) C0.2.2.2.1 (hts _ hlink) (hts _ hstat) (hts _ hini) (hts _ hcode) hframes hlocals hc hs hdg ?_
  have e : (if nI y < nI x then nI y else nI x) = nI z := by
    subst hz
    by_cases q : y < x
    · rw [if_pos ((nI_lti hy hx).mpr q), Nat.min_eq_right (by omega)]
    · rw [if_neg (mt (nI_lti hy hx).mp q), Nat.min_eq_left (by omega)]
  rw [e]; exact kk
theorem g_mmax (C0 : CallFix p m c cc nL s args lw_g own) (hsz : ls.size = nL) {index : Nat} (hlink : Cond.methodLink own index Lib.Math.max.name ∈ lw_g) (hstat : Cond.static Lib.Math.max.name ∈ lw_g) (hini : Cond.initialized "java/lang/Math" ∈ lw_g) (hcode : Cond.code Lib.Math.max.name Lib.Math.max.code 2 (some .int) ∈ lw_g)
    (hframes : 1 ≤ R.frames) (hlocals : (rest.map fun v => v.category).sum + 13 ≤ R.locals) (hc : cells ≤ R.cells) (hs : slots ≤ R.slots) {x y z : Nat} (hdg : decode cc pc = .ok (.invokestatic index, 3)) (hx : x < 2 ^ 31) (hy : y < 2 ^ 31) (hz : max x y = z)
    (kk : W p l e R s m args below meth c H locs cells slots Q (F0 m (pc + 3) ls (.int (nI z) :: rest))) : W p l e R s m args below meth c H locs cells slots Q (F0 m pc ls (.int (nI y) :: .int (nI x) :: rest)) := by
  have hts := C0.2.2.2.2
  refine va_mmax C0.1 C0.2.1 (C0.2.2.1.trans hsz.symm) C0.2.2.2.1 (hts _ hlink) (hts _ hstat) (hts _ hini) (hts _ hcode) hframes hlocals hc hs hdg ?_
  have e : (if nI x < nI y then nI y else nI x) = nI z := by
    subst hz
    by_cases q : x < y
    · rw [if_pos ((nI_lti hx hy).mpr q), Nat.max_eq_right (by omega)]
    · rw [if_neg (mt (nI_lti hx hy).mp q), Nat.max_eq_left (by omega)]
  rw [e]; exact kk
end GK5
/-- the frame of what makes cells: nothing below lo changed, nothing went -/
def gGr (lo : Nat) (H H1 : Heap) : Prop := H.size ≤ H1.size ∧ ∀ q : Nat, q < lo → H1[q]? = H[q]?
def gAb (lo : Nat) : Addr → Prop := fun q => lo ≤ q
theorem gGr.rf {lo : Nat} {H : Heap} : gGr lo H H := ⟨Nat.le_refl _, fun _ _ => rfl⟩
theorem gGr.tr {lo : Nat} {H H1 H2 : Heap} (h : gGr lo H H1) (h2 : gGr lo H1 H2) : gGr lo H H2 := ⟨Nat.le_trans h.1 h2.1, fun q hq => (h2.2 q hq).trans (h.2 q hq)⟩
theorem gGr.mono {lo lo' : Nat} {H H1 : Heap} (h : gGr lo H H1) (h1 : lo' ≤ lo) : gGr lo' H H1 := ⟨h.1, fun q hq => h.2 q (by omega)⟩
theorem gGr.ch {lo a : Nat} {H H1 : Heap} (h : gCh a H H1) (h1 : lo ≤ a) : gGr lo H H1 := ⟨by rw [h.1]; exact Nat.le_refl _, fun q hq => h.2 q (by omega)⟩
theorem gGr.nw {lo h : Nat} {H H1 : Heap} (hs : H1.size = h + 1) (hh : H.size = h) (hq : ∀ q : Nat, q < h → H1[q]? = H[q]?) (h1 : lo ≤ h) : gGr lo H H1 := ⟨by omega, fun q q1 => hq q (by omega)⟩
theorem gGr.fr {lo a b : Nat} {H H1 : Heap} (h : gFr a b H H1) (h1 : lo ≤ a) : gGr lo H H1 := ⟨by rw [h.1]; exact Nat.le_refl _, fun q hq => h.2 q (by omega)⟩
theorem gE.gr {G : gT} {a lo : Nat} {e : va_E} {H H1 : Heap} (h : gE G a e H) (hf : gGr lo H H1) (hn : a < lo) : gE G a e H1 := va_at.kept h (hf.2 a hn)
theorem gE.nw {G : gT} {a b : Nat} {e : va_E} {H H1 : Heap} (h : gE G a e H) (hq : ∀ q : Nat, q < b → H1[q]? = H[q]?) (hn : a < b) : gE G a e H1 := va_at.kept h (hq a hn)
theorem gAb.mono {lo lo' : Nat} (h : lo' ≤ lo) : ∀ q, gAb lo q → gAb lo' q := fun _ h1 => Nat.le_trans h h1
theorem gAb.mk {lo q : Nat} (h : lo ≤ q) : gAb lo q := h
theorem RowAt.gr {G : gT} {r cap lo : Nat} {R : Rw} {H H1 : Heap} (h : RowAt G r cap R H) (hf : gGr lo H H1) (hn : r + 2 ≤ lo) : RowAt G r cap R H1 := ⟨h.1.gr hf (by omega), h.2.1.gr hf (by omega), h.2.2⟩
theorem co_min : Cond.code Lib.Math.min.name Lib.Math.min.code 2 (some .int) ∈ lw_g := co_Ma_min
theorem co_max : Cond.code Lib.Math.max.name Lib.Math.max.code 2 (some .int) ∈ lw_g := co_Ma_max
theorem RowAt.nw {G : gT} {r cap b : Nat} {R : Rw} {H H1 : Heap} (h : RowAt G r cap R H) (hq : ∀ q : Nat, q < b → H1[q]? = H[q]?) (hn : r + 1 < b) : RowAt G r cap R H1 := ⟨h.1.nw hq (by omega), h.2.1.nw hq (by omega), h.2.2⟩
theorem RowAt.ch {G : gT} {r cap b : Nat} {R : Rw} {H H1 : Heap} (h : RowAt G r cap R H) (hc : gCh b H H1) (hn : b < r ∨ r + 1 < b) : RowAt G r cap R H1 := ⟨h.1.ch hc (by omega), h.2.1.ch hc (by omega), h.2.2⟩
section GK6
variable {p : Program} {l : Launch} {e : Env} {R : Room} {s : State} {m : MethodId} {args : Array Value} {below : List Frame} {meth : Method} {c : Code} {H : Heap} {locs : List Loc} {cells slots : Nat} {Q : State → Prop}
variable {cc : ByteArray} {nL : Nat} {own : String} {pc : Nat} {ls : Array Slot} {rest : List Value} {G : gT} {a : Nat} {free : Addr → Prop}
/-- behind a call of no answer that makes cells -/
theorem g_wa {Post : Heap → Heap → Prop} {fr : Addr → Prop} {mc ms : Nat} (hL : ∀ q ∈ locs, free q.base) (hs : ∀ q, fr q → free q) (kk : ∀ (H1 : Heap) (locs1 : List Loc), (∀ q ∈ locs1, free q.base) → Post H H1 → W p l e R s m args below meth c H1 locs1 (cells + mc) (slots + ms) Q (F0 m pc ls rest)) : ∀ (v' : Option Value) (H1 : Heap) (L : List Loc), wv Post v' H H1 → (∀ q ∈ L, fr q.base) → W p l e R s m args below meth c H1 (locs ++ L) (cells + mc) (slots + ms) Q (F0 m pc ls (v'.toList ++ rest)) := by
  intro v' H1 L h hL1
  obtain ⟨rfl, h⟩ := h
  exact kk H1 _ (t_lL hL fun q hq => hs _ (hL1 q hq)) h
theorem g_newq (C0 : CallFix p m c cc nL s args lw_g own) (hK : gK G s) {n index : Nat} {C : String} {cA0 : ClassId} (t0 : Nat) (ht : (gTys G)[t0]? = some (cA0, .object C)) (hcl : Cond.classLink own index C ∈ lw_g) (hover : va_AO C s) (hn : n < 134217728) (hcells : cells + 1 ≤ R.cells) (hslots : slots + n ≤ R.slots) (hdg : decode cc pc = .ok (.anewarray index, 3)) {h : Nat} (hh : H.size = h)
    (kk : ∀ (H1 : Heap), gE G h (.inl (cA0, n, .inr (.inr (.inr (.inr (fun _ => none)))))) H1 → H1.size = h + 1 → (∀ q : Nat, q < h → H1[q]? = H[q]?) → W p l e R s m args below meth c H1 locs (cells + 1) (slots + n) Q (F0 m (pc + 3) ls (.ref h :: rest))) : W p l e R s m args below meth c H locs cells slots Q (F0 m pc ls (.int (nI n) :: rest)) := by
  subst hh
  have hnc : (nI n).toNatClampNeg = n := nI_clamp (by omega)
  have hkn := (hK.1.2 t0 _ ht).2
  obtain ⟨kA0, comp0, k1, k2, k3, k4⟩ := hkn
  refine W.anew (n := nI n) C0.1 C0.2.1 C0.2.2.2.1 (C0.2.2.2.2 _ hcl) (va_AO.use hover) rfl hdg rfl (nI_pos (by omega)) (by rw [hnc]; omega) hcells (by rw [hnc]; exact hslots) fun cA kA comp f1 f2 f3 f4 => ?_
  have hcA : cA = cA0 := Option.some.inj (f1.symm.trans k4)
  subst hcA
  rw [hnc]
  refine kk _ ?_ (by simp) (fun q hq => by rw [Array.getElem?_push, if_neg (Nat.ne_of_lt hq)])
  show (H.push _)[H.size]? = some (vp_cell cA (n, .inr (.inr (.inr (.inr (fun _ => none))))))
  rw [vp_cell_q]
  have e : ({ cls := cA, slots := Array.replicate n .null, vm := .none } : Cell) = arrV cA n (fun j => va_rf ((fun _ => none) j)) := arrV_new cA n .null
  rw [← e]; simp
theorem g_newqRo (C0 : CallFix p m c cc nL s args lw_g own) (hK : gK G s) {n index : Nat} (hcl : Cond.classLink own index "GaleNames$Row" ∈ lw_g) (hn : n < 134217728) (hcells : cells + 1 ≤ R.cells) (hslots : slots + n ≤ R.slots) (hdg : decode cc pc = .ok (.anewarray index, 3)) {h : Nat} (hh : H.size = h)
    (kk : ∀ (H1 : Heap), gE G h (eR G n (fun _ => none)) H1 → H1.size = h + 1 → (∀ q : Nat, q < h → H1[q]? = H[q]?) → W p l e R s m args below meth c H1 locs (cells + 1) (slots + n) Q (F0 m (pc + 3) ls (.ref h :: rest))) : W p l e R s m args below meth c H locs cells slots Q (F0 m pc ls (.int (nI n) :: rest)) :=
  g_newq C0 hK 3 rfl hcl hK.2.2.1 hn hcells hslots hdg hh kk
theorem g_newqSt (C0 : CallFix p m c cc nL s args lw_g own) (hK : gK G s) {n index : Nat} (hcl : Cond.classLink own index "GaleNames$State" ∈ lw_g) (hn : n < 134217728) (hcells : cells + 1 ≤ R.cells) (hslots : slots + n ≤ R.slots) (hdg : decode cc pc = .ok (.anewarray index, 3)) {h : Nat} (hh : H.size = h)
    (kk : ∀ (H1 : Heap), gE G h (eS G n (fun _ => none)) H1 → H1.size = h + 1 → (∀ q : Nat, q < h → H1[q]? = H[q]?) → W p l e R s m args below meth c H1 locs (cells + 1) (slots + n) Q (F0 m (pc + 3) ls (.ref h :: rest))) : W p l e R s m args below meth c H locs cells slots Q (F0 m pc ls (.int (nI n) :: rest)) :=
  g_newq C0 hK 4 rfl hcl hK.2.2.2 hn hcells hslots hdg hh kk
end GK6
theorem dv_Hi : ∀ j, j < 2 → defaultValue (t_Hi j) = vp_V [.null, .int 0] j := by decide +kernel
theorem dv_Pa : ∀ j, j < 2 → defaultValue (t_Pa j) = vp_V [.null, .null] j := by decide +kernel
theorem dv_Ro : ∀ j, j < 2 → defaultValue (t_Ro j) = vp_V [.null, .int 0] j := by decide +kernel
theorem dv_Sl : ∀ j, j < 1 → defaultValue (t_Sl j) = vp_V [.null] j := by decide +kernel
theorem dv_St : ∀ j, j < 13 → defaultValue (t_St j) = vp_V [.int 0, .null, .null, .null, .null, .null, .null, .null, .null, .null, .null, .null, .null] j := by decide +kernel
theorem dv_Ga : ∀ j, j < 4 → defaultValue (t_Ga j) = vp_V [.null, .null, .null, .null] j := by decide +kernel
section GK7
variable {p : Program} {l : Launch} {e : Env} {R : Room} {s : State} {m : MethodId} {args : Array Value} {below : List Frame} {meth : Method} {c : Code} {H : Heap} {locs : List Loc} {cells slots : Nat} {Q : State → Prop}
variable {cc : ByteArray} {nL : Nat} {own : String} {pc : Nat} {ls : Array Slot} {rest : List Value}
theorem g_oi (C0 : CallFix p m c cc nL s args lw_g own) (hsz : ls.size = nL) {idx a : Nat} (hlink : Cond.methodLink own idx Lib.objectInit ∈ lw_g) (hdg : decode cc pc = .ok (.invokespecial idx, 3)) (hframes : 1 ≤ R.frames) (hlocals : (rest.map fun v => v.category).sum + 12 ≤ R.locals)
    (kk : W p l e R s m args below meth c H locs cells slots Q (F0 m (pc + 3) ls rest)) : W p l e R s m args below meth c H locs cells slots Q (F0 m pc ls (.ref a :: rest)) :=
  W.objInit C0.1 C0.2.1 C0.2.2.2.1 (C0.2.2.2.2 _ hlink) (C0.2.2.2.2 _ im_Ob_init) (C0.2.2.2.2 _ co_Ob_init) rfl (hsz.trans C0.2.2.1.symm) rfl hdg hframes (by show 2 * 0 + _ + 12 ≤ _; omega) kk
end GK7
