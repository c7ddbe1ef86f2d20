/-! Own rows over the kit's: one fact a cell (gE), contracts by a relation of the heaps (gQ), calls whose words are the tables' (lw_g). -/
abbrev gT : Type := va_G × (ClassId × ClassId × ClassId × ClassId × ClassId)
abbrev gTys (G : gT) : List (ClassId × FieldType) := [(G.2.1, .int), (G.2.2.1, .int), (G.2.2.2.1, .int), (G.2.2.2.2.1, .object "GaleNames$Row"), (G.2.2.2.2.2, .object "GaleNames$State")]
/-- the words that aren't tables' words of the plain kind -/
def gN (U : State) : Prop := (∀ w ∈ lw_n, va_Nw w U) ∧ va_AO "GaleNames$Row" U ∧ va_AO "GaleNames$State" U
def gK (G : gT) (U : State) : Prop := va_K G.1 vwCl (gTys G) U ∧ gN U
theorem nest_warm {w : Cond} (h : nestW w = true) {s U : State} (hW : s.WarmedH U.vm) (hZ : va_Nw w s) : va_Nw w U := by
  cases w <;> first | exact va_Nw.warmF hW hZ | exact va_Nw.warmM hW hZ | exact absurd h (by simp [nestW])
theorem nest_same {w : Cond} (h : nestW w = true) {s U : State} (hv : s.vm = U.vm) (hZ : va_Nw w s) : va_Nw w U := by
  cases w <;> first | exact va_Nw.same rfl hv hZ | exact absurd h (by simp [nestW])
def gE (G : gT) (a : Nat) (e : va_E) (H : Heap) : Prop := va_at G.1 vwCl (a, e) H
abbrev eO (ci : Nat) (fs : List Value) : va_E := .inr (ci, fs)
abbrev eI (G : gT) (n : Nat) (f : Nat → Nat) : va_E := .inl (G.2.1, n, .inl (fun k => nI (f k)))
abbrev eC (G : gT) (n : Nat) (f : Nat → Nat) : va_E := .inl (G.2.2.1, n, .inl (fun k => nI (f k)))
abbrev eZ (G : gT) (n : Nat) (f : Nat → Nat) : va_E := .inl (G.2.2.2.1, n, .inl (fun k => nI (f k)))
abbrev eR (G : gT) (n : Nat) (f : Nat → Option Nat) : va_E := .inl (G.2.2.2.2.1, n, .inr (.inr (.inr (.inr f))))
abbrev eS (G : gT) (n : Nat) (f : Nat → Option Nat) : va_E := .inl (G.2.2.2.2.2, n, .inr (.inr (.inr (.inr f))))
def bI (b : Bool) : Int32 := if b then 1 else 0
def wd (y : MethodName) (cc : ByteArray) (nL : Nat) (ret : Option FieldType) : List Cond := Cond.code y cc nL ret :: lw_g
def gPre (G : gT) (av : List Value) (P : Heap → Prop) : Array Value → State → Prop := va_Pc av (fun U => P U.heap ∧ gK G U)
def gQ (post : Option Value → Heap → Heap → Prop) : Array Value → State → Outcome → State → Prop := fun _ st o t => ∃ v, o = .returned v ∧ post v st.heap t.heap
/-- a reader's end: its answer, and nothing changed -/
def rd (v : Value) : Option Value → Heap → Heap → Prop := fun v' H H1 => v' = some v ∧ H1 = H
def noF : Addr → Prop := fun _ => False
def gCh (a : Nat) (H H1 : Heap) : Prop := H1.size = H.size ∧ ∀ q : Nat, q ≠ a → H1[q]? = H[q]?
/-- a method's contract -/
abbrev gM (l : Launch) (y : MethodName) (cc : ByteArray) (nL : Nat) (ret : Option FieldType) (fr lo mc ms : Nat) (G : gT) (av : List Value) (P : Heap → Prop) (post : Option Value → Heap → Heap → Prop) (free : Addr → Prop) : Prop :=
  Met l y (wd y cc nL ret) ({ frames := fr, cells := mc, slots := ms, locals := lo } : Room) (gPre G av P) (gQ post) mc ms free
theorem gP {G : gT} {a : Nat} {e : va_E} {H : Heap} (h : gE G a e H) : va_P G.1 vwCl [(a, e)] H := by
  intro k q hk
  match k, hk with
  | 0, hk => cases hk; exact h
  | k + 1, hk => simp at hk
theorem gE.kept {G : gT} {a : Nat} {e : va_E} {H H1 : Heap} (h : gE G a e H) (hq : H1[a]? = H[a]?) : gE G a e H1 := va_at.kept h hq
theorem gE.ch {G : gT} {a b : Nat} {e : va_E} {H H1 : Heap} (h : gE G a e H) (hc : gCh b H H1) (hn : a ≠ b) : gE G a e H1 := va_at.kept h (hc.2 a hn)
theorem gE.lt {G : gT} {a : Nat} {e : va_E} {H : Heap} (h : gE G a e H) : a < H.size := va_at.lt h
theorem gK.warm {G : gT} {s U : State} (hW : s.WarmedH U.vm) (h : gK G s) : gK G U :=
  ⟨va_K.moved hW.alike h.1, fun w hw => nest_warm (List.mem_filter.mp hw).2 hW (h.2.1 w hw), h.2.2.1.moved hW.alike, h.2.2.2.moved hW.alike⟩
theorem gK.same {G : gT} {s U : State} (hv : s.vm = U.vm) (h : gK G s) : gK G U :=
  ⟨va_K.moved (by rw [hv]; exact Vm.Alike.refl U.vm) h.1, fun w hw => nest_same (List.mem_filter.mp hw).2 hv (h.2.1 w hw), h.2.2.1.moved (by rw [hv]; exact Vm.Alike.refl U.vm), h.2.2.2.moved (by rw [hv]; exact Vm.Alike.refl U.vm)⟩
theorem lw_good {w : Cond} (h : w ∈ lw_g) : (w.onTables && w.keeps) = true ∨ ∃ ty, w = .arrayClass ty := good_of_word (List.mem_filter.mp h).2
theorem gPre_blind {G : gT} {av : List Value} {P : Heap → Prop} : FrameBlind (gPre G av P) := by
  intro a U g mk h
  obtain ⟨h1, h2, h3⟩ := h
  exact ⟨h1, h2, gK.same (s := U) (U := U.calling g mk a) rfl h3⟩
theorem gI_add (a b : Nat) : nI a + nI b = nI (a + b) := by simp [nI, Int32.ofNat_add]
theorem gI_mul (a b : Nat) : nI a * nI b = nI (a * b) := by simp [nI, Int32.ofNat_mul]
theorem gI_sub {a b : Nat} (h : b ≤ a) : nI a - nI b = nI (a - b) := by
  have h1 : nI a = nI (a - b) + nI b := by rw [gI_add]; congr 1; omega
  rw [h1, Int32.add_sub_cancel]
theorem nI_inj {a b : Nat} (ha : a < 2 ^ 31) (hb : b < 2 ^ 31) (h : nI a = nI b) : a = b := by
  have h1 := congrArg Int32.toInt h
  rw [nI_toInt ha, nI_toInt hb] at h1
  omega
theorem nI_lei {a b : Nat} (ha : a < 2 ^ 31) (hb : b < 2 ^ 31) : nI a ≤ nI b ↔ a ≤ b := by
  rw [Int32.le_iff_toInt_le, nI_toInt ha, nI_toInt hb]; omega
theorem nI_lti {a b : Nat} (ha : a < 2 ^ 31) (hb : b < 2 ^ 31) : nI a < nI b ↔ a < b := by
  rw [Int32.lt_iff_toInt_lt, nI_toInt ha, nI_toInt hb]; omega
theorem nI_eqi {a b : Nat} (ha : a < 2 ^ 31) (hb : b < 2 ^ 31) : nI a = nI b ↔ a = b := ⟨nI_inj ha hb, fun h => by rw [h]⟩
/-- an Int32 that isn't negative, by its number -/
theorem gI_of {x : Int32} (h : ¬ x < 0) : x = nI x.toNatClampNeg ∧ x.toNatClampNeg < 2 ^ 31 := by
  rw [Int32.lt_iff_toInt_lt, Int32.toInt_zero] at h
  have h2 : x.toInt < 2 ^ 31 := Int32.toInt_lt x
  have h3 : (x.toNatClampNeg : Int) = x.toInt := by
    rw [Int32.toNatClampNeg]; omega
  have h4 : x.toNatClampNeg < 2 ^ 31 := by omega
  refine ⟨?_, h4⟩
  rw [← Int32.toInt_inj, nI_toInt h4, h3]
theorem nI_zero : nI 0 = 0 := rfl
theorem nI_one : nI 1 = 1 := rfl
theorem bI_t : bI true = 1 := rfl
theorem bI_f : bI false = 0 := rfl
theorem bI_nI (b : Bool) : bI b = nI (if b then 1 else 0) := by cases b <;> rfl
theorem bI_narrow (b : Bool) : narrow .boolean (.int (bI b)) = .int (bI b) := by cases b <;> decide +kernel
/-- what is said of a callee -/
def gCal (y : MethodName) (n : Nat) : Prop := y.cls ≠ "java/lang/invoke/MethodHandle" ∧ y.cls ≠ "java/lang/invoke/VarHandle" ∧ (parseMethodDescriptor y.desc).map (fun d => d.parameters.length) = some n
section GK
variable {p : Program} {l : Launch} {e : Env} {R : Room} {s : State} {m : MethodId} {args : Array Value} {below : List Frame} {meth : Method} {c : Code} {H : Heap} {locs : List Loc} {cells slots : Nat} {Q : State → Prop}
variable {cc : ByteArray} {nL : Nat} {own : String} {pc : Nat} {ls : Array Slot} {rest : List Value} {G : gT} {a : Nat} {free : Addr → Prop}
theorem g_get (C0 : CallFix p m c cc nL s args lw_g own) (hK : gK G s) {C : String} {T : u_T} {N ci : Nat} (hin : ∀ w ∈ u_ws C T N, w ∈ lw_g) {fs : List Value} (he : gE G a (.inr (ci, fs)) H) (hc : vwCl[ci]? = some (C, T, N)) (k : Nat) (hk : k < N) {index : Nat} (hl : Cond.fieldLink own index (T k).1 (T k).2.1 (T k).2.2.1 ∈ lw_g) {v : Value} (hv : fs[k]? = some v) (hdg : decode cc pc = .ok (.getfield index, 3))
    (kk : W p l e R s m args below meth c H locs cells slots Q (F0 m (pc + 3) ls (v :: rest))) : W p l e R s m args below meth c H locs cells slots Q (F0 m pc ls (.ref a :: rest)) :=
  va_get C0.1 C0.2.1 C0.2.2.2.2 hin C0.2.2.2.1 hK.1 (gP he) 0 rfl hc k hk (C0.2.2.2.2 _ hl) (fun _ h => h) hv hdg kk
theorem g_getN (C0 : CallFix p m c cc nL s args lw_g own) (hK : gK G s) {C host : String} {T : u_T} {N ci : Nat} (hin : ∀ w ∈ u_ws C T N, w ∈ lw_g) {fs : List Value} (he : gE G a (.inr (ci, fs)) H) (hc : vwCl[ci]? = some (C, T, N)) (k : Nat) (hk : k < N) {index : Nat} (hl : Cond.fieldLinkNest own index (T k).1 (T k).2.1 (T k).2.2.1 host ∈ lw_n) {v : Value} (hv : fs[k]? = some v) (hdg : decode cc pc = .ok (.getfield index, 3))
    (kk : W p l e R s m args below meth c H locs cells slots Q (F0 m (pc + 3) ls (v :: rest))) : W p l e R s m args below meth c H locs cells slots Q (F0 m pc ls (.ref a :: rest)) :=
  va_getN C0.1 C0.2.1 C0.2.2.2.2 hin C0.2.2.2.1 hK.1 (gP he) 0 rfl hc k hk (va_Nw.use rfl (hK.2.1 _ hl)) (fun _ h => h) hv hdg kk
theorem g_put (C0 : CallFix p m c cc nL s args lw_g own) (hK : gK G s) {C : String} {T : u_T} {N ci : Nat} (hin : ∀ w ∈ u_ws C T N, w ∈ lw_g) {ty0 : Nat → FieldType} (hty : ∀ k, k < N → parseFieldDescriptor (T k).2.2.1 = some (ty0 k)) (hnm : ∀ a, a < N → ∀ b, b < N → a ≠ b → (T a).2.1 ≠ (T b).2.1) {fs : List Value} (he : gE G a (.inr (ci, fs)) H) (hc : vwCl[ci]? = some (C, T, N)) (k : Nat) (hk : k < N) {index : Nat} (hl : Cond.fieldLink own index (T k).1 (T k).2.1 (T k).2.2.1 ∈ lw_g) (hfin : (T k).2.2.2 = false) {v : Value} (hn : narrow (ty0 k) v = v) (hfit : fits (ty0 k) v = true) (hlen : k < fs.length) (hdg : decode cc pc = .ok (.putfield index, 3))
    (hL : ∀ q ∈ locs, free q.base) (ha : free a)
    (kk : ∀ (H1 : Heap) (locs1 : List Loc), (∀ q ∈ locs1, free q.base) → gE G a (.inr (ci, fs.set k v)) H1 → gCh a H H1 → W p l e R s m args below meth c H1 locs1 cells slots Q (F0 m (pc + 3) ls rest)) : W p l e R s m args below meth c H locs cells slots Q (F0 m pc ls (v :: .ref a :: rest)) := by
  have hts := C0.2.2.2.2
  have hap := va_apart (own := own) hts hin ty0 hty hnm hK.1 hc
  obtain ⟨r, h1, cell, q1, q2, q3, q4⟩ := he
  have hr : r = (C, T, N) := Option.some.inj (h1.symm.trans hc)
  subst hr
  obtain ⟨hS, hfc, kC, hkC, hkind⟩ := hK.1.1 ci _ hc
  obtain ⟨cf, kf, fi, f, hi, hsl⟩ := hS k hk
  have hlay := hts _ (hin _ (u_in_lay hk))
  unfold u_lay at hlay
  rw [if_neg (by rw [hfin]; decide)] at hlay
  have hst := (u_facts hfc hkC (u_lays hts hin hk) hi).1
  have h6 := u_store hfc hkC hkind hlay hi (hty k hk) hn hfit
  refine W.putK C0.1 C0.2.1 (f := f) ⟨C0.2.2.2.1, hts _ hl, ⟨_, _, _, hi⟩, hst⟩ (by rw [q2]; exact h6) q1 q3 (by rw [hsl]; exact k2_hasslot (q4 k hk)) rfl rfl hdg fun H' e1 e2 e3 => ?_
  rw [hsl] at e1 ⊢
  exact kk H' _ (t_lc hL ha) ⟨_, hc, t_OB.to (V := updV (vp_V fs) k v) ⟨_, e1, q2, q3, t_set q4 hap hk v⟩ (fun j _ => vp_updV_set hlen v j)⟩ ⟨e2, e3⟩
theorem g_putF (C0 : CallFix p m c cc nL s args lw_g own) (hK : gK G s) {C : String} {T : u_T} {N ci : Nat} (hin : ∀ w ∈ u_ws C T N, w ∈ lw_g) {ty0 : Nat → FieldType} (hty : ∀ k, k < N → parseFieldDescriptor (T k).2.2.1 = some (ty0 k)) (hnm : ∀ a, a < N → ∀ b, b < N → a ≠ b → (T a).2.1 ≠ (T b).2.1) {fs : List Value} (he : gE G a (.inr (ci, fs)) H) (hc : vwCl[ci]? = some (C, T, N)) (k : Nat) (hk : k < N) {index : Nat} (hl : Cond.fieldLink own index (T k).1 (T k).2.1 (T k).2.2.1 ∈ lw_g) (hfin : (T k).2.2.2 = true) (hin2 : meth.name = "<init>") (hdecl : (T k).1 = own) {v : Value} (hn : narrow (ty0 k) v = v) (hfit : fits (ty0 k) v = true) (hlen : k < fs.length) (hdg : decode cc pc = .ok (.putfield index, 3))
    (hL : ∀ q ∈ locs, free q.base) (ha : free a)
    (kk : ∀ (H1 : Heap) (locs1 : List Loc), (∀ q ∈ locs1, free q.base) → gE G a (.inr (ci, fs.set k v)) H1 → gCh a H H1 → W p l e R s m args below meth c H1 locs1 cells slots Q (F0 m (pc + 3) ls rest)) : W p l e R s m args below meth c H locs cells slots Q (F0 m pc ls (v :: .ref a :: rest)) := by
  have hts := C0.2.2.2.2
  have hown := C0.2.2.2.1
  have hap := va_apart (own := own) hts hin ty0 hty hnm hK.1 hc
  obtain ⟨r, h1, cell, q1, q2, q3, q4⟩ := he
  have hr : r = (C, T, N) := Option.some.inj (h1.symm.trans hc)
  subst hr
  obtain ⟨hS, hfc, kC, hkC, hkind⟩ := hK.1.1 ci _ hc
  obtain ⟨cf, kf, fi, f, hi, hsl⟩ := hS k hk
  have hlay := hts _ (hin _ (u_in_lay hk))
  unfold u_lay at hlay
  rw [if_pos hfin] at hlay
  have hst := (u_facts hfc hkC (u_lays hts hin hk) hi).1
  have hcf : m.cls = cf := by
    obtain ⟨_, _, c', _, _, _, -, -, hf', -, -, -, hown2, -⟩ := Cond.laysFinal_spec hlay
    have e1 : c' = cf := by have := hi.symm.trans hf'; simp at this; exact this.1.symm
    rw [hdecl] at hown2
    rw [← e1]; exact Option.some.inj (hown.symm.trans hown2)
  have h6 := u_fits hfc hkC hkind (Or.inr hlay) hi (hty k hk) hn hfit
  refine W.putFinK C0.1 C0.2.1 hown (hts _ hl) hi hst hcf hin2 (by rw [q2]; exact h6) q1 q3 (by rw [hsl]; exact k2_hasslot (q4 k hk)) rfl rfl hdg fun H' e1 e2 e3 => ?_
  rw [hsl] at e1 ⊢
  exact kk H' _ (t_lc hL ha) ⟨_, hc, t_OB.to (V := updV (vp_V fs) k v) ⟨_, e1, q2, q3, t_set q4 hap hk v⟩ (fun j _ => vp_updV_set hlen v j)⟩ ⟨e2, e3⟩
theorem gIn {i n : Nat} (h : i < n) (hn : n < 2 ^ 31) : vp_in (nI i) n := vp_in_nI h (by omega)
theorem gIn2 {i n : Nat} (h : i < n) (hn : n < 2 ^ 31) (nn : Nat) (e : nn = n) : ¬ (nI i < 0 ∨ nn ≤ (nI i).toNatClampNeg) := by subst e; exact gIn h hn
theorem g_iald (C0 : CallFix p m c cc nL s args lw_g own) (hK : gK G s) {n i : Nat} {f : Nat → Nat} (he : gE G a (eI G n f) H) (hi : i < n) (hn : n < 2 ^ 31) (hdg : decode cc pc = .ok (.iaload, 1))
    (kk : W p l e R s m args below meth c H locs cells slots Q (F0 m (pc + 1) ls (.int (nI (f i)) :: rest))) : W p l e R s m args below meth c H locs cells slots Q (F0 m pc ls (.int (nI i) :: .ref a :: rest)) := by
  refine va_iald C0.1 C0.2.1 hK.1 (gP he) 0 0 rfl rfl (gIn hi hn) hdg ?_
  rw [nI_clamp (by omega)]; exact kk
theorem gUpd {f : Nat → Nat} {i v : Nat} (g : Nat → Value) (hg : g = fun k => .int (nI (f k))) : updV g i (.int (nI v)) = fun k => .int (nI (va_up f i v k)) := by
  subst hg
  funext q
  by_cases hq : q = i
  · simp [updV, va_up, hq]
  · simp [updV, va_up, hq]
theorem g_iast (C0 : CallFix p m c cc nL s args lw_g own) (hK : gK G s) {n i v : Nat} {f : Nat → Nat} (he : gE G a (eI G n f) H) (hi : i < n) (hn : n < 2 ^ 31) (hdg : decode cc pc = .ok (.iastore, 1)) (hL : ∀ q ∈ locs, free q.base) (ha : free a)
    (kk : ∀ (H1 : Heap) (locs1 : List Loc), (∀ q ∈ locs1, free q.base) → gE G a (eI G n (va_up f i v)) H1 → gCh a H H1 → W p l e R s m args below meth c H1 locs1 cells slots Q (F0 m (pc + 1) ls rest)) : W p l e R s m args below meth c H locs cells slots Q (F0 m pc ls (.int (nI v) :: .int (nI i) :: .ref a :: rest)) := by
  refine W.iast C0.1 C0.2.1 he ((hK.1.2 0 _ rfl).1 n (fun j => .int (nI (f j)))) (fun q => by cases q) (gIn2 hi hn _ (arrV_size ..)) rfl rfl hdg fun H1 e z oq => ?_
  refine kk H1 _ (t_lc hL ha) ?_ ⟨z, oq⟩
  show H1[a]? = some (vp_cell _ _)
  rw [e, vp_cell_i, vp_cell_i, arrV_store, nI_clamp (by omega), gUpd _ rfl]
theorem g_alen (C0 : CallFix p m c cc nL s args lw_g own) (hK : gK G s) {cA : ClassId} {n : Nat} {y} (t0 : Nat) (he : gE G a (.inl (cA, n, y)) H) {ty : FieldType} (ht : (gTys G)[t0]? = some (cA, ty)) (hdg : decode cc pc = .ok (.arraylength, 1))
    (kk : W p l e R s m args below meth c H locs cells slots Q (F0 m (pc + 1) ls (.int (nI n) :: rest))) : W p l e R s m args below meth c H locs cells slots Q (F0 m pc ls (.ref a :: rest)) :=
  va_alen C0.1 C0.2.1 hK.1 (gP he) 0 t0 rfl ht rfl hdg kk
theorem g_aald (C0 : CallFix p m c cc nL s args lw_g own) (hK : gK G s) {cA : ClassId} {C : String} {n i : Nat} {f : Nat → Option Nat} (t0 : Nat) (he : gE G a (.inl (cA, n, .inr (.inr (.inr (.inr f))))) H) (ht : (gTys G)[t0]? = some (cA, .object C)) (hi : i < n) (hn : n < 2 ^ 31) (hdg : decode cc pc = .ok (.aaload, 1))
    (kk : W p l e R s m args below meth c H locs cells slots Q (F0 m (pc + 1) ls (va_rf (f i) :: rest))) : W p l e R s m args below meth c H locs cells slots Q (F0 m pc ls (.int (nI i) :: .ref a :: rest)) := by
  refine va_aldq C0.1 C0.2.1 hK.1 (gP he) 0 t0 rfl ht (gIn hi hn) hdg ?_
  rw [nI_clamp (by omega)]; exact kk
theorem g_aast (C0 : CallFix p m c cc nL s args lw_g own) (hK : gK G s) {cA : ClassId} {r : vw_C} {n i v ci : Nat} {vs : List Value} {f : Nat → Option Nat} (t0 : Nat) (he : gE G a (.inl (cA, n, .inr (.inr (.inr (.inr f))))) H) (ht : (gTys G)[t0]? = some (cA, .object r.1)) (hv : gE G v (.inr (ci, vs)) H) (hc : vwCl[ci]? = some r) (hi : i < n) (hn : n < 2 ^ 31) (hdg : decode cc pc = .ok (.aastore, 1)) (hL : ∀ q ∈ locs, free q.base) (ha : free a)
    (kk : ∀ (H1 : Heap) (locs1 : List Loc), (∀ q ∈ locs1, free q.base) → gE G a (.inl (cA, n, .inr (.inr (.inr (.inr (va_up f i (some v))))))) H1 → gCh a H H1 → W p l e R s m args below meth c H1 locs1 cells slots Q (F0 m (pc + 1) ls rest)) : W p l e R s m args below meth c H locs cells slots Q (F0 m pc ls (.ref v :: .int (nI i) :: .ref a :: rest)) := by
  obtain ⟨r', hr', cellV, g1, g2, g3, -⟩ := hv
  have hcls := (hK.1.1 ci r hc).2
  obtain ⟨kA, comp, k1, k2, k3, -⟩ := (hK.1.2 t0 _ ht).2
  have hcomp : comp = G.1.1 ci := Option.some.inj (k3.symm.trans hcls.1)
  subst hcomp
  obtain ⟨kC, hkC, -⟩ := hcls.2
  have hlt : (nI i).toNatClampNeg < n := by rw [nI_clamp (by omega)]; exact hi
  refine W.aast C0.1 C0.2.1 he (fun q h => by cases h) (fun h => by cases h) k1 k2 rfl hkC ⟨nI_pos (by omega), by show _ < (arrV _ _ _).slots.size; rw [arrV_size]; exact hlt⟩ g1 (fun q h => by rw [g3] at h; cases h) (by rw [g2]; exact hkC) (by rw [g2]; exact va_assign hcls) rfl rfl hdg fun H1 e z oq => ?_
  refine kk H1 _ (t_lc hL ha) ?_ ⟨z, oq⟩
  show H1[a]? = some (vp_cell _ _)
  rw [e, vp_cell_q, vp_cell_q, arrV_store, nI_clamp (by omega)]
  congr 2
  funext q
  by_cases hq : q = i
  · subst hq
    simp [updV, va_up, va_rf]
  · simp [updV, va_up, hq]
/-! calls -/
theorem g_mem {y : MethodName} {bytes : ByteArray} {maxL : Nat} {ret : Option FieldType} (hts : ∀ w ∈ lw_g, w.before args s = true) (hc : Cond.code y bytes maxL ret ∈ lw_g) : ∀ w ∈ wd y bytes maxL ret, ∀ (a' : Array Value) (U : State), s.WarmedH U.vm → w.before a' U = true := by
  intro w hw a' U hW
  rcases List.mem_cons.mp hw with h | h
  · subst h; exact word_at hW (lw_good hc) (hts _ hc)
  · exact word_at hW (lw_good h) (hts _ h)
theorem g_callB {y : MethodName} {bytes : ByteArray} {maxL n mc ms index : Nat} {ret : Option FieldType} {rm : Room} (hts : ∀ w ∈ lw_g, w.before args s = true) (hc : Cond.code y bytes maxL ret ∈ lw_g) (hini : Cond.initialized y.cls ∈ lw_g) (hl : Cond.methodLink own index y ∈ lw_g) (hg : gCal y n) (hrc : rm.cells = mc) (hrs : rm.slots = ms) (hR : rm.frames + 1 ≤ R.frames ∧ 8 + (maxL + 11) + rm.locals ≤ R.locals) : CallB R s args own index y bytes maxL ret (wd y bytes maxL ret) rm mc ms n := by
  refine ⟨hrc, hrs, hR.1, hR.2, g_mem hts hc, List.mem_cons_self, hts _ hc, hts _ hini, ⟨hg.1, hg.2.1⟩, fun sig h => ?_, hts _ hl⟩
  have h2 := hg.2.2
  rw [h] at h2
  exact (Option.some.inj h2).symm
theorem g_callN (hK : gK G s) {y : MethodName} {bytes : ByteArray} {maxL n mc ms index : Nat} {ret : Option FieldType} {rm : Room} {host : String} (hts : ∀ w ∈ lw_g, w.before args s = true) (hc : Cond.code y bytes maxL ret ∈ lw_g) (hini : Cond.initialized y.cls ∈ lw_g) (hl : Cond.methodLinkNest own index y host ∈ lw_n) (hg : gCal y n) (hrc : rm.cells = mc) (hrs : rm.slots = ms) (hR : rm.frames + 1 ≤ R.frames ∧ 8 + (maxL + 11) + rm.locals ≤ R.locals) : va_CN R s args own index y host bytes maxL ret (wd y bytes maxL ret) rm mc ms n := by
  refine ⟨⟨hrc, hrs, hR.1, hR.2, g_mem hts hc, List.mem_cons_self⟩, hts _ hc, hts _ hini, ⟨hg.1, hg.2.1⟩, fun sig h => ?_, va_Nw.use rfl (hK.2.1 _ hl)⟩
  have h2 := hg.2.2
  rw [h] at h2
  exact (Option.some.inj h2).symm
/-- behind a call -/
theorem g_after {mc ms : Nat} {st0 : List Value} {post : Option Value → Heap → Heap → Prop} {a : Array Value} {fr : Addr → Prop} (hr : va_Run p l e R s m args below meth c H locs cells slots mc ms (F0 m pc ls st0) rest (gQ post a) fr)
    (kk : ∀ (v : Option Value) (H1 : Heap) (L : List Loc), post v H H1 → (∀ q ∈ L, fr q.base) → W p l e R s m args below meth c H1 (locs ++ L) (cells + mc) (slots + ms) Q (F0 m (pc + 3) ls (v.toList ++ rest))) : W p l e R s m args below meth c H locs cells slots Q (F0 m pc ls st0) := by
  intro T hT X
  obtain ⟨v, st₀, t, T', L, h0, X', hL, e1, e2, ⟨v', hv, hp⟩, st⟩ := hr T hT X
  cases hv
  rw [h0] at hp
  obtain ⟨t2, a1, b1⟩ := kk v t.heap L hp hL T' e1 X'
  exact ⟨t2, st t2 a1, b1⟩
theorem g_recv (hK : gK G s) {b ci N : Nat} {C : String} {T : u_T} {fs : List Value} (hO : gE G b (.inr (ci, fs)) H) (hci : vwCl[ci]? = some (C, T, N)) : ∃ cell : Cell, H[b]? = some cell ∧ cell.vm.isStatics = false ∧ s.vm.findClass C = some cell.cls :=
  va_recv (tys := gTys G) hK.1 (gP hO) hci (q0 := 0) rfl
theorem g_preS {av : List Value} {P : Heap → Prop} (hK : gK G s) (hP : P H) : PreS s H (gPre G av P) av :=
  ⟨gPre_blind, fun U hU hW => ⟨rfl, by rw [hU]; exact hP, gK.warm hW hK⟩⟩
/-- invokevirtual -/
theorem g_V (C0 : CallFix p m c cc nL s args lw_g own) {y : MethodName} {bytes : ByteArray} {maxL n mc ms index b ci N : Nat} {ret : Option FieldType} {fr lo : Nat} {post : Option Value → Heap → Heap → Prop} {fre : Addr → Prop} {As st0 : List Value} {P : Heap → Prop} {C : String} {T : u_T} {fs : List Value}
    (hM : gM l y bytes maxL ret fr lo mc ms G (.ref b :: As) P post fre) (hc : Cond.code y bytes maxL ret ∈ lw_g) (hi : Cond.instanceMethod y ∈ lw_g) (hs : Cond.selects C y y ∈ lw_g) (hini : Cond.initialized y.cls ∈ lw_g) (hg : gCal y n) (hl : Cond.methodLink own index y ∈ lw_g)
    (hR : fr + 1 ≤ R.frames ∧ 8 + (maxL + 11) + lo ≤ R.locals) (hK : gK G s) (hO : gE G b (.inr (ci, fs)) H) (hci : vwCl[ci]? = some (C, T, N)) (hP : P H) (hn : As.length = n) (hsz : ls.size = nL) (hst : st0 = As.reverse ++ .ref b :: rest) (hrm : (rest.map fun v => v.category).sum ≤ 8) (hdg : decode cc pc = .ok (.invokevirtual index, 3)) (hf : cells + mc ≤ R.cells ∧ slots + ms ≤ R.slots)
    (kk : ∀ (v : Option Value) (H1 : Heap) (L : List Loc), post v H H1 → (∀ q ∈ L, fre q.base) → W p l e R s m args below meth c H1 (locs ++ L) (cells + mc) (slots + ms) Q (F0 m (pc + 3) ls (v.toList ++ rest))) : W p l e R s m args below meth c H locs cells slots Q (F0 m pc ls st0) :=
  g_after (va_runV C0 hM ⟨g_callB C0.2.2.2.2 hc hini hl hg rfl rfl hR, C0.2.2.2.2 _ hi, C0.2.2.2.2 _ hs⟩ ⟨gPre_blind, g_recv hK hO hci, (g_preS hK hP).2⟩ rfl hn hsz hst (lv_room hrm) hdg hf) kk
/-- invokestatic -/
theorem g_S (C0 : CallFix p m c cc nL s args lw_g own) {y : MethodName} {bytes : ByteArray} {maxL n mc ms index : Nat} {ret : Option FieldType} {fr lo : Nat} {post : Option Value → Heap → Heap → Prop} {fre : Addr → Prop} {As st0 : List Value} {P : Heap → Prop}
    (hM : gM l y bytes maxL ret fr lo mc ms G As P post fre) (hc : Cond.code y bytes maxL ret ∈ lw_g) (hi : Cond.static y ∈ lw_g) (hini : Cond.initialized y.cls ∈ lw_g) (hg : gCal y n) (hl : Cond.methodLink own index y ∈ lw_g)
    (hR : fr + 1 ≤ R.frames ∧ 8 + (maxL + 11) + lo ≤ R.locals) (hK : gK G s) (hP : P H) (hn : As.length = n) (hsz : ls.size = nL) (hst : st0 = As.reverse ++ rest) (hrm : (rest.map fun v => v.category).sum ≤ 8) (hdg : decode cc pc = .ok (.invokestatic index, 3)) (hf : cells + mc ≤ R.cells ∧ slots + ms ≤ R.slots)
    (kk : ∀ (v : Option Value) (H1 : Heap) (L : List Loc), post v H H1 → (∀ q ∈ L, fre q.base) → W p l e R s m args below meth c H1 (locs ++ L) (cells + mc) (slots + ms) Q (F0 m (pc + 3) ls (v.toList ++ rest))) : W p l e R s m args below meth c H locs cells slots Q (F0 m pc ls st0) :=
  g_after (va_runS C0 hM ⟨g_callB C0.2.2.2.2 hc hini hl hg rfl rfl hR, C0.2.2.2.2 _ hi⟩ (g_preS hK hP) rfl hn hsz hst (lv_room hrm) hdg hf) kk
theorem g_SN (C0 : CallFix p m c cc nL s args lw_g own) {y : MethodName} {bytes : ByteArray} {maxL n mc ms index : Nat} {ret : Option FieldType} {fr lo : Nat} {post : Option Value → Heap → Heap → Prop} {fre : Addr → Prop} {As st0 : List Value} {P : Heap → Prop} {host : String}
    (hM : gM l y bytes maxL ret fr lo mc ms G As P post fre) (hc : Cond.code y bytes maxL ret ∈ lw_g) (hi : Cond.static y ∈ lw_g) (hini : Cond.initialized y.cls ∈ lw_g) (hg : gCal y n) (hl : Cond.methodLinkNest own index y host ∈ lw_n)
    (hR : fr + 1 ≤ R.frames ∧ 8 + (maxL + 11) + lo ≤ R.locals) (hK : gK G s) (hP : P H) (hn : As.length = n) (hsz : ls.size = nL) (hst : st0 = As.reverse ++ rest) (hrm : (rest.map fun v => v.category).sum ≤ 8) (hdg : decode cc pc = .ok (.invokestatic index, 3)) (hf : cells + mc ≤ R.cells ∧ slots + ms ≤ R.slots)
    (kk : ∀ (v : Option Value) (H1 : Heap) (L : List Loc), post v H H1 → (∀ q ∈ L, fre q.base) → W p l e R s m args below meth c H1 (locs ++ L) (cells + mc) (slots + ms) Q (F0 m (pc + 3) ls (v.toList ++ rest))) : W p l e R s m args below meth c H locs cells slots Q (F0 m pc ls st0) :=
  g_after (va_runSN C0 hM ⟨g_callN hK C0.2.2.2.2 hc hini hl hg rfl rfl hR, C0.2.2.2.2 _ hi, trivial⟩ (g_preS hK hP) rfl hn hsz hst (lv_room hrm) hdg hf) kk
/-- invokespecial of a constructor -/
theorem g_I (C0 : CallFix p m c cc nL s args lw_g own) {y : MethodName} {bytes : ByteArray} {maxL n mc ms index b : Nat} {fr lo : Nat} {post : Option Value → Heap → Heap → Prop} {fre : Addr → Prop} {As st0 : List Value} {P : Heap → Prop}
    (hM : gM l y bytes maxL none fr lo mc ms G (.ref b :: As) P post fre) (hc : Cond.code y bytes maxL none ∈ lw_g) (hi : Cond.instanceMethod y ∈ lw_g) (hnm : y.name = "<init>") (hini : Cond.initialized y.cls ∈ lw_g) (hg : gCal y n) (hl : Cond.methodLink own index y ∈ lw_g)
    (hR : fr + 1 ≤ R.frames ∧ 8 + (maxL + 11) + lo ≤ R.locals) (hK : gK G s) (hP : P H) (hn : As.length = n) (hsz : ls.size = nL) (hst : st0 = As.reverse ++ .ref b :: rest) (hrm : (rest.map fun v => v.category).sum ≤ 8) (hdg : decode cc pc = .ok (.invokespecial index, 3)) (hf : cells + mc ≤ R.cells ∧ slots + ms ≤ R.slots)
    (kk : ∀ (v : Option Value) (H1 : Heap) (L : List Loc), post v H H1 → (∀ q ∈ L, fre q.base) → W p l e R s m args below meth c H1 (locs ++ L) (cells + mc) (slots + ms) Q (F0 m (pc + 3) ls (v.toList ++ rest))) : W p l e R s m args below meth c H locs cells slots Q (F0 m pc ls st0) :=
  g_after (va_runI C0 hM ⟨g_callB C0.2.2.2.2 hc hini hl hg rfl rfl hR, hnm, C0.2.2.2.2 _ hi⟩ (g_preS hK hP) rfl hn hsz hst (lv_room hrm) hdg hf) kk
theorem g_IN (C0 : CallFix p m c cc nL s args lw_g own) {y : MethodName} {bytes : ByteArray} {maxL n mc ms index b : Nat} {fr lo : Nat} {post : Option Value → Heap → Heap → Prop} {fre : Addr → Prop} {As st0 : List Value} {P : Heap → Prop} {host : String}
    (hM : gM l y bytes maxL none fr lo mc ms G (.ref b :: As) P post fre) (hc : Cond.code y bytes maxL none ∈ lw_g) (hi : Cond.instanceMethod y ∈ lw_g) (hnm : y.name = "<init>") (hini : Cond.initialized y.cls ∈ lw_g) (hg : gCal y n) (hl : Cond.methodLinkNest own index y host ∈ lw_n)
    (hR : fr + 1 ≤ R.frames ∧ 8 + (maxL + 11) + lo ≤ R.locals) (hK : gK G s) (hP : P H) (hn : As.length = n) (hsz : ls.size = nL) (hst : st0 = As.reverse ++ .ref b :: rest) (hrm : (rest.map fun v => v.category).sum ≤ 8) (hdg : decode cc pc = .ok (.invokespecial index, 3)) (hf : cells + mc ≤ R.cells ∧ slots + ms ≤ R.slots)
    (kk : ∀ (v : Option Value) (H1 : Heap) (L : List Loc), post v H H1 → (∀ q ∈ L, fre q.base) → W p l e R s m args below meth c H1 (locs ++ L) (cells + mc) (slots + ms) Q (F0 m (pc + 3) ls (v.toList ++ rest))) : W p l e R s m args below meth c H locs cells slots Q (F0 m pc ls st0) :=
  g_after (va_runIN C0 hM ⟨g_callN hK C0.2.2.2.2 hc hini hl hg rfl rfl hR, hnm, C0.2.2.2.2 _ hi⟩ (g_preS hK hP) rfl hn hsz hst (lv_room hrm) hdg hf) kk
/-- behind a reader -/
theorem g_kr {v : Value} {fr : Addr → Prop} {g : Option Value → JFrame} (hfr : fr = noF) (kk : W p l e R s m args below meth c H locs cells slots Q (g (some v))) : ∀ (v' : Option Value) (H1 : Heap) (L : List Loc), rd v v' H H1 → (∀ q ∈ L, fr q.base) → W p l e R s m args below meth c H1 (locs ++ L) (cells + 0) (slots + 0) Q (g v') := by
  intro v' H1 L h hL
  obtain ⟨rfl, rfl⟩ := h
  subst hfr
  have h0 : L = [] := by
    cases L with
    | nil => rfl
    | cons q L => exact absurd (hL q List.mem_cons_self) id
  rw [h0, List.append_nil]
  exact kk
/-! ends -/
theorem g_hq {post : Option Value → Heap → Heap → Prop} {v : Option Value} (h : post v s.heap H) : ∀ t : State, t.heap = H → s.WarmedH t.vm → gQ post args s (.returned v) t := fun t ht _ => ⟨v, rfl, by rw [ht]; exact h⟩
theorem g_iret {post : Option Value → Heap → Heap → Prop} (C0 : CallFix p m c cc nL s args lw_g own) (hlk : meth.locks = false) (hr : meth.sig.returnType = some .int) {v : Int32} (hdg : decode cc pc = .ok (.ireturn, 1)) (hL : ∀ q ∈ locs, free q.base) (h : post (some (.int v)) s.heap H) : W p l e R s m args below meth c H locs cells slots (MQ below (gQ post) args s cells slots free) (F0 m pc ls [.int v]) :=
  W.iret C0.1 C0.2.1 hr (g_hq h) hL hdg hlk
theorem g_zret {post : Option Value → Heap → Heap → Prop} (C0 : CallFix p m c cc nL s args lw_g own) (hlk : meth.locks = false) (hr : meth.sig.returnType = some .boolean) {b : Bool} (hdg : decode cc pc = .ok (.ireturn, 1)) (hL : ∀ q ∈ locs, free q.base) (h : post (some (.int (bI b))) s.heap H) : W p l e R s m args below meth c H locs cells slots (MQ below (gQ post) args s cells slots free) (F0 m pc ls [.int (bI b)]) :=
  W.zret C0.1 C0.2.1 hr (bI_narrow b) (g_hq h) hL hdg hlk
theorem g_vret {post : Option Value → Heap → Heap → Prop} (C0 : CallFix p m c cc nL s args lw_g own) (hlk : meth.locks = false) (hr : meth.sig.returnType = none) (hdg : decode cc pc = .ok (.return_, 1)) (hL : ∀ q ∈ locs, free q.base) (h : post none s.heap H) : W p l e R s m args below meth c H locs cells slots (MQ below (gQ post) args s cells slots free) (F0 m pc ls []) :=
  W.vret C0.1 C0.2.1 hr (g_hq h) hL hdg hlk
theorem g_aret {post : Option Value → Heap → Heap → Prop} (C0 : CallFix p m c cc nL s args lw_g own) (hlk : meth.locks = false) {n : String} (hr : meth.sig.returnType = some (.object n)) {v : Value} (hv : v = .null ∨ ∃ a, v = .ref a) (hdg : decode cc pc = .ok (.areturn, 1)) (hL : ∀ q ∈ locs, free q.base) (h : post (some v) s.heap H) : W p l e R s m args below meth c H locs cells slots (MQ below (gQ post) args s cells slots free) (F0 m pc ls [v]) :=
  W.aret C0.1 C0.2.1 hr (Or.inl ⟨n, rfl⟩) hv (g_hq h) hL hdg hlk
/-! numbers -/
theorem g_iadd (C0 : CallFix p m c cc nL s args lw_g own) {x y z : Nat} (hdg : decode cc pc = .ok (.iadd, 1)) (hz : x + y = z) (kk : W p l e R s m args below meth c H locs cells slots Q (F0 m (pc + 1) ls (.int (nI z) :: rest))) : W p l e R s m args below meth c H locs cells slots Q (F0 m pc ls (.int (nI y) :: .int (nI x) :: rest)) :=
  lv_iadd C0.1 C0.2.1 hdg (by rw [gI_add, hz]; exact kk)
theorem g_isub (C0 : CallFix p m c cc nL s args lw_g own) {x y z : Nat} (hdg : decode cc pc = .ok (.isub, 1)) (hz : z + y = x) (kk : W p l e R s m args below meth c H locs cells slots Q (F0 m (pc + 1) ls (.int (nI z) :: rest))) : W p l e R s m args below meth c H locs cells slots Q (F0 m pc ls (.int (nI y) :: .int (nI x) :: rest)) :=
  lv_isub C0.1 C0.2.1 hdg (by rw [gI_sub (by omega), show x - y = z by omega]; exact kk)
theorem g_imul (C0 : CallFix p m c cc nL s args lw_g own) {x y z : Nat} (hdg : decode cc pc = .ok (.imul, 1)) (hz : x * y = z) (kk : W p l e R s m args below meth c H locs cells slots Q (F0 m (pc + 1) ls (.int (nI z) :: rest))) : W p l e R s m args below meth c H locs cells slots Q (F0 m pc ls (.int (nI y) :: .int (nI x) :: rest)) :=
  lv_imul C0.1 C0.2.1 hdg (by rw [gI_mul, hz]; exact kk)
theorem g_cge (C0 : CallFix p m c cc nL s args lw_g own) {x y tgt : Nat} {off : Int} (hdg : decode cc pc = .ok (.if_icmp .ge off, 3)) (ht : (pc : Int) + off = (tgt : Int)) (hx : x < 2 ^ 31) (hy : y < 2 ^ 31) (kt : y ≤ x → W p l e R s m args below meth c H locs cells slots Q (F0 m tgt ls rest)) (kf : x < y → W p l e R s m args below meth c H locs cells slots Q (F0 m (pc + 3) ls rest)) : W p l e R s m args below meth c H locs cells slots Q (F0 m pc ls (.int (nI y) :: .int (nI x) :: rest)) :=
  lv_icmp_ge C0.1 C0.2.1 hdg ht (fun h => kt ((nI_lei hy hx).mp h)) (fun h => kf (by have := mt (nI_lei hy hx).mpr h; omega))
theorem g_clt (C0 : CallFix p m c cc nL s args lw_g own) {x y tgt : Nat} {off : Int} (hdg : decode cc pc = .ok (.if_icmp .lt off, 3)) (ht : (pc : Int) + off = (tgt : Int)) (hx : x < 2 ^ 31) (hy : y < 2 ^ 31) (kt : x < y → W p l e R s m args below meth c H locs cells slots Q (F0 m tgt ls rest)) (kf : y ≤ x → W p l e R s m args below meth c H locs cells slots Q (F0 m (pc + 3) ls rest)) : W p l e R s m args below meth c H locs cells slots Q (F0 m pc ls (.int (nI y) :: .int (nI x) :: rest)) :=
  lv_icmp_lt C0.1 C0.2.1 hdg ht (fun h => kt ((nI_lti hx hy).mp h)) (fun h => kf (by have := mt (nI_lti hx hy).mpr h; omega))
theorem g_cgt (C0 : CallFix p m c cc nL s args lw_g own) {x y tgt : Nat} {off : Int} (hdg : decode cc pc = .ok (.if_icmp .gt off, 3)) (ht : (pc : Int) + off = (tgt : Int)) (hx : x < 2 ^ 31) (hy : y < 2 ^ 31) (kt : y < x → W p l e R s m args below meth c H locs cells slots Q (F0 m tgt ls rest)) (kf : x ≤ y → W p l e R s m args below meth c H locs cells slots Q (F0 m (pc + 3) ls rest)) : W p l e R s m args below meth c H locs cells slots Q (F0 m pc ls (.int (nI y) :: .int (nI x) :: rest)) :=
  lv_icmp_gt C0.1 C0.2.1 hdg ht (fun h => kt ((nI_lti hy hx).mp h)) (fun h => kf (by have := mt (nI_lti hy hx).mpr h; omega))
theorem g_cle (C0 : CallFix p m c cc nL s args lw_g own) {x y tgt : Nat} {off : Int} (hdg : decode cc pc = .ok (.if_icmp .le off, 3)) (ht : (pc : Int) + off = (tgt : Int)) (hx : x < 2 ^ 31) (hy : y < 2 ^ 31) (kt : x ≤ y → W p l e R s m args below meth c H locs cells slots Q (F0 m tgt ls rest)) (kf : y < x → W p l e R s m args below meth c H locs cells slots Q (F0 m (pc + 3) ls rest)) : W p l e R s m args below meth c H locs cells slots Q (F0 m pc ls (.int (nI y) :: .int (nI x) :: rest)) :=
  lv_icmp_le C0.1 C0.2.1 hdg ht (fun h => kt ((nI_lei hx hy).mp h)) (fun h => kf (by have := mt (nI_lei hx hy).mpr h; omega))
theorem g_ceq (C0 : CallFix p m c cc nL s args lw_g own) {x y tgt : Nat} {off : Int} (hdg : decode cc pc = .ok (.if_icmp .eq off, 3)) (ht : (pc : Int) + off = (tgt : Int)) (hx : x < 2 ^ 31) (hy : y < 2 ^ 31) (kt : x = y → W p l e R s m args below meth c H locs cells slots Q (F0 m tgt ls rest)) (kf : x ≠ y → W p l e R s m args below meth c H locs cells slots Q (F0 m (pc + 3) ls rest)) : W p l e R s m args below meth c H locs cells slots Q (F0 m pc ls (.int (nI y) :: .int (nI x) :: rest)) :=
  lv_icmp_eq C0.1 C0.2.1 hdg ht (fun h => kt ((nI_eqi hx hy).mp h)) (fun h => kf (mt (nI_eqi hx hy).mpr h))
theorem g_cne (C0 : CallFix p m c cc nL s args lw_g own) {x y tgt : Nat} {off : Int} (hdg : decode cc pc = .ok (.if_icmp .ne off, 3)) (ht : (pc : Int) + off = (tgt : Int)) (hx : x < 2 ^ 31) (hy : y < 2 ^ 31) (kt : x ≠ y → W p l e R s m args below meth c H locs cells slots Q (F0 m tgt ls rest)) (kf : x = y → W p l e R s m args below meth c H locs cells slots Q (F0 m (pc + 3) ls rest)) : W p l e R s m args below meth c H locs cells slots Q (F0 m pc ls (.int (nI y) :: .int (nI x) :: rest)) :=
  lv_icmp_ne C0.1 C0.2.1 hdg ht (fun h => kt (mt (nI_eqi hx hy).mpr h)) (fun h => kf ((nI_eqi hx hy).mp h))
/-- ifeq, ifne on a truth value -/
theorem g_zeq (C0 : CallFix p m c cc nL s args lw_g own) {b : Bool} {tgt : Nat} {off : Int} (hdg : decode cc pc = .ok (.ifCond .eq off, 3)) (ht : (pc : Int) + off = (tgt : Int)) (kt : b = false → W p l e R s m args below meth c H locs cells slots Q (F0 m tgt ls rest)) (kf : b = true → W p l e R s m args below meth c H locs cells slots Q (F0 m (pc + 3) ls rest)) : W p l e R s m args below meth c H locs cells slots Q (F0 m pc ls (.int (bI b) :: rest)) :=
  lv_if_eq C0.1 C0.2.1 hdg ht (fun h => kt (by cases b with | false => rfl | true => exact absurd h (by decide))) (fun h => kf (by cases b with | true => rfl | false => exact absurd rfl h))
theorem g_zne (C0 : CallFix p m c cc nL s args lw_g own) {b : Bool} {tgt : Nat} {off : Int} (hdg : decode cc pc = .ok (.ifCond .ne off, 3)) (ht : (pc : Int) + off = (tgt : Int)) (kt : b = true → W p l e R s m args below meth c H locs cells slots Q (F0 m tgt ls rest)) (kf : b = false → W p l e R s m args below meth c H locs cells slots Q (F0 m (pc + 3) ls rest)) : W p l e R s m args below meth c H locs cells slots Q (F0 m pc ls (.int (bI b) :: rest)) :=
  lv_if_ne C0.1 C0.2.1 hdg ht (fun h => kt (by cases b with | true => rfl | false => exact absurd rfl h)) (fun h => kf (by cases b with | false => rfl | true => exact absurd h (by decide)))
end GK
/-! a method's start -/
theorem g_enter {l : Launch} {y : MethodName} {cc : ByteArray} {nL : Nat} {ret : Option FieldType} {fr lo mc ms : Nat} {G : gT} {av : List Value} {P : Heap → Prop} {post : Option Value → Heap → Heap → Prop} {free : Addr → Prop} (own : String)
    (hy : plainName y.cls = true) (ho : y.cls = own) (hl : (lg_sl av).length ≤ nL)
    (body : ∀ (p : Program) (e : Env) (s : State) (m : MethodId) (args : Array Value) (below : List Frame) (meth : Method) (c : Code), CallFix p m c cc nL s args lw_g own → meth.locks = false → meth.sig.returnType = ret → meth.name = y.name → P s.heap → gK G s → ∀ ls : Array Slot, lv_has ls nL (lv_args 0 av) → W p l e ({ frames := fr, cells := mc, slots := ms, locals := lo } : Room) s m args below meth c s.heap [] 0 0 (MQ below (gQ post) args s mc ms free) (F0 m 0 ls [])) : gM l y cc nL ret fr lo mc ms G av P post free := by
  refine Met.ofW (cc := cc) (maxL := nL) (ret := ret) hy rfl ?_
  intro p e s m args below meth c s₁ B hml hv
  obtain ⟨rfl, hP, hK⟩ := hv
  have hts := atoms_spec (ws := wd y cc nL ret) B.pre
  have hown : s.vm.findClass y.cls = some m.cls := findClass_of_methodNamed B.named
  rw [ho] at hown
  rw [lg_entry_eq]
  exact body p e s m _ below meth c ⟨B.exec, B.bytes, hml, hown, fun w h => hts w (List.mem_cons_of_mem _ h)⟩ B.notSynchronized B.returns (name_of_methodNamed B.named B.method).1 hP hK _ (lv_entry av hl)
/-! ends of contracts that write -/
def wv (Post : Heap → Heap → Prop) : Option Value → Heap → Heap → Prop := fun v H H1 => v = none ∧ Post H H1
def wi (v : Value) (Post : Heap → Heap → Prop) : Option Value → Heap → Heap → Prop := fun v' H H1 => v' = some v ∧ Post H H1
/-- nothing outside of lo .. hi - 1 changed -/
def gFr (lo hi : Nat) (H H1 : Heap) : Prop := H1.size = H.size ∧ ∀ q : Nat, (q < lo ∨ hi ≤ q) → H1[q]? = H[q]?
def gRg (lo hi : Nat) : Addr → Prop := fun q => lo ≤ q ∧ q < hi
theorem gFr.rf {lo hi : Nat} {H : Heap} : gFr lo hi H H := ⟨rfl, fun _ _ => rfl⟩
theorem gFr.tr {lo hi : Nat} {H H1 H2 : Heap} (h : gFr lo hi H H1) (h2 : gFr lo hi H1 H2) : gFr lo hi H H2 := ⟨h2.1.trans h.1, fun q hq => (h2.2 q hq).trans (h.2 q hq)⟩
theorem gFr.mono {lo hi lo' hi' : Nat} {H H1 : Heap} (h : gFr lo hi H H1) (h1 : lo' ≤ lo) (h2 : hi ≤ hi') : gFr lo' hi' H H1 := ⟨h.1, fun q hq => h.2 q (by omega)⟩
theorem gFr.ch {lo hi a : Nat} {H H1 : Heap} (h : gCh a H H1) (h1 : lo ≤ a) (h2 : a < hi) : gFr lo hi H H1 := ⟨h.1, fun q hq => h.2 q (by omega)⟩
theorem gE.fr {G : gT} {a lo hi : Nat} {e : va_E} {H H1 : Heap} (h : gE G a e H) (hf : gFr lo hi H H1) (hn : a < lo ∨ hi ≤ a) : gE G a e H1 := va_at.kept h (hf.2 a hn)
theorem gRg.mono {lo hi lo' hi' : Nat} (h1 : lo' ≤ lo) (h2 : hi ≤ hi') : ∀ q, gRg lo hi q → gRg lo' hi' q := fun q h => ⟨Nat.le_trans h1 h.1, Nat.lt_of_lt_of_le h.2 h2⟩
section GK2
variable {p : Program} {l : Launch} {e : Env} {R : Room} {s : State} {m : MethodId} {args : Array Value} {below : List Frame} {meth : Method} {c : Code} {H : Heap} {locs : List Loc} {cells slots : Nat} {Q : State → Prop}
variable {pc : Nat} {ls : Array Slot} {rest : List Value} {G : gT} {free : Addr → Prop}
/-- behind a reader -/
theorem g_r {v : Value} {fr : Addr → Prop} (hfr : fr = noF) (kk : W p l e R s m args below meth c H locs cells slots Q (F0 m pc ls (v :: rest))) : ∀ (v' : Option Value) (H1 : Heap) (L : List Loc), rd v v' H H1 → (∀ q ∈ L, fr q.base) → W p l e R s m args below meth c H1 (locs ++ L) (cells + 0) (slots + 0) Q (F0 m pc ls (v'.toList ++ rest)) := by
  intro v' H1 L h hL
  obtain ⟨rfl, rfl⟩ := h
  subst hfr
  have h0 : L = [] := by
    cases L with
    | nil => rfl
    | cons q L => exact absurd (hL q List.mem_cons_self) id
  rw [h0, List.append_nil]
  exact kk
theorem g_wv {Post : Heap → Heap → Prop} {fr : Addr → Prop} (hL : ∀ q ∈ locs, free q.base) (hs : ∀ q, fr q → free q) (kk : ∀ (H1 : Heap) (locs1 : List Loc), (∀ q ∈ locs1, free q.base) → Post H H1 → W p l e R s m args below meth c H1 locs1 cells slots Q (F0 m pc ls rest)) : ∀ (v' : Option Value) (H1 : Heap) (L : List Loc), wv Post v' H H1 → (∀ q ∈ L, fr q.base) → W p l e R s m args below meth c H1 (locs ++ L) (cells + 0) (slots + 0) Q (F0 m pc ls (v'.toList ++ rest)) := by
  intro v' H1 L h hL1
  obtain ⟨rfl, h⟩ := h
  exact kk H1 _ (t_lL hL fun q hq => hs _ (hL1 q hq)) h
theorem g_wi {v : Value} {Post : Heap → Heap → Prop} {fr : Addr → Prop} (hL : ∀ q ∈ locs, free q.base) (hs : ∀ q, fr q → free q) (kk : ∀ (H1 : Heap) (locs1 : List Loc), (∀ q ∈ locs1, free q.base) → Post H H1 → W p l e R s m args below meth c H1 locs1 cells slots Q (F0 m pc ls (v :: rest))) : ∀ (v' : Option Value) (H1 : Heap) (L : List Loc), wi v Post v' H H1 → (∀ q ∈ L, fr q.base) → W p l e R s m args below meth c H1 (locs ++ L) (cells + 0) (slots + 0) Q (F0 m pc ls (v'.toList ++ rest)) := by
  intro v' H1 L h hL1
  obtain ⟨rfl, h⟩ := h
  exact kk H1 _ (t_lL hL fun q hq => hs _ (hL1 q hq)) h
end GK2
theorem gI_inc (a : Nat) : nI a + Int32.ofInt 1 = nI (a + 1) := by
  rw [show Int32.ofInt 1 = nI 1 by decide +kernel]; exact nI_add a 1
theorem gI_dec {a b : Nat} (h : b + 1 = a) : nI a + Int32.ofInt (-1) = nI b := by
  subst h
  rw [← nI_add, Int32.add_assoc, show nI 1 + Int32.ofInt (-1) = 0 by decide +kernel, Int32.add_zero]
/-- x is the number of a place among the first n -/
def inR (x : Int32) (n : Nat) : Bool := decide (¬ x < 0 ∧ x.toNatClampNeg < n)
theorem inR_neg {x : Int32} {n : Nat} (h : x < 0) : inR x n = false := by simp [inR, h]
theorem inR_nI {i n : Nat} (hi : i < 2 ^ 31) : inR (nI i) n = decide (i < n) := by simp [inR, nI_pos hi, nI_clamp hi]
theorem inR_t {x : Int32} {n : Nat} (h : inR x n = true) : ∃ i, i < n ∧ i < 2 ^ 31 ∧ x = nI i := by
  have h1 : ¬ x < 0 ∧ x.toNatClampNeg < n := by simpa [inR] using h
  exact ⟨_, h1.2, (gI_of h1.1).2, (gI_of h1.1).1⟩
theorem gI_ex {x : Int32} (h : ¬ x < 0) : ∃ i, i < 2 ^ 31 ∧ x = nI i := ⟨_, (gI_of h).2, (gI_of h).1⟩
/-! shifts -/
theorem gI_and31 {y : Nat} (hy : y < 32) : nI y &&& 31 = nI y := by
  rw [show (31 : Int32) = nI 31 from rfl]
  apply Int32.toBitVec_inj.mp
  apply BitVec.eq_of_toNat_eq
  have e1 : (nI y).toBitVec.toNat = y := by show (BitVec.ofNat 32 y).toNat = y; simp; omega
  have e2 : (nI 31).toBitVec.toNat = 31 := by decide
  show ((nI y).toBitVec &&& (nI 31).toBitVec).toNat = _
  rw [BitVec.toNat_and, e1, e2, show (31 : Nat) = 2 ^ 5 - 1 from rfl, Nat.and_two_pow_sub_one_eq_mod]
  exact Nat.mod_eq_of_lt hy
theorem gI_nat {a : Nat} (h : a < 2 ^ 32) : (nI a).toBitVec.toNat = a := by show (BitVec.ofNat 32 a).toNat = a; simp; omega
theorem gI_and (a b : Nat) : nI a &&& nI b = nI (a &&& b) := by
  apply Int32.toBitVec_inj.mp
  show BitVec.ofNat 32 a &&& BitVec.ofNat 32 b = BitVec.ofNat 32 (a &&& b)
  apply BitVec.eq_of_toNat_eq
  simp [BitVec.toNat_and, BitVec.toNat_ofNat, Nat.and_mod_two_pow]
theorem gI_or (a b : Nat) : nI a ||| nI b = nI (a ||| b) := by
  apply Int32.toBitVec_inj.mp
  show BitVec.ofNat 32 a ||| BitVec.ofNat 32 b = BitVec.ofNat 32 (a ||| b)
  apply BitVec.eq_of_toNat_eq
  simp [BitVec.toNat_or, BitVec.toNat_ofNat, Nat.or_mod_two_pow]
theorem gI_shr {a y : Nat} (ha : a < 2 ^ 31) (hy : y < 32) : nI a >>> (nI y &&& 31) = nI (a / 2 ^ y) := by
  rw [gI_and31 hy]
  have h0 : nI a >>> nI y = ⟨⟨(nI a).toBitVec.sshiftRight' ((nI y).toBitVec.smod 32)⟩⟩ := rfl
  rw [h0]
  have hd : a / 2 ^ y < 2 ^ 31 := Nat.lt_of_le_of_lt (Nat.div_le_self _ _) ha
  have e1 : ((nI y).toBitVec.smod 32).toNat = y := by
    have e : (nI y).toBitVec = BitVec.ofNat 32 y := rfl
    rw [e]
    have hm : ∀ z : Nat, z < 32 → ((BitVec.ofNat 32 z).smod 32).toNat = z := by decide +kernel
    exact hm y hy
  apply Int32.toBitVec_inj.mp
  show (nI a).toBitVec.sshiftRight' ((nI y).toBitVec.smod 32) = (nI (a / 2 ^ y)).toBitVec
  apply BitVec.eq_of_toNat_eq
  rw [BitVec.sshiftRight', e1, BitVec.sshiftRight_eq_of_msb_false]
  · rw [BitVec.toNat_ushiftRight, gI_nat (by omega), gI_nat (by omega), Nat.shiftRight_eq_div_pow]
  · rw [BitVec.msb_eq_false_iff_two_mul_lt, gI_nat (by omega)]; omega
theorem gI_shl {a y : Nat} (hy : y < 32) : nI a <<< (nI y &&& 31) = nI (a * 2 ^ y) := by
  rw [gI_and31 hy]
  have h0 : nI a <<< nI y = ⟨⟨(nI a).toBitVec <<< ((nI y).toBitVec.smod 32)⟩⟩ := rfl
  rw [h0]
  have e1 : ((nI y).toBitVec.smod 32).toNat = y := by
    have e : (nI y).toBitVec = BitVec.ofNat 32 y := rfl
    rw [e]
    have hm : ∀ z : Nat, z < 32 → ((BitVec.ofNat 32 z).smod 32).toNat = z := by decide +kernel
    exact hm y hy
  apply Int32.toBitVec_inj.mp
  show (nI a).toBitVec <<< ((nI y).toBitVec.smod 32) = (nI (a * 2 ^ y)).toBitVec
  apply BitVec.eq_of_toNat_eq
  rw [BitVec.shiftLeft_eq', e1, BitVec.toNat_shiftLeft, Nat.shiftLeft_eq]
  show (BitVec.ofNat 32 a).toNat * 2 ^ y % 2 ^ 32 = (BitVec.ofNat 32 (a * 2 ^ y)).toNat
  simp [BitVec.toNat_ofNat, Nat.mod_mul_mod]
theorem gI_rem {a b : Nat} (ha : a < 2 ^ 31) (hb : b < 2 ^ 31) (h0 : 0 < b) : nI a - nI a / nI b * nI b = nI (a % b) := by
  have e : nI a / nI b = nI (a / b) := by
    rw [← Int32.toInt_inj, Int32.toInt_div, nI_toInt ha, nI_toInt hb, nI_toInt (Nat.lt_of_le_of_lt (Nat.div_le_self _ _) ha)]
    rw [show ((a : Int).tdiv b) = ((a / b : Nat) : Int) from rfl]
    apply Int.bmod_eq_of_le
    · exact Int.le_trans (by decide) (Int.natCast_nonneg _)
    · have := Nat.div_le_self a b; omega
  rw [e, gI_mul, gI_sub (Nat.div_mul_le_self a b)]
  congr 1
  have := Nat.div_add_mod a b
  rw [Nat.mul_comm] at this
  omega
section GK3
variable {p : Program} {l : Launch} {e : Env} {R : Room} {s : State} {m : MethodId} {args : Array Value} {below : List Frame} {meth : Method} {c : Code} {H : Heap} {locs : List Loc} {cells slots : Nat} {Q : State → Prop}
variable {cc : ByteArray} {nL : Nat} {own : String} {pc : Nat} {ls : Array Slot} {rest : List Value} {G : gT} {a : Nat} {free : Addr → Prop}
theorem g_ishr (C0 : CallFix p m c cc nL s args lw_g own) {x y z : Nat} (hdg : decode cc pc = .ok (.ishr, 1)) (hx : x < 2 ^ 31) (hy : y < 32) (hz : x / 2 ^ y = z) (kk : W p l e R s m args below meth c H locs cells slots Q (F0 m (pc + 1) ls (.int (nI z) :: rest))) : W p l e R s m args below meth c H locs cells slots Q (F0 m pc ls (.int (nI y) :: .int (nI x) :: rest)) :=
  lv_ishr C0.1 C0.2.1 hdg (by rw [gI_shr hx hy, hz]; exact kk)
theorem g_ishl (C0 : CallFix p m c cc nL s args lw_g own) {x y z : Nat} (hdg : decode cc pc = .ok (.ishl, 1)) (hy : y < 32) (hz : x * 2 ^ y = z) (kk : W p l e R s m args below meth c H locs cells slots Q (F0 m (pc + 1) ls (.int (nI z) :: rest))) : W p l e R s m args below meth c H locs cells slots Q (F0 m pc ls (.int (nI y) :: .int (nI x) :: rest)) :=
  lv_ishl C0.1 C0.2.1 hdg (by rw [gI_shl hy, hz]; exact kk)
theorem g_iand (C0 : CallFix p m c cc nL s args lw_g own) {x y z : Nat} (hdg : decode cc pc = .ok (.iand, 1)) (hz : x &&& y = z) (kk : W p l e R s m args below meth c H locs cells slots Q (F0 m (pc + 1) ls (.int (nI z) :: rest))) : W p l e R s m args below meth c H locs cells slots Q (F0 m pc ls (.int (nI y) :: .int (nI x) :: rest)) :=
  lv_iand C0.1 C0.2.1 hdg (by rw [gI_and, hz]; exact kk)
theorem g_ior (C0 : CallFix p m c cc nL s args lw_g own) {x y z : Nat} (hdg : decode cc pc = .ok (.ior, 1)) (hz : x ||| y = z) (kk : W p l e R s m args below meth c H locs cells slots Q (F0 m (pc + 1) ls (.int (nI z) :: rest))) : W p l e R s m args below meth c H locs cells slots Q (F0 m pc ls (.int (nI y) :: .int (nI x) :: rest)) :=
  lv_ior C0.1 C0.2.1 hdg (by rw [gI_or, hz]; exact kk)
theorem g_irem (C0 : CallFix p m c cc nL s args lw_g own) {x y z : Nat} (hdg : decode cc pc = .ok (.irem, 1)) (hx : x < 2 ^ 31) (hy : y < 2 ^ 31) (h0 : 0 < y) (hz : x % y = z) (kk : W p l e R s m args below meth c H locs cells slots Q (F0 m (pc + 1) ls (.int (nI z) :: rest))) : W p l e R s m args below meth c H locs cells slots Q (F0 m pc ls (.int (nI y) :: .int (nI x) :: rest)) :=
  lv_irem C0.1 C0.2.1 hdg (nI_ne0 h0 hy) (by rw [gI_rem hx hy h0, hz]; exact kk)
theorem g_idiv (C0 : CallFix p m c cc nL s args lw_g own) {x y z : Nat} (hdg : decode cc pc = .ok (.idiv, 1)) (hx : x < 2 ^ 31) (hy : y < 2 ^ 31) (h0 : 0 < y) (hz : x / y = z) (kk : W p l e R s m args below meth c H locs cells slots Q (F0 m (pc + 1) ls (.int (nI z) :: rest))) : W p l e R s m args below meth c H locs cells slots Q (F0 m pc ls (.int (nI y) :: .int (nI x) :: rest)) := by
  refine lv_idiv C0.1 C0.2.1 hdg (nI_ne0 h0 hy) ?_
  have e : nI x / nI y = nI z := by
    rw [← hz, ← Int32.toInt_inj, Int32.toInt_div, nI_toInt hx, nI_toInt hy, nI_toInt (Nat.lt_of_le_of_lt (Nat.div_le_self _ _) hx)]
    rw [show ((x : Int).tdiv y) = ((x / y : Nat) : Int) from rfl]
    apply Int.bmod_eq_of_le
    · exact Int.le_trans (by decide) (Int.natCast_nonneg _)
    · have := Nat.div_le_self x y; omega
  rw [e]; exact kk
end GK3
