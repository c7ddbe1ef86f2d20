/-! one number of the script, or one made of its place; the law's start and end -/
theorem and_pos (x : Int32) : ∃ r, r < 2 ^ 31 ∧ x &&& 2147483647 = nI r := ⟨x.toBitVec.toNat % 2 ^ 31, Nat.mod_lt _ (by decide), by
  apply Int32.toBitVec_inj.mp
  apply BitVec.eq_of_toNat_eq
  rw [gI_nat (by omega), Int32.toBitVec_and, BitVec.toNat_and]
  exact Nat.and_two_pow_sub_one_eq_mod _ 31⟩
def cPre (G : gT) (b L : Nat) (xs : Nat → Int32) (av : List Value) : Array Value → State → Prop := va_Pc av (fun U => va_X b L xs U U.heap ∧ gK G U)
def rdN : Option Value → Heap → Heap → Prop := fun v' H H1 => (∃ r, r < 2 ^ 31 ∧ v' = some (.int (nI r))) ∧ H1 = H
theorem cPre_blind {G : gT} {b L : Nat} {xs : Nat → Int32} {av : List Value} : FrameBlind (cPre G b L xs av) := by
  intro a U g mk h
  obtain ⟨h1, h2, h3⟩ := h
  exact ⟨h1, va_X.moved (u := U) (U := U.calling g mk a) (Vm.Alike.refl U.vm) h2, gK.same (s := U) (U := U.calling g mk a) rfl h3⟩
set_option maxHeartbeats 4000000 in
set_option maxRecDepth 100000 in
theorem k_La_cell (l : Launch) (G : gT) (b L k : Nat) (xs : Nat → Int32) (hk : k < 44) (hL : L ≤ 260) : Met l y_La_cell (wd y_La_cell c_La_cell 2 (some .int)) ({ frames := 0, cells := 0, slots := 0, locals := 0 } : Room) (cPre G b L xs [.ref b, .int (nI k)]) (gQ rdN) 0 0 noF := by
  refine Met.ofW (cc := c_La_cell) (maxL := 2) (ret := some .int) (by decide +kernel) rfl ?_
  intro p e s m args below meth c s₁ B hml hv
  obtain ⟨rfl, hX, hK⟩ := hv
  have hts := atoms_spec (ws := wd y_La_cell c_La_cell 2 (some .int)) B.pre
  have hown : s.vm.findClass "GaleNamesLaw" = some m.cls := findClass_of_methodNamed B.named
  rw [lg_entry_eq]
  have hlk := B.notSynchronized
  have hr := B.returns
  have C0 : CallFix p m c c_La_cell 2 s _ lw_g "GaleNamesLaw" := ⟨B.exec, B.bytes, hml, hown, fun w h => hts w (List.mem_cons_of_mem _ h)⟩
  have hx := C0.1
  have hb := C0.2.1
  have hl := lv_entry ([.ref b, .int (nI k)]) (n := 2) (Nat.le_of_ble_eq_true rfl)
  generalize (lg_sl ([.ref b, .int (nI k)]) ++ List.replicate (2 - (lg_sl ([.ref b, .int (nI k)])).length) Slot.unset).toArray = ls at hl ⊢
  have hl : lv_has ls 2 [(0, .ref b), (1, .int (nI k))] := hl
  have hbl : b < s.heap.size := by
    obtain ⟨scr, h1, -⟩ := hX
    exact (Array.getElem?_eq_some_iff.mp h1).1
  have hS : va_S (fun _ => False) s.heap s.heap [] := va_S.rf
  have k20 : ∀ (v : Int32) (ls : Array Slot), W p l e ({ frames := 0, cells := 0, slots := 0, locals := 0 } : Room) s m #[.ref b, .int (nI k)] below meth c s.heap [] 0 0 (MQ below (gQ rdN) #[.ref b, .int (nI k)] s 0 0 noF) (F0 m 20 ls [.int v]) := by
    intro v ls
    refine lv_ldc hx hb hown (C0.2.2.2.2 _ kc_La_8) d_La_cell_20 ?_
    refine lv_iand hx hb d_La_cell_22 ?_
    obtain ⟨r, hr1, hr2⟩ := and_pos v
    rw [hr2]
    exact g_iret C0 hlk hr d_La_cell_23 (fun q h => absurd h List.not_mem_nil) ⟨⟨r, hr1, rfl⟩, rfl⟩
  refine lv_iload_n hx hb d_La_cell_0 rfl (lv_at hl 1 rfl) ?_
  refine lv_aload_n hx hb d_La_cell_1 rfl (lv_at hl 0 rfl) ?_
  refine va_slen hx hb hX hbl (fun h => h) hS d_La_cell_2 ?_
  refine lv_icmp_ge (tgt := 12) hx hb d_La_cell_3 (by decide) (fun _ => ?_) (fun hc => ?_)
  · refine lv_ldc hx hb hown (C0.2.2.2.2 _ kc_La_7) d_La_cell_12 ?_
    refine lv_iload_n hx hb d_La_cell_14 rfl (lv_at hl 1 rfl) ?_
    refine lv_imul hx hb d_La_cell_15 ?_
    refine lv_sipush (v := nI 8612) hx hb d_La_cell_16 (by decide +kernel) ?_
    refine lv_iadd hx hb d_La_cell_19 ?_
    exact k20 _ ls
  · have hkL : k < L := by
      rcases Nat.lt_or_ge k L with q | q
      · exact q
      · exact absurd ((nI_lei (by omega) (by omega)).mpr q) hc
    refine lv_aload_n hx hb d_La_cell_6 rfl (lv_at hl 0 rfl) ?_
    refine lv_iload_n hx hb d_La_cell_7 rfl (lv_at hl 1 rfl) ?_
    refine va_sld hx hb hX hbl (fun h => h) hS (gIn hkL (by omega)) d_La_cell_8 ?_
    refine lv_goto (tgt := 20) hx hb d_La_cell_9 (by decide) ?_
    exact k20 _ ls
section
variable {p : Program} {l : Launch} {e : Env} {R : Room} {s : State} {m : MethodId} {args : Array Value} {below : List Frame} {meth : Method} {c : Code} {H : Heap} {locs : List Loc} {cells slots : Nat} {Q : State → Prop}
variable {cc : ByteArray} {nL : Nat} {own : String} {pc : Nat} {ls : Array Slot} {rest : List Value} {G : gT} {free : Addr → Prop}
/-- the call of it -/
theorem g_Sc (C0 : CallFix p m c cc nL s args lw_g own) {index b L k : Nat} {xs : Nat → Int32} (hk : k < 44) (hL2 : L ≤ 260) (hl : Cond.methodLink own index y_La_cell ∈ lw_g) (hR : 0 + 1 ≤ R.frames ∧ 8 + (2 + 11) + 0 ≤ R.locals) (hK : gK G s) (hX : va_X b L xs s H) (hsz : ls.size = nL) (hrm : (rest.map fun v => v.category).sum ≤ 8) (hdg : decode cc pc = .ok (.invokestatic index, 3)) (hf : cells + 0 ≤ R.cells ∧ slots + 0 ≤ R.slots)
    (kk : ∀ r, r < 2 ^ 31 → W p l e R s m args below meth c H locs cells slots Q (F0 m (pc + 3) ls (.int (nI r) :: rest))) : W p l e R s m args below meth c H locs cells slots Q (F0 m pc ls (.int (nI k) :: .ref b :: rest)) := by
  refine g_after (post := rdN) (va_runS (As := [.ref b, .int (nI k)]) C0 (k_La_cell l G b L k xs hk hL2) ⟨g_callB C0.2.2.2.2 co_La_cell in_La hl gc_La_cell rfl rfl hR, C0.2.2.2.2 _ sm_La_cell⟩ ⟨cPre_blind, fun U hU hW => ⟨rfl, va_X.moved hW.alike (by rw [hU]; exact hX), gK.warm hW hK⟩⟩ rfl rfl hsz rfl (lv_room hrm) hdg hf) ?_
  intro v H1 L1 h hL1
  obtain ⟨⟨r, hr1, rfl⟩, rfl⟩ := h
  have h0 : L1 = [] := by
    cases L1 with
    | nil => rfl
    | cons q qs => exact absurd (hL1 q List.mem_cons_self) (fun z => z)
  rw [h0, List.append_nil]
  exact kk r hr1
end
