/-! what each call makes of the reference -/
abbrev MS : Type := (Nat → Nat) × (Nat → Nat) × (Nat → Nat) × (Nat → Nat) × (Nat → Nat) × (Nat → Nat) × (Nat → Nat) × Nat × Nat × Nat × Nat
def MAtX (G : gT) (o : Nat) (M : MS) (H : Heap) : Prop := MAt G o M.1 M.2.1 M.2.2.1 M.2.2.2.1 M.2.2.2.2.1 M.2.2.2.2.2.1 M.2.2.2.2.2.2.1 M.2.2.2.2.2.2.2.1 M.2.2.2.2.2.2.2.2.1 M.2.2.2.2.2.2.2.2.2.1 M.2.2.2.2.2.2.2.2.2.2 H
section
variable (S sp bf sv iz rr pd : Nat → Nat) (ln sts td ac : Nat)
def mSt : MS := (S, sp, bf, sv, iz, rr, pd, ln, sts, td, ac)
def mRec (S' : Nat → Nat) (x : Int32) : Int32 × MS := (x, (S', ovr S sp 541, rcB (ovr S sp 541) bf sts, sv, iz, rr, pd, ln, rcN sts, td, ac))
def mxWipe : Int32 × MS := (nI ln, (S, sp, bf, sv, iz, rr, pd, 0, sts, td, ac))
def mxUndo : Int32 × MS := if sts = 0 then (-5, mSt S sp bf sv iz rr pd ln sts td ac) else (nI (sts - 1), (ovr (fun x => bf (541 * (sts - 1) + x)) S 541, sp, bf, sv, iz, rr, pd, ln, sts - 1, td, ac))
def mxSave (x : Int32) : Int32 × MS := if inR x 2 then (nI (S 4), (S, sp, bf, ovo S sv (541 * x.toNatClampNeg) 541, va_up iz x.toNatClampNeg 1, rr, pd, ln, sts, td, ac)) else (-2, mSt S sp bf sv iz rr pd ln sts td ac)
def mxRest (x : Int32) : Int32 × MS := if inR x 2 then (if iz x.toNatClampNeg = 0 then (-5, mSt S sp bf sv iz rr pd ln sts td ac) else mRec S sp bf sv iz rr pd ln sts td ac (ovr (fun y => sv (541 * x.toNatClampNeg + y)) S 541) (nI (ovr (fun y => sv (541 * x.toNatClampNeg + y)) S 541 4))) else (-2, mSt S sp bf sv iz rr pd ln sts td ac)
def mxStrike (c k p : Int32) : Int32 × MS := if inL c k && inR p (S (409 + 27 * c.toNatClampNeg + 9 * k.toNatClampNeg)) then mRec S sp bf sv iz rr pd ln sts td ac (tkF S (409 + 27 * c.toNatClampNeg + 9 * k.toNatClampNeg) p.toNatClampNeg) (nI (S (409 + 27 * c.toNatClampNeg + 9 * k.toNatClampNeg + 1 + p.toNatClampNeg))) else (-1, mSt S sp bf sv iz rr pd ln sts td ac)
def mxSet (x v : Int32) : Int32 × MS := if inR x 3 && inD v (nI 1) (if x = nI 2 then nI 6 else nI 99) then mRec S sp bf sv iz rr pd ln sts td ac (va_up S x.toNatClampNeg v.toNatClampNeg) (nI (S x.toNatClampNeg)) else (-2, mSt S sp bf sv iz rr pd ln sts td ac)
end
def mxFault (S sp bf sv iz rr pd : Nat → Nat) (ln sts _td _ac : Nat) : Int32 × MS := (if mFo (mFq pd ln rr) < 0 then -6 else mFo (mFq pd ln rr), (S, sp, bf, sv, iz, (mFq pd ln rr).2.2.1, pd, ln, sts, (mFq pd ln rr).2.1, (mFq pd ln rr).1))
theorem inD_e2 {x : Int32} {h : Nat} (hh : h < 2 ^ 31) (q : inD x (nI 1) (nI h) = true) : ∃ r, 1 ≤ r ∧ r ≤ h ∧ x = nI r := by
  unfold inD at q
  have q := of_decide_eq_true q
  exact inD_ex (by rw [Int32.lt_iff_toInt_lt]; have := Int32.le_iff_toInt_le.mp q.1; omega) q.2 (by decide) hh

set_option maxHeartbeats 4000000 in
set_option maxRecDepth 100000 in
theorem k_Mo_wipe (l : Launch) (G : gT) (o : Nat) (S sp bf sv iz rr pd : Nat → Nat) (ln sts td ac : Nat)  : gM l y_Mo_wipe c_Mo_wipe 2 (some .int) 0 0 0 0 G [.ref o] (fun H => MAt G o S sp bf sv iz rr pd ln sts td ac H) (wi (.int (mxWipe S sp bf sv iz rr pd ln sts td ac).1) (fun H H1 => MAtX G o (mxWipe S sp bf sv iz rr pd ln sts td ac).2 H1 ∧ gFr o (o + 8) H H1)) (gRg o (o + 8)) := by
  refine g_enter "GaleNamesModel" (by decide +kernel) rfl (Nat.le_of_ble_eq_true rfl) ?_
  intro p e s m args below meth c C0 hlk hr hnm hP hK ls hl
  have hx := C0.1
  have hb := C0.2.1
  have hl : lv_has ls 2 [(0, .ref o)] := hl
  refine lv_aload_n hx hb d_Mo_wipe_0 rfl (lv_at hl 0 rfl) ?_
  refine g_get C0 hK il_Mo hP.1 rfl 7 (by decide) fl_Mo_44 rfl d_Mo_wipe_1 ?_
  refine lv_istore_n (lv' := [(1, .int (nI ln)), (0, .ref o)]) hx hb d_Mo_wipe_4 rfl hl (by decide) rfl (fun ls hl => ?_)
  refine lv_aload_n hx hb d_Mo_wipe_5 rfl (lv_at hl 1 rfl) ?_
  refine lv_iconst (v := nI 0) hx hb d_Mo_wipe_6 (by decide +kernel) ?_
  refine g_put (free := gRg o (o + 8)) C0 hK il_Mo tk_Mo nm_Mo hP.1 rfl 7 (by decide) fl_Mo_44 rfl rfl rfl (Nat.le_of_ble_eq_true rfl) d_Mo_wipe_7 (t_nil (free := gRg o (o + 8))) (gRg.mk (by omega) (by omega)) (fun H_1 locs hL hA_2 hc_3 => ?_)
  have hA_2 : gE G o (eO 6 [.ref (o + 1), .ref (o + 2), .ref (o + 3), .ref (o + 4), .ref (o + 5), .ref (o + 6), .ref (o + 7), .int (nI 0), .int (nI sts), .int (nI td), .int (nI ac)]) H_1 := hA_2
  refine lv_iload_n hx hb d_Mo_wipe_10 rfl (lv_at hl 0 rfl) ?_
  refine g_iret C0 hlk hr d_Mo_wipe_11 hL ?_
  exact ⟨rdI (by rw [mxWipe] <;> rfl), (by rw [mxWipe]; exact ⟨hA_2, (hP.2.1.ch hc_3 (by omega)), (hP.2.2.1.ch hc_3 (by omega)), (hP.2.2.2.1.ch hc_3 (by omega)), (hP.2.2.2.2.1.ch hc_3 (by omega)), (hP.2.2.2.2.2.1.ch hc_3 (by omega)), (hP.2.2.2.2.2.2.1.ch hc_3 (by omega)), (hP.2.2.2.2.2.2.2.ch hc_3 (by omega))⟩), (gFr.rf.tr (gFr.ch hc_3 (by omega) (by omega)))⟩

set_option maxHeartbeats 4000000 in
set_option maxRecDepth 100000 in
theorem k_Mo_fault (l : Launch) (G : gT) (o : Nat) (S sp bf sv iz rr pd : Nat → Nat) (ln sts td ac : Nat) (hln : ln ≤ 80) (hpd : ∀ k, k < 80 → pd k < 2 ^ 16)  : gM l y_Mo_fault c_Mo_fault 2 (some .int) 3 63 0 0 G [.ref o] (fun H => MAt G o S sp bf sv iz rr pd ln sts td ac H) (wi (.int (mxFault S sp bf sv iz rr pd ln sts td ac).1) (fun H H1 => MAtX G o (mxFault S sp bf sv iz rr pd ln sts td ac).2 H1 ∧ gFr o (o + 8) H H1)) (gRg o (o + 8)) := by
  refine g_enter "GaleNamesModel" (by decide +kernel) rfl (Nat.le_of_ble_eq_true rfl) ?_
  intro p e s m args below meth c C0 hlk hr hnm hP hK ls hl
  have hx := C0.1
  have hb := C0.2.1
  have hl : lv_has ls 2 [(0, .ref o)] := hl
  refine lv_aload_n hx hb d_Mo_fault_0 rfl (lv_at hl 0 rfl) ?_
  refine g_V C0 (k_Mo_faultOf l G o S sp bf sv iz rr pd ln sts td ac (by omega) hpd) co_Mo_faultOf im_Mo_faultOf se_Mo_faultOf in_Mo gc_Mo_faultOf ml_Mo_109 ⟨Nat.le_of_ble_eq_true rfl, Nat.le_of_ble_eq_true rfl⟩ hK hP.1 rfl ⟨hP.1, hP.2.1, hP.2.2.1, hP.2.2.2.1, hP.2.2.2.2.1, hP.2.2.2.2.2.1, hP.2.2.2.2.2.2.1, hP.2.2.2.2.2.2.2⟩ rfl hl.1 rfl (Nat.le_of_ble_eq_true rfl) d_Mo_fault_1 ⟨Nat.le_of_ble_eq_true rfl, Nat.le_of_ble_eq_true rfl⟩ (g_wi (free := gRg o (o + 8)) (t_nil (free := gRg o (o + 8))) (fun _ h => h) (fun H_1 locs hL ⟨hR_2, hf_3⟩ => ?_))
  refine lv_istore_n (lv' := [(1, .int (mFo (mFq pd ln rr))), (0, .ref o)]) hx hb d_Mo_fault_4 rfl hl (by decide) rfl (fun ls hl => ?_)
  refine lv_iload_n hx hb d_Mo_fault_5 rfl (lv_at hl 0 rfl) ?_
  refine lv_if_ge (tgt := 14) hx hb d_Mo_fault_6 (by decide) (fun c_6 => ?_) (fun c_6 => ?_)
  · skip
    refine lv_iload_n hx hb d_Mo_fault_14 rfl (lv_at hl 0 rfl) ?_
    refine g_iret C0 hlk hr d_Mo_fault_15 hL ?_
    exact ⟨rdI (by rw [mxFault]; show (if _ then _ else _) = _; first | rw [if_pos (Int32.not_le.mp c_6)] | rw [if_neg (Int32.not_lt.mpr c_6)]), (by rw [mxFault]; exact ⟨hR_2.1, hR_2.2.1, hR_2.2.2.1, hR_2.2.2.2.1, hR_2.2.2.2.2.1, hR_2.2.2.2.2.2.1, hR_2.2.2.2.2.2.2.1, hR_2.2.2.2.2.2.2.2⟩), (gFr.rf.tr hf_3)⟩
  · skip
    refine lv_bipush (v := -6) hx hb d_Mo_fault_9 (by decide +kernel) ?_
    refine lv_goto (tgt := 15) hx hb d_Mo_fault_11 (by decide) ?_
    refine g_iret C0 hlk hr d_Mo_fault_15 hL ?_
    exact ⟨rdI (by rw [mxFault]; show (if _ then _ else _) = _; first | rw [if_pos (Int32.not_le.mp c_6)] | rw [if_neg (Int32.not_lt.mpr c_6)]), (by rw [mxFault]; exact ⟨hR_2.1, hR_2.2.1, hR_2.2.2.1, hR_2.2.2.2.1, hR_2.2.2.2.2.1, hR_2.2.2.2.2.2.1, hR_2.2.2.2.2.2.2.1, hR_2.2.2.2.2.2.2.2⟩), (gFr.rf.tr hf_3)⟩

set_option maxHeartbeats 4000000 in
set_option maxRecDepth 100000 in
theorem k_Mo_undo (l : Launch) (G : gT) (o : Nat) (S sp bf sv iz rr pd : Nat → Nat) (ln sts td ac : Nat) (hs6 : sts ≤ 6)  : gM l y_Mo_undo c_Mo_undo 2 (some .int) 0 0 0 0 G [.ref o] (fun H => MAt G o S sp bf sv iz rr pd ln sts td ac H) (wi (.int (mxUndo S sp bf sv iz rr pd ln sts td ac).1) (fun H H1 => MAtX G o (mxUndo S sp bf sv iz rr pd ln sts td ac).2 H1 ∧ gFr o (o + 8) H H1)) (gRg o (o + 8)) := by
  refine g_enter "GaleNamesModel" (by decide +kernel) rfl (Nat.le_of_ble_eq_true rfl) ?_
  intro p e s m args below meth c C0 hlk hr hnm hP hK ls hl
  have hx := C0.1
  have hb := C0.2.1
  have hl : lv_has ls 2 [(0, .ref o)] := hl
  refine lv_aload_n hx hb d_Mo_undo_0 rfl (lv_at hl 0 rfl) ?_
  refine g_get C0 hK il_Mo hP.1 rfl 8 (by decide) fl_Mo_37 rfl d_Mo_undo_1 ?_
  refine lv_if_ne (tgt := 10) hx hb d_Mo_undo_4 (by decide) (fun c_4 => ?_) (fun c_4 => ?_)
  · skip
    have c_4 : ¬ sts = 0 := fun h => c_4 (by rw [h]; rfl)
    refine lv_aload_n hx hb d_Mo_undo_10 rfl (lv_at hl 0 rfl) ?_
    refine lv_dup hx hb d_Mo_undo_11 rfl ?_
    refine g_get C0 hK il_Mo hP.1 rfl 8 (by decide) fl_Mo_37 rfl d_Mo_undo_12 ?_
    refine lv_iconst (v := nI 1) hx hb d_Mo_undo_15 (by decide +kernel) ?_
    refine g_isub C0 (z := sts - 1) d_Mo_undo_16 (by omega) ?_
    refine g_put (free := gRg o (o + 8)) C0 hK il_Mo tk_Mo nm_Mo hP.1 rfl 8 (by decide) fl_Mo_37 rfl rfl rfl (Nat.le_of_ble_eq_true rfl) d_Mo_undo_17 (t_nil (free := gRg o (o + 8))) (gRg.mk (by omega) (by omega)) (fun H_1 locs hL hA_2 hc_3 => ?_)
    have hA_2 : gE G o (eO 6 [.ref (o + 1), .ref (o + 2), .ref (o + 3), .ref (o + 4), .ref (o + 5), .ref (o + 6), .ref (o + 7), .int (nI ln), .int (nI (sts - 1)), .int (nI td), .int (nI ac)]) H_1 := hA_2
    refine lv_iconst (v := nI 0) hx hb d_Mo_undo_20 (by decide +kernel) ?_
    refine lv_istore_n (lv' := [(1, .int (nI 0)), (0, .ref o)]) hx hb d_Mo_undo_21 rfl hl (by decide) rfl (fun ls hl => ?_)
    have lp22 : ∀ (fu : Nat) (i : Nat) (H : Heap) (locs : List Loc), (541 - i) < fu → i ≤ 541 → (∀ qq ∈ locs, (gRg o (o + 8)) qq.base) → MAt G o (ovr (fun x => bf (541 * (sts - 1) + x)) S i) sp bf sv iz rr pd ln (sts - 1) td ac H → gFr o (o + 8) s.heap H → ∀ ls : Array Slot, lv_has ls 2 [(1, .int (nI i)), (0, .ref o)] → W p l e ({ frames := 0, cells := 0, slots := 0, locals := 0 } : Room) s m args below meth c H locs 0 0 (MQ below (gQ (wi (.int (mxUndo S sp bf sv iz rr pd ln sts td ac).1) (fun H H1 => MAtX G o (mxUndo S sp bf sv iz rr pd ln sts td ac).2 H1 ∧ gFr o (o + 8) H H1))) args s 0 0 (gRg o (o + 8))) (F0 m 22 ls []) := by
      intro fu
      induction fu with
      | zero => intro i H locs hfu; exact absurd hfu (Nat.not_lt_zero _)
      | succ fu ih22 =>
        intro i H locs hfu hi hL hP hF ls hl
        refine lv_iload_n hx hb d_Mo_undo_22 rfl (lv_at hl 0 rfl) ?_
        refine lv_sipush (v := nI 541) hx hb d_Mo_undo_23 (by decide +kernel) ?_
        refine g_cge (tgt := 56) C0 d_Mo_undo_26 (by decide) (by first | omega | exact hM.b (by omega) | exact hR.p (by omega)) (by first | omega | exact hM.b (by omega) | exact hR.p (by omega)) (fun c_26 => ?_) (fun c_26 => ?_)
        · skip
          have ei : i = 541 := by omega
          subst ei
          refine lv_aload_n hx hb d_Mo_undo_56 rfl (lv_at hl 1 rfl) ?_
          refine g_get C0 hK il_Mo hP.1 rfl 8 (by decide) fl_Mo_37 rfl d_Mo_undo_57 ?_
          refine g_iret C0 hlk hr d_Mo_undo_60 hL ?_
          exact ⟨rdI (by rw [mxUndo, if_neg c_4] <;> rfl), (by rw [mxUndo, if_neg c_4]; exact ⟨hP.1, hP.2.1, hP.2.2.1, hP.2.2.2.1, hP.2.2.2.2.1, hP.2.2.2.2.2.1, hP.2.2.2.2.2.2.1, hP.2.2.2.2.2.2.2⟩), hF⟩
        · skip
          refine lv_aload_n hx hb d_Mo_undo_29 rfl (lv_at hl 1 rfl) ?_
          refine g_get C0 hK il_Mo hP.1 rfl 0 (by decide) fl_Mo_7 rfl d_Mo_undo_30 ?_
          refine lv_iload_n hx hb d_Mo_undo_33 rfl (lv_at hl 0 rfl) ?_
          refine lv_aload_n hx hb d_Mo_undo_34 rfl (lv_at hl 1 rfl) ?_
          refine g_get C0 hK il_Mo hP.1 rfl 2 (by decide) fl_Mo_16 rfl d_Mo_undo_35 ?_
          refine lv_sipush (v := nI 541) hx hb d_Mo_undo_38 (by decide +kernel) ?_
          refine lv_aload_n hx hb d_Mo_undo_41 rfl (lv_at hl 1 rfl) ?_
          refine g_get C0 hK il_Mo hP.1 rfl 8 (by decide) fl_Mo_37 rfl d_Mo_undo_42 ?_
          refine g_imul C0 (z := 541 * (sts - 1)) d_Mo_undo_45 rfl ?_
          refine lv_iload_n hx hb d_Mo_undo_46 rfl (lv_at hl 0 rfl) ?_
          refine g_iadd C0 (z := 541 * (sts - 1) + i) d_Mo_undo_47 rfl ?_
          refine g_iald C0 hK hP.2.2.2.1 (by omega) (by omega) d_Mo_undo_48 ?_
          refine g_iast (free := gRg o (o + 8)) C0 hK hP.2.1 (by omega) (by omega) d_Mo_undo_49 hL (gRg.mk (by omega) (by omega)) (fun H_4 locs hL hA_5 hc_6 => ?_)
          refine lv_iinc (v := (nI (i + 1))) (lv' := [(1, .int (nI (i + 1))), (0, .ref o)]) hx hb d_Mo_undo_50 hl (k := 0) rfl (gI_inc _) (by decide) rfl (fun ls hl => ?_)
          refine lv_goto (tgt := 22) hx hb d_Mo_undo_53 (by decide) ?_
          exact ih22 (i + 1) H_4 locs (by omega) (by omega) hL (by rw [← ovr_s]; exact ⟨(hP.1.ch hc_6 (by omega)), hA_5, (hP.2.2.1.ch hc_6 (by omega)), (hP.2.2.2.1.ch hc_6 (by omega)), (hP.2.2.2.2.1.ch hc_6 (by omega)), (hP.2.2.2.2.2.1.ch hc_6 (by omega)), (hP.2.2.2.2.2.2.1.ch hc_6 (by omega)), (hP.2.2.2.2.2.2.2.ch hc_6 (by omega))⟩) (hF.tr (gFr.ch hc_6 (by omega) (by omega))) ls (lv_sub hl [0, 1] rfl)
    exact lp22 ((541 - 0) + 1) 0 H_1 locs (by omega) (by omega) hL (by rw [ovr_0]; exact ⟨hA_2, (hP.2.1.ch hc_3 (by omega)), (hP.2.2.1.ch hc_3 (by omega)), (hP.2.2.2.1.ch hc_3 (by omega)), (hP.2.2.2.2.1.ch hc_3 (by omega)), (hP.2.2.2.2.2.1.ch hc_3 (by omega)), (hP.2.2.2.2.2.2.1.ch hc_3 (by omega)), (hP.2.2.2.2.2.2.2.ch hc_3 (by omega))⟩) (gFr.rf.tr (gFr.ch hc_3 (by omega) (by omega))) ls (lv_sub hl [0, 1] rfl)
  · skip
    have c_4 : sts = 0 := (nI_eqi (b := 0) (by omega) (by omega)).mp c_4
    refine lv_bipush (v := -5) hx hb d_Mo_undo_7 (by decide +kernel) ?_
    refine g_iret C0 hlk hr d_Mo_undo_9 (t_nil (free := gRg o (o + 8))) ?_
    exact ⟨rdI (by rw [mxUndo, if_pos c_4] <;> rfl), (by rw [mxUndo, if_pos c_4]; exact ⟨hP.1, hP.2.1, hP.2.2.1, hP.2.2.2.1, hP.2.2.2.2.1, hP.2.2.2.2.2.1, hP.2.2.2.2.2.2.1, hP.2.2.2.2.2.2.2⟩), gFr.rf⟩

set_option maxHeartbeats 4000000 in
set_option maxRecDepth 100000 in
theorem k_Mo_save (l : Launch) (G : gT) (o : Nat) (S sp bf sv iz rr pd : Nat → Nat) (ln sts td ac : Nat) (a : Int32)  : gM l y_Mo_save c_Mo_save 3 (some .int) 1 22 0 0 G [.ref o, .int a] (fun H => MAt G o S sp bf sv iz rr pd ln sts td ac H) (wi (.int (mxSave S sp bf sv iz rr pd ln sts td ac a).1) (fun H H1 => MAtX G o (mxSave S sp bf sv iz rr pd ln sts td ac a).2 H1 ∧ gFr o (o + 8) H H1)) (gRg o (o + 8)) := by
  refine g_enter "GaleNamesModel" (by decide +kernel) rfl (Nat.le_of_ble_eq_true rfl) ?_
  intro p e s m args below meth c C0 hlk hr hnm hP hK ls hl
  have hx := C0.1
  have hb := C0.2.1
  have hl : lv_has ls 3 [(0, .ref o), (1, .int a)] := hl
  refine lv_iload_n hx hb d_Mo_save_0 rfl (lv_at hl 1 rfl) ?_
  refine lv_iconst (v := nI 0) hx hb d_Mo_save_1 (by decide +kernel) ?_
  refine lv_iconst (v := nI 1) hx hb d_Mo_save_2 (by decide +kernel) ?_
  refine g_S C0 (k_Mo_in l G a (nI 0) (nI 1)) co_Mo_in sm_Mo_in in_Mo gc_Mo_in ml_Mo_33 ⟨Nat.le_of_ble_eq_true rfl, Nat.le_of_ble_eq_true rfl⟩ hK trivial rfl hl.1 rfl (Nat.le_of_ble_eq_true rfl) d_Mo_save_3 ⟨Nat.le_of_ble_eq_true rfl, Nat.le_of_ble_eq_true rfl⟩ (g_r rfl ?_)
  refine g_zne (tgt := 12) C0 d_Mo_save_6 (by decide) (fun c_6 => ?_) (fun c_6 => ?_)
  · skip
    have c_6 : inR a 2 = true := (inD_c (h := 1) (by decide)).symm.trans c_6
    obtain ⟨i, hi, hi31, rfl⟩ := inR_t c_6
    refine lv_iconst (v := nI 0) hx hb d_Mo_save_12 (by decide +kernel) ?_
    refine lv_istore_n (lv' := [(2, .int (nI 0)), (0, .ref o), (1, .int (nI i))]) hx hb d_Mo_save_13 rfl hl (by decide) rfl (fun ls hl => ?_)
    have lp14 : ∀ (fu : Nat) (n : Nat) (H : Heap) (locs : List Loc), (541 - n) < fu → n ≤ 541 → (∀ qq ∈ locs, (gRg o (o + 8)) qq.base) → MAt G o S sp bf (ovo S sv (541 * i) n) iz rr pd ln sts td ac H → gFr o (o + 8) s.heap H → ∀ ls : Array Slot, lv_has ls 3 [(2, .int (nI n)), (0, .ref o), (1, .int (nI i))] → W p l e ({ frames := 1, cells := 0, slots := 0, locals := 22 } : Room) s m args below meth c H locs 0 0 (MQ below (gQ (wi (.int (mxSave S sp bf sv iz rr pd ln sts td ac (nI i)).1) (fun H H1 => MAtX G o (mxSave S sp bf sv iz rr pd ln sts td ac (nI i)).2 H1 ∧ gFr o (o + 8) H H1))) args s 0 0 (gRg o (o + 8))) (F0 m 14 ls []) := by
      intro fu
      induction fu with
      | zero => intro n H locs hfu; exact absurd hfu (Nat.not_lt_zero _)
      | succ fu ih14 =>
        intro n H locs hfu hn hL hP hF ls hl
        refine lv_iload_n hx hb d_Mo_save_14 rfl (lv_at hl 0 rfl) ?_
        refine lv_sipush (v := nI 541) hx hb d_Mo_save_15 (by decide +kernel) ?_
        refine g_cge (tgt := 45) C0 d_Mo_save_18 (by decide) (by first | omega | exact hM.b (by omega) | exact hR.p (by omega)) (by first | omega | exact hM.b (by omega) | exact hR.p (by omega)) (fun c_18 => ?_) (fun c_18 => ?_)
        · skip
          have en : n = 541 := by omega
          subst en
          refine lv_aload_n hx hb d_Mo_save_45 rfl (lv_at hl 1 rfl) ?_
          refine g_get C0 hK il_Mo hP.1 rfl 4 (by decide) fl_Mo_22 rfl d_Mo_save_46 ?_
          refine lv_iload_n hx hb d_Mo_save_49 rfl (lv_at hl 2 rfl) ?_
          refine lv_iconst (v := nI 1) hx hb d_Mo_save_50 (by decide +kernel) ?_
          refine g_zast1 (free := gRg o (o + 8)) C0 hK hP.2.2.2.2.2.1 (by omega) (by omega) d_Mo_save_51 hL (gRg.mk (by omega) (by omega)) (fun H_1 locs hL hA_2 hc_3 => ?_)
          refine lv_aload_n hx hb d_Mo_save_52 rfl (lv_at hl 1 rfl) ?_
          refine g_get C0 hK il_Mo (hP.1.ch hc_3 (by omega)) rfl 0 (by decide) fl_Mo_7 rfl d_Mo_save_53 ?_
          refine lv_iconst (v := nI 4) hx hb d_Mo_save_56 (by decide +kernel) ?_
          refine g_iald C0 hK (hP.2.1.ch hc_3 (by omega)) (by omega) (by omega) d_Mo_save_57 ?_
          refine g_iret C0 hlk hr d_Mo_save_58 hL ?_
          exact ⟨rdI (by rw [mxSave, c_6, if_pos rfl, nI_clamp hi31] <;> rfl), (by rw [mxSave, c_6, if_pos rfl, nI_clamp hi31]; exact ⟨(hP.1.ch hc_3 (by omega)), (hP.2.1.ch hc_3 (by omega)), (hP.2.2.1.ch hc_3 (by omega)), (hP.2.2.2.1.ch hc_3 (by omega)), (hP.2.2.2.2.1.ch hc_3 (by omega)), hA_2, (hP.2.2.2.2.2.2.1.ch hc_3 (by omega)), (hP.2.2.2.2.2.2.2.ch hc_3 (by omega))⟩), (hF.tr (gFr.ch hc_3 (by omega) (by omega)))⟩
        · skip
          refine lv_aload_n hx hb d_Mo_save_21 rfl (lv_at hl 1 rfl) ?_
          refine g_get C0 hK il_Mo hP.1 rfl 3 (by decide) fl_Mo_19 rfl d_Mo_save_22 ?_
          refine lv_sipush (v := nI 541) hx hb d_Mo_save_25 (by decide +kernel) ?_
          refine lv_iload_n hx hb d_Mo_save_28 rfl (lv_at hl 2 rfl) ?_
          refine g_imul C0 (z := 541 * i) d_Mo_save_29 rfl ?_
          refine lv_iload_n hx hb d_Mo_save_30 rfl (lv_at hl 0 rfl) ?_
          refine g_iadd C0 (z := 541 * i + n) d_Mo_save_31 rfl ?_
          refine lv_aload_n hx hb d_Mo_save_32 rfl (lv_at hl 1 rfl) ?_
          refine g_get C0 hK il_Mo hP.1 rfl 0 (by decide) fl_Mo_7 rfl d_Mo_save_33 ?_
          refine lv_iload_n hx hb d_Mo_save_36 rfl (lv_at hl 0 rfl) ?_
          refine g_iald C0 hK hP.2.1 (by omega) (by omega) d_Mo_save_37 ?_
          refine g_iast (free := gRg o (o + 8)) C0 hK hP.2.2.2.2.1 (by omega) (by omega) d_Mo_save_38 hL (gRg.mk (by omega) (by omega)) (fun H_4 locs hL hA_5 hc_6 => ?_)
          refine lv_iinc (v := (nI (n + 1))) (lv' := [(2, .int (nI (n + 1))), (0, .ref o), (1, .int (nI i))]) hx hb d_Mo_save_39 hl (k := 0) rfl (gI_inc _) (by decide) rfl (fun ls hl => ?_)
          refine lv_goto (tgt := 14) hx hb d_Mo_save_42 (by decide) ?_
          exact ih14 (n + 1) H_4 locs (by omega) (by omega) hL (by rw [← ovo_s]; exact ⟨(hP.1.ch hc_6 (by omega)), (hP.2.1.ch hc_6 (by omega)), (hP.2.2.1.ch hc_6 (by omega)), (hP.2.2.2.1.ch hc_6 (by omega)), hA_5, (hP.2.2.2.2.2.1.ch hc_6 (by omega)), (hP.2.2.2.2.2.2.1.ch hc_6 (by omega)), (hP.2.2.2.2.2.2.2.ch hc_6 (by omega))⟩) (hF.tr (gFr.ch hc_6 (by omega) (by omega))) ls (lv_sub hl [0, 1, 2] rfl)
    exact lp14 ((541 - 0) + 1) 0 s.heap [] (by omega) (by omega) (t_nil (free := gRg o (o + 8))) (by rw [ovo_0]; exact ⟨hP.1, hP.2.1, hP.2.2.1, hP.2.2.2.1, hP.2.2.2.2.1, hP.2.2.2.2.2.1, hP.2.2.2.2.2.2.1, hP.2.2.2.2.2.2.2⟩) gFr.rf ls (lv_sub hl [0, 1, 2] rfl)
  · skip
    have c_6 : inR a 2 = false := (inD_c (h := 1) (by decide)).symm.trans c_6
    refine lv_bipush (v := -2) hx hb d_Mo_save_9 (by decide +kernel) ?_
    refine g_iret C0 hlk hr d_Mo_save_11 (t_nil (free := gRg o (o + 8))) ?_
    exact ⟨rdI (by rw [mxSave, c_6] <;> rfl), (by rw [mxSave, c_6]; exact ⟨hP.1, hP.2.1, hP.2.2.1, hP.2.2.2.1, hP.2.2.2.2.1, hP.2.2.2.2.2.1, hP.2.2.2.2.2.2.1, hP.2.2.2.2.2.2.2⟩), gFr.rf⟩

set_option maxHeartbeats 4000000 in
set_option maxRecDepth 100000 in
theorem k_Mo_restore (l : Launch) (G : gT) (o : Nat) (S sp bf sv iz rr pd : Nat → Nat) (ln sts td ac : Nat) (a : Int32) (hs6 : sts ≤ 6) (hz : ∀ k, k < 2 → iz k < 2)  : gM l y_Mo_restore c_Mo_restore 3 (some .int) 1 22 0 0 G [.ref o, .int a] (fun H => MAt G o S sp bf sv iz rr pd ln sts td ac H) (wi (.int (mxRest S sp bf sv iz rr pd ln sts td ac a).1) (fun H H1 => MAtX G o (mxRest S sp bf sv iz rr pd ln sts td ac a).2 H1 ∧ gFr o (o + 8) H H1)) (gRg o (o + 8)) := by
  refine g_enter "GaleNamesModel" (by decide +kernel) rfl (Nat.le_of_ble_eq_true rfl) ?_
  intro p e s m args below meth c C0 hlk hr hnm hP hK ls hl
  have hx := C0.1
  have hb := C0.2.1
  have hl : lv_has ls 3 [(0, .ref o), (1, .int a)] := hl
  refine lv_iload_n hx hb d_Mo_restore_0 rfl (lv_at hl 1 rfl) ?_
  refine lv_iconst (v := nI 0) hx hb d_Mo_restore_1 (by decide +kernel) ?_
  refine lv_iconst (v := nI 1) hx hb d_Mo_restore_2 (by decide +kernel) ?_
  refine g_S C0 (k_Mo_in l G a (nI 0) (nI 1)) co_Mo_in sm_Mo_in in_Mo gc_Mo_in ml_Mo_33 ⟨Nat.le_of_ble_eq_true rfl, Nat.le_of_ble_eq_true rfl⟩ hK trivial rfl hl.1 rfl (Nat.le_of_ble_eq_true rfl) d_Mo_restore_3 ⟨Nat.le_of_ble_eq_true rfl, Nat.le_of_ble_eq_true rfl⟩ (g_r rfl ?_)
  refine g_zne (tgt := 12) C0 d_Mo_restore_6 (by decide) (fun c_6 => ?_) (fun c_6 => ?_)
  · skip
    have c_6 : inR a 2 = true := (inD_c (h := 1) (by decide)).symm.trans c_6
    obtain ⟨i, hi, hi31, rfl⟩ := inR_t c_6
    refine lv_aload_n hx hb d_Mo_restore_12 rfl (lv_at hl 0 rfl) ?_
    refine g_get C0 hK il_Mo hP.1 rfl 4 (by decide) fl_Mo_22 rfl d_Mo_restore_13 ?_
    refine lv_iload_n hx hb d_Mo_restore_16 rfl (lv_at hl 1 rfl) ?_
    refine g_zald C0 hK hP.2.2.2.2.2.1 (by omega) (by omega) d_Mo_restore_17 ?_
    refine lv_if_ne (tgt := 24) hx hb d_Mo_restore_18 (by decide) (fun c_18 => ?_) (fun c_18 => ?_)
    · skip
      have c_18 : ¬ iz i = 0 := fun h => c_18 (by rw [h]; rfl)
      refine lv_aload_n hx hb d_Mo_restore_24 rfl (lv_at hl 0 rfl) ?_
      refine g_V C0 (k_Mo_hold l G o S sp bf sv iz rr pd ln sts td ac ) co_Mo_hold im_Mo_hold se_Mo_hold in_Mo gc_Mo_hold ml_Mo_85 ⟨Nat.le_of_ble_eq_true rfl, Nat.le_of_ble_eq_true rfl⟩ hK hP.1 rfl ⟨hP.1, hP.2.1, hP.2.2.1, hP.2.2.2.1, hP.2.2.2.2.1, hP.2.2.2.2.2.1, hP.2.2.2.2.2.2.1, hP.2.2.2.2.2.2.2⟩ rfl hl.1 rfl (Nat.le_of_ble_eq_true rfl) d_Mo_restore_25 ⟨Nat.le_of_ble_eq_true rfl, Nat.le_of_ble_eq_true rfl⟩ (g_wv (free := gRg o (o + 8)) (t_nil (free := gRg o (o + 8))) (fun _ h => h) (fun H_1 locs hL ⟨hR_2, hf_3⟩ => ?_))
      refine lv_iconst (v := nI 0) hx hb d_Mo_restore_28 (by decide +kernel) ?_
      refine lv_istore_n (lv' := [(2, .int (nI 0)), (0, .ref o), (1, .int (nI i))]) hx hb d_Mo_restore_29 rfl hl (by decide) rfl (fun ls hl => ?_)
      have lp30 : ∀ (fu : Nat) (n : Nat) (H : Heap) (locs : List Loc), (541 - n) < fu → n ≤ 541 → (∀ qq ∈ locs, (gRg o (o + 8)) qq.base) → MAt G o (ovr (fun y => sv (541 * i + y)) S n) (ovr S sp 541) bf sv iz rr pd ln sts td ac H → gFr o (o + 8) s.heap H → ∀ ls : Array Slot, lv_has ls 3 [(2, .int (nI n)), (0, .ref o), (1, .int (nI i))] → W p l e ({ frames := 1, cells := 0, slots := 0, locals := 22 } : Room) s m args below meth c H locs 0 0 (MQ below (gQ (wi (.int (mxRest S sp bf sv iz rr pd ln sts td ac (nI i)).1) (fun H H1 => MAtX G o (mxRest S sp bf sv iz rr pd ln sts td ac (nI i)).2 H1 ∧ gFr o (o + 8) H H1))) args s 0 0 (gRg o (o + 8))) (F0 m 30 ls []) := by
        intro fu
        induction fu with
        | zero => intro n H locs hfu; exact absurd hfu (Nat.not_lt_zero _)
        | succ fu ih30 =>
          intro n H locs hfu hn hL hP hF ls hl
          refine lv_iload_n hx hb d_Mo_restore_30 rfl (lv_at hl 0 rfl) ?_
          refine lv_sipush (v := nI 541) hx hb d_Mo_restore_31 (by decide +kernel) ?_
          refine g_cge (tgt := 61) C0 d_Mo_restore_34 (by decide) (by first | omega | exact hM.b (by omega) | exact hR.p (by omega)) (by first | omega | exact hM.b (by omega) | exact hR.p (by omega)) (fun c_34 => ?_) (fun c_34 => ?_)
          · skip
            have en : n = 541 := by omega
            subst en
            refine lv_aload_n hx hb d_Mo_restore_61 rfl (lv_at hl 1 rfl) ?_
            refine lv_aload_n hx hb d_Mo_restore_62 rfl (lv_at hl 1 rfl) ?_
            refine g_get C0 hK il_Mo hP.1 rfl 0 (by decide) fl_Mo_7 rfl d_Mo_restore_63 ?_
            refine lv_iconst (v := nI 4) hx hb d_Mo_restore_66 (by decide +kernel) ?_
            refine g_iald C0 hK hP.2.1 (by omega) (by omega) d_Mo_restore_67 ?_
            refine g_V C0 (k_Mo_recorded l G o (ovr (fun y => sv (541 * i + y)) S 541) (ovr S sp 541) bf sv iz rr pd ln sts td ac (nI ((ovr (fun y => sv (541 * i + y)) S 541) 4)) (by omega)) co_Mo_recorded im_Mo_recorded se_Mo_recorded in_Mo gc_Mo_recorded ml_Mo_88 ⟨Nat.le_of_ble_eq_true rfl, Nat.le_of_ble_eq_true rfl⟩ hK hP.1 rfl ⟨hP.1, hP.2.1, hP.2.2.1, hP.2.2.2.1, hP.2.2.2.2.1, hP.2.2.2.2.2.1, hP.2.2.2.2.2.2.1, hP.2.2.2.2.2.2.2⟩ rfl hl.1 rfl (Nat.le_of_ble_eq_true rfl) d_Mo_restore_68 ⟨Nat.le_of_ble_eq_true rfl, Nat.le_of_ble_eq_true rfl⟩ (g_wi (free := gRg o (o + 8)) hL (fun _ h => h) (fun H_4 locs hL ⟨hR_5, hf_6⟩ => ?_))
            refine g_iret C0 hlk hr d_Mo_restore_71 hL ?_
            exact ⟨rdI (by rw [mxRest, c_6, if_pos rfl, nI_clamp hi31, if_neg c_18, mRec] <;> rfl), (by rw [mxRest, c_6, if_pos rfl, nI_clamp hi31, if_neg c_18, mRec]; exact ⟨hR_5.1, hR_5.2.1, hR_5.2.2.1, hR_5.2.2.2.1, hR_5.2.2.2.2.1, hR_5.2.2.2.2.2.1, hR_5.2.2.2.2.2.2.1, hR_5.2.2.2.2.2.2.2⟩), (hF.tr hf_6)⟩
          · skip
            refine lv_aload_n hx hb d_Mo_restore_37 rfl (lv_at hl 1 rfl) ?_
            refine g_get C0 hK il_Mo hP.1 rfl 0 (by decide) fl_Mo_7 rfl d_Mo_restore_38 ?_
            refine lv_iload_n hx hb d_Mo_restore_41 rfl (lv_at hl 0 rfl) ?_
            refine lv_aload_n hx hb d_Mo_restore_42 rfl (lv_at hl 1 rfl) ?_
            refine g_get C0 hK il_Mo hP.1 rfl 3 (by decide) fl_Mo_19 rfl d_Mo_restore_43 ?_
            refine lv_sipush (v := nI 541) hx hb d_Mo_restore_46 (by decide +kernel) ?_
            refine lv_iload_n hx hb d_Mo_restore_49 rfl (lv_at hl 2 rfl) ?_
            refine g_imul C0 (z := 541 * i) d_Mo_restore_50 rfl ?_
            refine lv_iload_n hx hb d_Mo_restore_51 rfl (lv_at hl 0 rfl) ?_
            refine g_iadd C0 (z := 541 * i + n) d_Mo_restore_52 rfl ?_
            refine g_iald C0 hK hP.2.2.2.2.1 (by omega) (by omega) d_Mo_restore_53 ?_
            refine g_iast (free := gRg o (o + 8)) C0 hK hP.2.1 (by omega) (by omega) d_Mo_restore_54 hL (gRg.mk (by omega) (by omega)) (fun H_7 locs hL hA_8 hc_9 => ?_)
            refine lv_iinc (v := (nI (n + 1))) (lv' := [(2, .int (nI (n + 1))), (0, .ref o), (1, .int (nI i))]) hx hb d_Mo_restore_55 hl (k := 0) rfl (gI_inc _) (by decide) rfl (fun ls hl => ?_)
            refine lv_goto (tgt := 30) hx hb d_Mo_restore_58 (by decide) ?_
            exact ih30 (n + 1) H_7 locs (by omega) (by omega) hL (by rw [← ovr_s]; exact ⟨(hP.1.ch hc_9 (by omega)), hA_8, (hP.2.2.1.ch hc_9 (by omega)), (hP.2.2.2.1.ch hc_9 (by omega)), (hP.2.2.2.2.1.ch hc_9 (by omega)), (hP.2.2.2.2.2.1.ch hc_9 (by omega)), (hP.2.2.2.2.2.2.1.ch hc_9 (by omega)), (hP.2.2.2.2.2.2.2.ch hc_9 (by omega))⟩) (hF.tr (gFr.ch hc_9 (by omega) (by omega))) ls (lv_sub hl [0, 1, 2] rfl)
      exact lp30 ((541 - 0) + 1) 0 H_1 locs (by omega) (by omega) hL (by rw [ovr_0]; exact ⟨hR_2.1, hR_2.2.1, hR_2.2.2.1, hR_2.2.2.2.1, hR_2.2.2.2.2.1, hR_2.2.2.2.2.2.1, hR_2.2.2.2.2.2.2.1, hR_2.2.2.2.2.2.2.2⟩) (gFr.rf.tr hf_3) ls (lv_sub hl [0, 1, 2] rfl)
    · skip
      have c_18 : iz i = 0 := (nI_eqi (b := 0) (by have := hz i hi; omega) (by omega)).mp c_18
      refine lv_bipush (v := -5) hx hb d_Mo_restore_21 (by decide +kernel) ?_
      refine g_iret C0 hlk hr d_Mo_restore_23 (t_nil (free := gRg o (o + 8))) ?_
      exact ⟨rdI (by rw [mxRest, c_6, if_pos rfl, nI_clamp hi31, if_pos c_18] <;> rfl), (by rw [mxRest, c_6, if_pos rfl, nI_clamp hi31, if_pos c_18]; exact ⟨hP.1, hP.2.1, hP.2.2.1, hP.2.2.2.1, hP.2.2.2.2.1, hP.2.2.2.2.2.1, hP.2.2.2.2.2.2.1, hP.2.2.2.2.2.2.2⟩), gFr.rf⟩
  · skip
    have c_6 : inR a 2 = false := (inD_c (h := 1) (by decide)).symm.trans c_6
    refine lv_bipush (v := -2) hx hb d_Mo_restore_9 (by decide +kernel) ?_
    refine g_iret C0 hlk hr d_Mo_restore_11 (t_nil (free := gRg o (o + 8))) ?_
    exact ⟨rdI (by rw [mxRest, c_6] <;> rfl), (by rw [mxRest, c_6]; exact ⟨hP.1, hP.2.1, hP.2.2.1, hP.2.2.2.1, hP.2.2.2.2.1, hP.2.2.2.2.2.1, hP.2.2.2.2.2.2.1, hP.2.2.2.2.2.2.2⟩), gFr.rf⟩

set_option maxHeartbeats 4000000 in
set_option maxRecDepth 100000 in
theorem k_Mo_strike (l : Launch) (G : gT) (o : Nat) (S sp bf sv iz rr pd : Nat → Nat) (ln sts td ac : Nat) (a k p2 : Int32) (hs6 : sts ≤ 6) (hM : mOk S) : gM l y_Mo_strike c_Mo_strike 5 (some .int) 2 46 0 0 G [.ref o, .int a, .int k, .int p2] (fun H => MAt G o S sp bf sv iz rr pd ln sts td ac H) (wi (.int (mxStrike S sp bf sv iz rr pd ln sts td ac a k p2).1) (fun H H1 => MAtX G o (mxStrike S sp bf sv iz rr pd ln sts td ac a k p2).2 H1 ∧ gFr o (o + 8) H H1)) (gRg o (o + 8)) := by
  refine g_enter "GaleNamesModel" (by decide +kernel) rfl (Nat.le_of_ble_eq_true rfl) ?_
  intro p e s m args below meth c C0 hlk hr hnm hP hK ls hl
  have hx := C0.1
  have hb := C0.2.1
  have hl : lv_has ls 5 [(0, .ref o), (1, .int a), (2, .int k), (3, .int p2)] := hl
  have hn40 := hM.n
  have hg16 := hM.g
  have hk10 := hM.k
  refine lv_iload_n hx hb d_Mo_strike_0 rfl (lv_at hl 1 rfl) ?_
  refine lv_iload_n hx hb d_Mo_strike_1 rfl (lv_at hl 2 rfl) ?_
  refine g_S C0 (k_Mo_isList l G a k) co_Mo_isList sm_Mo_isList in_Mo gc_Mo_isList ml_Mo_106 ⟨Nat.le_of_ble_eq_true rfl, Nat.le_of_ble_eq_true rfl⟩ hK trivial rfl hl.1 rfl (Nat.le_of_ble_eq_true rfl) d_Mo_strike_2 ⟨Nat.le_of_ble_eq_true rfl, Nat.le_of_ble_eq_true rfl⟩ (g_r rfl ?_)
  refine g_zeq (tgt := 28) C0 d_Mo_strike_5 (by decide) (fun c_5 => ?_) (fun c_5 => ?_)
  · skip
    refine lv_iconst (v := -1) hx hb d_Mo_strike_28 (by decide +kernel) ?_
    refine g_iret C0 hlk hr d_Mo_strike_29 (t_nil (free := gRg o (o + 8))) ?_
    exact ⟨rdI (by rw [mxStrike, c_5] <;> rfl), (by rw [mxStrike, c_5]; exact ⟨hP.1, hP.2.1, hP.2.2.1, hP.2.2.2.1, hP.2.2.2.2.1, hP.2.2.2.2.2.1, hP.2.2.2.2.2.2.1, hP.2.2.2.2.2.2.2⟩), gFr.rf⟩
  · skip
    have h0 := c_5
    unfold inL at h0
    rw [Bool.and_eq_true] at h0
    obtain ⟨i, hi, hi31, rfl⟩ := inR_t h0.1
    obtain ⟨j, hj, hj31, rfl⟩ := inR_t h0.2
    have hl8 := hM.l hi hj
    refine lv_iload_n hx hb d_Mo_strike_8 rfl (lv_at hl 3 rfl) ?_
    refine lv_iconst (v := nI 0) hx hb d_Mo_strike_9 (by decide +kernel) ?_
    refine lv_aload_n hx hb d_Mo_strike_10 rfl (lv_at hl 0 rfl) ?_
    refine g_get C0 hK il_Mo hP.1 rfl 0 (by decide) fl_Mo_7 rfl d_Mo_strike_11 ?_
    refine lv_iload_n hx hb d_Mo_strike_14 rfl (lv_at hl 1 rfl) ?_
    refine lv_iload_n hx hb d_Mo_strike_15 rfl (lv_at hl 2 rfl) ?_
    refine g_S C0 (k_Mo_l l G i j) co_Mo_l sm_Mo_l in_Mo gc_Mo_l ml_Mo_68 ⟨Nat.le_of_ble_eq_true rfl, Nat.le_of_ble_eq_true rfl⟩ hK trivial rfl hl.1 rfl (Nat.le_of_ble_eq_true rfl) d_Mo_strike_16 ⟨Nat.le_of_ble_eq_true rfl, Nat.le_of_ble_eq_true rfl⟩ (g_r rfl ?_)
    refine g_iald C0 hK hP.2.1 (by omega) (by omega) d_Mo_strike_19 ?_
    refine lv_iconst (v := nI 1) hx hb d_Mo_strike_20 (by decide +kernel) ?_
    refine lv_isub hx hb d_Mo_strike_21 ?_
    refine g_S C0 (k_Mo_in l G p2 (nI 0) ((nI (S (409 + 27 * i + 9 * j))) - (nI 1))) co_Mo_in sm_Mo_in in_Mo gc_Mo_in ml_Mo_33 ⟨Nat.le_of_ble_eq_true rfl, Nat.le_of_ble_eq_true rfl⟩ hK trivial rfl hl.1 rfl (Nat.le_of_ble_eq_true rfl) d_Mo_strike_22 ⟨Nat.le_of_ble_eq_true rfl, Nat.le_of_ble_eq_true rfl⟩ (g_r rfl ?_)
    refine g_zne (tgt := 30) C0 d_Mo_strike_25 (by decide) (fun c_25 => ?_) (fun c_25 => ?_)
    · skip
      have c_25 : inR p2 (S (409 + 27 * i + 9 * j)) = true := (inD_R (hM.b (by omega))).symm.trans c_25
      obtain ⟨q, hq, hq31, rfl⟩ := inR_t c_25
      refine lv_aload_n hx hb d_Mo_strike_30 rfl (lv_at hl 0 rfl) ?_
      refine g_V C0 (k_Mo_hold l G o S sp bf sv iz rr pd ln sts td ac ) co_Mo_hold im_Mo_hold se_Mo_hold in_Mo gc_Mo_hold ml_Mo_85 ⟨Nat.le_of_ble_eq_true rfl, Nat.le_of_ble_eq_true rfl⟩ hK hP.1 rfl ⟨hP.1, hP.2.1, hP.2.2.1, hP.2.2.2.1, hP.2.2.2.2.1, hP.2.2.2.2.2.1, hP.2.2.2.2.2.2.1, hP.2.2.2.2.2.2.2⟩ rfl hl.1 rfl (Nat.le_of_ble_eq_true rfl) d_Mo_strike_31 ⟨Nat.le_of_ble_eq_true rfl, Nat.le_of_ble_eq_true rfl⟩ (g_wv (free := gRg o (o + 8)) (t_nil (free := gRg o (o + 8))) (fun _ h => h) (fun H_1 locs hL ⟨hR_2, hf_3⟩ => ?_))
      refine lv_aload_n hx hb d_Mo_strike_34 rfl (lv_at hl 0 rfl) ?_
      refine g_get C0 hK il_Mo hR_2.1 rfl 0 (by decide) fl_Mo_7 rfl d_Mo_strike_35 ?_
      refine lv_iload_n hx hb d_Mo_strike_38 rfl (lv_at hl 1 rfl) ?_
      refine lv_iload_n hx hb d_Mo_strike_39 rfl (lv_at hl 2 rfl) ?_
      refine g_S C0 (k_Mo_l l G i j) co_Mo_l sm_Mo_l in_Mo gc_Mo_l ml_Mo_68 ⟨Nat.le_of_ble_eq_true rfl, Nat.le_of_ble_eq_true rfl⟩ hK trivial rfl hl.1 rfl (Nat.le_of_ble_eq_true rfl) d_Mo_strike_40 ⟨Nat.le_of_ble_eq_true rfl, Nat.le_of_ble_eq_true rfl⟩ (g_r rfl ?_)
      refine lv_iconst (v := nI 1) hx hb d_Mo_strike_43 (by decide +kernel) ?_
      refine g_iadd C0 (z := 409 + 27 * i + 9 * j + 1) d_Mo_strike_44 rfl ?_
      refine lv_iload_n hx hb d_Mo_strike_45 rfl (lv_at hl 3 rfl) ?_
      refine g_iadd C0 (z := 409 + 27 * i + 9 * j + 1 + q) d_Mo_strike_46 rfl ?_
      refine g_iald C0 hK hR_2.2.1 (by omega) (by omega) d_Mo_strike_47 ?_
      refine lv_istore (lv' := [(4, .int (nI (S (409 + 27 * i + 9 * j + 1 + q)))), (0, .ref o), (1, .int (nI i)), (2, .int (nI j)), (3, .int (nI q))]) hx hb d_Mo_strike_48 hl (by decide) rfl (fun ls hl => ?_)
      refine lv_aload_n hx hb d_Mo_strike_50 rfl (lv_at hl 1 rfl) ?_
      refine lv_iload_n hx hb d_Mo_strike_51 rfl (lv_at hl 2 rfl) ?_
      refine lv_iload_n hx hb d_Mo_strike_52 rfl (lv_at hl 3 rfl) ?_
      refine lv_iload_n hx hb d_Mo_strike_53 rfl (lv_at hl 4 rfl) ?_
      refine g_V C0 (k_Mo_takesOff l G o S (ovr S sp 541) bf sv iz rr pd ln sts td ac i j q (by omega) (by omega) (by omega) hM) co_Mo_takesOff im_Mo_takesOff se_Mo_takesOff in_Mo gc_Mo_takesOff ml_Mo_81 ⟨Nat.le_of_ble_eq_true rfl, Nat.le_of_ble_eq_true rfl⟩ hK hR_2.1 rfl ⟨hR_2.1, hR_2.2.1, hR_2.2.2.1, hR_2.2.2.2.1, hR_2.2.2.2.2.1, hR_2.2.2.2.2.2.1, hR_2.2.2.2.2.2.2.1, hR_2.2.2.2.2.2.2.2⟩ rfl hl.1 rfl (Nat.le_of_ble_eq_true rfl) d_Mo_strike_54 ⟨Nat.le_of_ble_eq_true rfl, Nat.le_of_ble_eq_true rfl⟩ (g_wv (free := gRg o (o + 8)) hL (fun _ h => h) (fun H_4 locs hL ⟨hR_5, hf_6⟩ => ?_))
      refine lv_aload_n hx hb d_Mo_strike_57 rfl (lv_at hl 1 rfl) ?_
      refine lv_iload hx hb d_Mo_strike_58 (lv_at hl 0 rfl) ?_
      refine g_V C0 (k_Mo_recorded l G o (tkF S (409 + 27 * i + 9 * j) q) (ovr S sp 541) bf sv iz rr pd ln sts td ac (nI (S (409 + 27 * i + 9 * j + 1 + q))) (by omega)) co_Mo_recorded im_Mo_recorded se_Mo_recorded in_Mo gc_Mo_recorded ml_Mo_88 ⟨Nat.le_of_ble_eq_true rfl, Nat.le_of_ble_eq_true rfl⟩ hK hR_5.1 rfl ⟨hR_5.1, hR_5.2.1, hR_5.2.2.1, hR_5.2.2.2.1, hR_5.2.2.2.2.1, hR_5.2.2.2.2.2.1, hR_5.2.2.2.2.2.2.1, hR_5.2.2.2.2.2.2.2⟩ rfl hl.1 rfl (Nat.le_of_ble_eq_true rfl) d_Mo_strike_60 ⟨Nat.le_of_ble_eq_true rfl, Nat.le_of_ble_eq_true rfl⟩ (g_wi (free := gRg o (o + 8)) hL (fun _ h => h) (fun H_7 locs hL ⟨hR_8, hf_9⟩ => ?_))
      refine g_iret C0 hlk hr d_Mo_strike_63 hL ?_
      exact ⟨rdI (by rw [mxStrike, c_5, nI_clamp hi31, nI_clamp hj31, c_25, Bool.and_self, if_pos rfl, nI_clamp hq31, mRec] <;> rfl), (by rw [mxStrike, c_5, nI_clamp hi31, nI_clamp hj31, c_25, Bool.and_self, if_pos rfl, nI_clamp hq31, mRec]; exact ⟨hR_8.1, hR_8.2.1, hR_8.2.2.1, hR_8.2.2.2.1, hR_8.2.2.2.2.1, hR_8.2.2.2.2.2.1, hR_8.2.2.2.2.2.2.1, hR_8.2.2.2.2.2.2.2⟩), (((gFr.rf.tr hf_3).tr hf_6).tr hf_9)⟩
    · skip
      have c_25 : inR p2 (S (409 + 27 * i + 9 * j)) = false := (inD_R (hM.b (by omega))).symm.trans c_25
      refine lv_iconst (v := -1) hx hb d_Mo_strike_28 (by decide +kernel) ?_
      refine g_iret C0 hlk hr d_Mo_strike_29 (t_nil (free := gRg o (o + 8))) ?_
      exact ⟨rdI (by rw [mxStrike, c_5, nI_clamp hi31, nI_clamp hj31, c_25] <;> rfl), (by rw [mxStrike, c_5, nI_clamp hi31, nI_clamp hj31, c_25]; exact ⟨hP.1, hP.2.1, hP.2.2.1, hP.2.2.2.1, hP.2.2.2.2.1, hP.2.2.2.2.2.1, hP.2.2.2.2.2.2.1, hP.2.2.2.2.2.2.2⟩), gFr.rf⟩

set_option maxHeartbeats 4000000 in
set_option maxRecDepth 100000 in
theorem k_Mo_set (l : Launch) (G : gT) (o : Nat) (S sp bf sv iz rr pd : Nat → Nat) (ln sts td ac : Nat) (a w : Int32) (hs6 : sts ≤ 6) (hM : mOk S) : gM l y_Mo_set c_Mo_set 4 (some .int) 1 22 0 0 G [.ref o, .int a, .int w] (fun H => MAt G o S sp bf sv iz rr pd ln sts td ac H) (wi (.int (mxSet S sp bf sv iz rr pd ln sts td ac a w).1) (fun H H1 => MAtX G o (mxSet S sp bf sv iz rr pd ln sts td ac a w).2 H1 ∧ gFr o (o + 8) H H1)) (gRg o (o + 8)) := by
  refine g_enter "GaleNamesModel" (by decide +kernel) rfl (Nat.le_of_ble_eq_true rfl) ?_
  intro p e s m args below meth c C0 hlk hr hnm hP hK ls hl
  have hx := C0.1
  have hb := C0.2.1
  have hl : lv_has ls 4 [(0, .ref o), (1, .int a), (2, .int w)] := hl
  have hn40 := hM.n
  have hg16 := hM.g
  have hk10 := hM.k
  refine lv_iload_n hx hb d_Mo_set_0 rfl (lv_at hl 1 rfl) ?_
  refine lv_iconst (v := nI 0) hx hb d_Mo_set_1 (by decide +kernel) ?_
  refine lv_iconst (v := nI 2) hx hb d_Mo_set_2 (by decide +kernel) ?_
  refine g_S C0 (k_Mo_in l G a (nI 0) (nI 2)) co_Mo_in sm_Mo_in in_Mo gc_Mo_in ml_Mo_33 ⟨Nat.le_of_ble_eq_true rfl, Nat.le_of_ble_eq_true rfl⟩ hK trivial rfl hl.1 rfl (Nat.le_of_ble_eq_true rfl) d_Mo_set_3 ⟨Nat.le_of_ble_eq_true rfl, Nat.le_of_ble_eq_true rfl⟩ (g_r rfl ?_)
  refine g_zeq (tgt := 29) C0 d_Mo_set_6 (by decide) (fun c_6 => ?_) (fun c_6 => ?_)
  · skip
    have c_6 : inR a 3 = false := (inD_c (h := 2) (by decide)).symm.trans c_6
    refine lv_bipush (v := -2) hx hb d_Mo_set_29 (by decide +kernel) ?_
    refine g_iret C0 hlk hr d_Mo_set_31 (t_nil (free := gRg o (o + 8))) ?_
    exact ⟨rdI (by rw [mxSet, c_6] <;> rfl), (by rw [mxSet, c_6]; exact ⟨hP.1, hP.2.1, hP.2.2.1, hP.2.2.2.1, hP.2.2.2.2.1, hP.2.2.2.2.2.1, hP.2.2.2.2.2.2.1, hP.2.2.2.2.2.2.2⟩), gFr.rf⟩
  · skip
    have c_6 : inR a 3 = true := (inD_c (h := 2) (by decide)).symm.trans c_6
    obtain ⟨i, hi, hi31, rfl⟩ := inR_t c_6
    refine lv_iload_n hx hb d_Mo_set_9 rfl (lv_at hl 2 rfl) ?_
    refine lv_iconst (v := nI 1) hx hb d_Mo_set_10 (by decide +kernel) ?_
    refine lv_iload_n hx hb d_Mo_set_11 rfl (lv_at hl 1 rfl) ?_
    refine lv_iconst (v := nI 2) hx hb d_Mo_set_12 (by decide +kernel) ?_
    refine g_cne (tgt := 21) C0 d_Mo_set_13 (by decide) (by first | omega | exact hM.b (by omega) | exact hR.p (by omega)) (by first | omega | exact hM.b (by omega) | exact hR.p (by omega)) (fun c_13 => ?_) (fun c_13 => ?_)
    · skip
      refine lv_bipush (v := nI 99) hx hb d_Mo_set_21 (by decide +kernel) ?_
      refine g_S C0 (k_Mo_in l G w (nI 1) (nI 99)) co_Mo_in sm_Mo_in in_Mo gc_Mo_in ml_Mo_33 ⟨Nat.le_of_ble_eq_true rfl, Nat.le_of_ble_eq_true rfl⟩ hK trivial rfl hl.1 rfl (Nat.le_of_ble_eq_true rfl) d_Mo_set_23 ⟨Nat.le_of_ble_eq_true rfl, Nat.le_of_ble_eq_true rfl⟩ (g_r rfl ?_)
      refine g_zne (tgt := 32) C0 d_Mo_set_26 (by decide) (fun c_26 => ?_) (fun c_26 => ?_)
      · skip
        obtain ⟨q, hq1, hq2, rfl⟩ := inD_e2 (by decide) c_26
        refine lv_aload_n hx hb d_Mo_set_32 rfl (lv_at hl 0 rfl) ?_
        refine g_V C0 (k_Mo_hold l G o S sp bf sv iz rr pd ln sts td ac ) co_Mo_hold im_Mo_hold se_Mo_hold in_Mo gc_Mo_hold ml_Mo_85 ⟨Nat.le_of_ble_eq_true rfl, Nat.le_of_ble_eq_true rfl⟩ hK hP.1 rfl ⟨hP.1, hP.2.1, hP.2.2.1, hP.2.2.2.1, hP.2.2.2.2.1, hP.2.2.2.2.2.1, hP.2.2.2.2.2.2.1, hP.2.2.2.2.2.2.2⟩ rfl hl.1 rfl (Nat.le_of_ble_eq_true rfl) d_Mo_set_33 ⟨Nat.le_of_ble_eq_true rfl, Nat.le_of_ble_eq_true rfl⟩ (g_wv (free := gRg o (o + 8)) (t_nil (free := gRg o (o + 8))) (fun _ h => h) (fun H_1 locs hL ⟨hR_2, hf_3⟩ => ?_))
        refine lv_aload_n hx hb d_Mo_set_36 rfl (lv_at hl 0 rfl) ?_
        refine g_get C0 hK il_Mo hR_2.1 rfl 0 (by decide) fl_Mo_7 rfl d_Mo_set_37 ?_
        refine lv_iload_n hx hb d_Mo_set_40 rfl (lv_at hl 1 rfl) ?_
        refine g_iald C0 hK hR_2.2.1 (by omega) (by omega) d_Mo_set_41 ?_
        refine lv_istore_n (lv' := [(3, .int (nI (S i))), (0, .ref o), (1, .int (nI i)), (2, .int (nI q))]) hx hb d_Mo_set_42 rfl hl (by decide) rfl (fun ls hl => ?_)
        refine lv_aload_n hx hb d_Mo_set_43 rfl (lv_at hl 1 rfl) ?_
        refine g_get C0 hK il_Mo hR_2.1 rfl 0 (by decide) fl_Mo_7 rfl d_Mo_set_44 ?_
        refine lv_iload_n hx hb d_Mo_set_47 rfl (lv_at hl 2 rfl) ?_
        refine lv_iload_n hx hb d_Mo_set_48 rfl (lv_at hl 3 rfl) ?_
        refine g_iast (free := gRg o (o + 8)) C0 hK hR_2.2.1 (by omega) (by omega) d_Mo_set_49 hL (gRg.mk (by omega) (by omega)) (fun H_4 locs hL hA_5 hc_6 => ?_)
        refine lv_aload_n hx hb d_Mo_set_50 rfl (lv_at hl 1 rfl) ?_
        refine lv_iload_n hx hb d_Mo_set_51 rfl (lv_at hl 0 rfl) ?_
        refine g_V C0 (k_Mo_recorded l G o (va_up S i q) (ovr S sp 541) bf sv iz rr pd ln sts td ac (nI (S i)) (by omega)) co_Mo_recorded im_Mo_recorded se_Mo_recorded in_Mo gc_Mo_recorded ml_Mo_88 ⟨Nat.le_of_ble_eq_true rfl, Nat.le_of_ble_eq_true rfl⟩ hK (hR_2.1.ch hc_6 (by omega)) rfl ⟨(hR_2.1.ch hc_6 (by omega)), hA_5, (hR_2.2.2.1.ch hc_6 (by omega)), (hR_2.2.2.2.1.ch hc_6 (by omega)), (hR_2.2.2.2.2.1.ch hc_6 (by omega)), (hR_2.2.2.2.2.2.1.ch hc_6 (by omega)), (hR_2.2.2.2.2.2.2.1.ch hc_6 (by omega)), (hR_2.2.2.2.2.2.2.2.ch hc_6 (by omega))⟩ rfl hl.1 rfl (Nat.le_of_ble_eq_true rfl) d_Mo_set_52 ⟨Nat.le_of_ble_eq_true rfl, Nat.le_of_ble_eq_true rfl⟩ (g_wi (free := gRg o (o + 8)) hL (fun _ h => h) (fun H_7 locs hL ⟨hR_8, hf_9⟩ => ?_))
        refine g_iret C0 hlk hr d_Mo_set_55 hL ?_
        exact ⟨rdI (by rw [mxSet, c_6, Bool.true_and, if_neg (fun h => c_13 (nI_inj (by omega) (by decide) h)), c_26, if_pos rfl, nI_clamp hi31, nI_clamp (by omega), mRec] <;> rfl), (by rw [mxSet, c_6, Bool.true_and, if_neg (fun h => c_13 (nI_inj (by omega) (by decide) h)), c_26, if_pos rfl, nI_clamp hi31, nI_clamp (by omega), mRec]; exact ⟨hR_8.1, hR_8.2.1, hR_8.2.2.1, hR_8.2.2.2.1, hR_8.2.2.2.2.1, hR_8.2.2.2.2.2.1, hR_8.2.2.2.2.2.2.1, hR_8.2.2.2.2.2.2.2⟩), (((gFr.rf.tr hf_3).tr (gFr.ch hc_6 (by omega) (by omega))).tr hf_9)⟩
      · skip
        refine lv_bipush (v := -2) hx hb d_Mo_set_29 (by decide +kernel) ?_
        refine g_iret C0 hlk hr d_Mo_set_31 (t_nil (free := gRg o (o + 8))) ?_
        exact ⟨rdI (by rw [mxSet, c_6, Bool.true_and, if_neg (fun h => c_13 (nI_inj (by omega) (by decide) h)), c_26] <;> rfl), (by rw [mxSet, c_6, Bool.true_and, if_neg (fun h => c_13 (nI_inj (by omega) (by decide) h)), c_26]; exact ⟨hP.1, hP.2.1, hP.2.2.1, hP.2.2.2.1, hP.2.2.2.2.1, hP.2.2.2.2.2.1, hP.2.2.2.2.2.2.1, hP.2.2.2.2.2.2.2⟩), gFr.rf⟩
    · skip
      refine lv_bipush (v := nI 6) hx hb d_Mo_set_16 (by decide +kernel) ?_
      refine lv_goto (tgt := 23) hx hb d_Mo_set_18 (by decide) ?_
      refine g_S C0 (k_Mo_in l G w (nI 1) (nI 6)) co_Mo_in sm_Mo_in in_Mo gc_Mo_in ml_Mo_33 ⟨Nat.le_of_ble_eq_true rfl, Nat.le_of_ble_eq_true rfl⟩ hK trivial rfl hl.1 rfl (Nat.le_of_ble_eq_true rfl) d_Mo_set_23 ⟨Nat.le_of_ble_eq_true rfl, Nat.le_of_ble_eq_true rfl⟩ (g_r rfl ?_)
      refine g_zne (tgt := 32) C0 d_Mo_set_26 (by decide) (fun c_26 => ?_) (fun c_26 => ?_)
      · skip
        obtain ⟨q, hq1, hq2, rfl⟩ := inD_e2 (by decide) c_26
        refine lv_aload_n hx hb d_Mo_set_32 rfl (lv_at hl 0 rfl) ?_
        refine g_V C0 (k_Mo_hold l G o S sp bf sv iz rr pd ln sts td ac ) co_Mo_hold im_Mo_hold se_Mo_hold in_Mo gc_Mo_hold ml_Mo_85 ⟨Nat.le_of_ble_eq_true rfl, Nat.le_of_ble_eq_true rfl⟩ hK hP.1 rfl ⟨hP.1, hP.2.1, hP.2.2.1, hP.2.2.2.1, hP.2.2.2.2.1, hP.2.2.2.2.2.1, hP.2.2.2.2.2.2.1, hP.2.2.2.2.2.2.2⟩ rfl hl.1 rfl (Nat.le_of_ble_eq_true rfl) d_Mo_set_33 ⟨Nat.le_of_ble_eq_true rfl, Nat.le_of_ble_eq_true rfl⟩ (g_wv (free := gRg o (o + 8)) (t_nil (free := gRg o (o + 8))) (fun _ h => h) (fun H_10 locs hL ⟨hR_11, hf_12⟩ => ?_))
        refine lv_aload_n hx hb d_Mo_set_36 rfl (lv_at hl 0 rfl) ?_
        refine g_get C0 hK il_Mo hR_11.1 rfl 0 (by decide) fl_Mo_7 rfl d_Mo_set_37 ?_
        refine lv_iload_n hx hb d_Mo_set_40 rfl (lv_at hl 1 rfl) ?_
        refine g_iald C0 hK hR_11.2.1 (by omega) (by omega) d_Mo_set_41 ?_
        refine lv_istore_n (lv' := [(3, .int (nI (S i))), (0, .ref o), (1, .int (nI i)), (2, .int (nI q))]) hx hb d_Mo_set_42 rfl hl (by decide) rfl (fun ls hl => ?_)
        refine lv_aload_n hx hb d_Mo_set_43 rfl (lv_at hl 1 rfl) ?_
        refine g_get C0 hK il_Mo hR_11.1 rfl 0 (by decide) fl_Mo_7 rfl d_Mo_set_44 ?_
        refine lv_iload_n hx hb d_Mo_set_47 rfl (lv_at hl 2 rfl) ?_
        refine lv_iload_n hx hb d_Mo_set_48 rfl (lv_at hl 3 rfl) ?_
        refine g_iast (free := gRg o (o + 8)) C0 hK hR_11.2.1 (by omega) (by omega) d_Mo_set_49 hL (gRg.mk (by omega) (by omega)) (fun H_13 locs hL hA_14 hc_15 => ?_)
        refine lv_aload_n hx hb d_Mo_set_50 rfl (lv_at hl 1 rfl) ?_
        refine lv_iload_n hx hb d_Mo_set_51 rfl (lv_at hl 0 rfl) ?_
        refine g_V C0 (k_Mo_recorded l G o (va_up S i q) (ovr S sp 541) bf sv iz rr pd ln sts td ac (nI (S i)) (by omega)) co_Mo_recorded im_Mo_recorded se_Mo_recorded in_Mo gc_Mo_recorded ml_Mo_88 ⟨Nat.le_of_ble_eq_true rfl, Nat.le_of_ble_eq_true rfl⟩ hK (hR_11.1.ch hc_15 (by omega)) rfl ⟨(hR_11.1.ch hc_15 (by omega)), hA_14, (hR_11.2.2.1.ch hc_15 (by omega)), (hR_11.2.2.2.1.ch hc_15 (by omega)), (hR_11.2.2.2.2.1.ch hc_15 (by omega)), (hR_11.2.2.2.2.2.1.ch hc_15 (by omega)), (hR_11.2.2.2.2.2.2.1.ch hc_15 (by omega)), (hR_11.2.2.2.2.2.2.2.ch hc_15 (by omega))⟩ rfl hl.1 rfl (Nat.le_of_ble_eq_true rfl) d_Mo_set_52 ⟨Nat.le_of_ble_eq_true rfl, Nat.le_of_ble_eq_true rfl⟩ (g_wi (free := gRg o (o + 8)) hL (fun _ h => h) (fun H_16 locs hL ⟨hR_17, hf_18⟩ => ?_))
        refine g_iret C0 hlk hr d_Mo_set_55 hL ?_
        exact ⟨rdI (by rw [mxSet, c_6, Bool.true_and, if_pos (congrArg nI c_13), c_26, if_pos rfl, nI_clamp hi31, nI_clamp (by omega), mRec] <;> rfl), (by rw [mxSet, c_6, Bool.true_and, if_pos (congrArg nI c_13), c_26, if_pos rfl, nI_clamp hi31, nI_clamp (by omega), mRec]; exact ⟨hR_17.1, hR_17.2.1, hR_17.2.2.1, hR_17.2.2.2.1, hR_17.2.2.2.2.1, hR_17.2.2.2.2.2.1, hR_17.2.2.2.2.2.2.1, hR_17.2.2.2.2.2.2.2⟩), (((gFr.rf.tr hf_12).tr (gFr.ch hc_15 (by omega) (by omega))).tr hf_18)⟩
      · skip
        refine lv_bipush (v := -2) hx hb d_Mo_set_29 (by decide +kernel) ?_
        refine g_iret C0 hlk hr d_Mo_set_31 (t_nil (free := gRg o (o + 8))) ?_
        exact ⟨rdI (by rw [mxSet, c_6, Bool.true_and, if_pos (congrArg nI c_13), c_26] <;> rfl), (by rw [mxSet, c_6, Bool.true_and, if_pos (congrArg nI c_13), c_26]; exact ⟨hP.1, hP.2.1, hP.2.2.1, hP.2.2.2.1, hP.2.2.2.2.1, hP.2.2.2.2.2.1, hP.2.2.2.2.2.2.1, hP.2.2.2.2.2.2.2⟩), gFr.rf⟩
