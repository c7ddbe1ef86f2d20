/-! find -/
def zFq (S sp bf sv iz rr pd : Nat → Nat) (ln sts : Nat) (x : Int32) : Int32 × MS := (x, (S, sp, bf, sv, iz, (mFq pd ln rr).2.2.1, pd, ln, sts, (mFq pd ln rr).2.1, (mFq pd ln rr).1))
def mxFind (S sp bf sv iz rr pd : Nat → Nat) (ln sts _td _ac : Nat) : Int32 × MS := zFq S sp bf sv iz rr pd ln sts (if 0 ≤ mFo (mFq pd ln rr) then -3 else if 1 < (mFq pd ln rr).2.1 then -3 else oI (-6) (mKn S (mFq pd ln rr).2.2.1 pd 0))

set_option maxHeartbeats 4000000 in
set_option maxRecDepth 100000 in
theorem k_Mo_find (l : Launch) (G : gT) (o : Nat) (S sp bf sv iz rr pd : Nat → Nat) (ln sts td ac : Nat) (hln : ln ≤ 80) (hpd : ∀ k, k < 80 → pd k < 2 ^ 16) (hM : mOk S) : gM l y_Mo_find c_Mo_find 1 (some .int) 3 63 0 0 G [.ref o] (fun H => MAt G o S sp bf sv iz rr pd ln sts td ac H) (wi (.int (mxFind S sp bf sv iz rr pd ln sts td ac).1) (fun H H1 => MAtX G o (mxFind S sp bf sv iz rr pd ln sts td ac).2 H1 ∧ gFr o (o + 8) H H1)) (gRg o (o + 8)) := by
  refine g_enter "GaleNamesModel" (by decide +kernel) rfl (Nat.le_of_ble_eq_true rfl) ?_
  intro p e s m args below meth c C0 hlk hr hnm hP hK ls hl
  have hx := C0.1
  have hb := C0.2.1
  have hl : lv_has ls 1 [(0, .ref o)] := hl
  have hn40 := hM.n
  have hg16 := hM.g
  have hk10 := hM.k
  refine lv_aload_n hx hb d_Mo_find_0 rfl (lv_at hl 0 rfl) ?_
  refine g_V C0 (k_Mo_faultOf l G o S sp bf sv iz rr pd ln sts td ac (by omega) hpd) co_Mo_faultOf im_Mo_faultOf se_Mo_faultOf in_Mo gc_Mo_faultOf ml_Mo_109 ⟨Nat.le_of_ble_eq_true rfl, Nat.le_of_ble_eq_true rfl⟩ hK hP.1 rfl ⟨hP.1, hP.2.1, hP.2.2.1, hP.2.2.2.1, hP.2.2.2.2.1, hP.2.2.2.2.2.1, hP.2.2.2.2.2.2.1, hP.2.2.2.2.2.2.2⟩ rfl hl.1 rfl (Nat.le_of_ble_eq_true rfl) d_Mo_find_1 ⟨Nat.le_of_ble_eq_true rfl, Nat.le_of_ble_eq_true rfl⟩ (g_wi (free := gRg o (o + 8)) (t_nil (free := gRg o (o + 8))) (fun _ h => h) (fun H_1 locs hL ⟨hR_2, hf_3⟩ => ?_))
  refine lv_if_ge (tgt := 15) hx hb d_Mo_find_4 (by decide) (fun c_4 => ?_) (fun c_4 => ?_)
  · skip
    refine lv_bipush (v := -3) hx hb d_Mo_find_15 (by decide +kernel) ?_
    refine lv_goto (tgt := 25) hx hb d_Mo_find_17 (by decide) ?_
    refine g_iret C0 hlk hr d_Mo_find_25 hL ?_
    exact ⟨rdI (by rw [mxFind, zFq]; show (if _ then _ else _) = _; rw [if_pos c_4] <;> rfl), (by rw [mxFind, zFq]; exact ⟨hR_2.1, hR_2.2.1, hR_2.2.2.1, hR_2.2.2.2.1, hR_2.2.2.2.2.1, hR_2.2.2.2.2.2.1, hR_2.2.2.2.2.2.2.1, hR_2.2.2.2.2.2.2.2⟩), (gFr.rf.tr hf_3)⟩
  · skip
    refine lv_aload_n hx hb d_Mo_find_7 rfl (lv_at hl 0 rfl) ?_
    refine g_get C0 hK il_Mo hR_2.1 rfl 9 (by decide) fl_Mo_51 rfl d_Mo_find_8 ?_
    refine lv_iconst (v := nI 1) hx hb d_Mo_find_11 (by decide +kernel) ?_
    refine g_cle (tgt := 20) C0 d_Mo_find_12 (by decide) (by have := (mFq_rOk (rr := rr) hln hpd).1; omega) (by first | omega | exact hM.b (by omega) | exact hR.p (by omega)) (fun c_12 => ?_) (fun c_12 => ?_)
    · skip
      refine lv_aload_n hx hb d_Mo_find_20 rfl (lv_at hl 0 rfl) ?_
      refine lv_iconst (v := nI 0) hx hb d_Mo_find_21 (by decide +kernel) ?_
      refine g_V C0 (k_Mo_known l G o S sp bf sv iz ((mFq pd ln rr).2.2.1) pd ln sts ((mFq pd ln rr).2.1) ((mFq pd ln rr).1) 0 (mFo_neg hln c_4) hM (mFq_rOk hln hpd)) co_Mo_known im_Mo_known se_Mo_known in_Mo gc_Mo_known ml_Mo_61 ⟨Nat.le_of_ble_eq_true rfl, Nat.le_of_ble_eq_true rfl⟩ hK hR_2.1 rfl ⟨hR_2.1, hR_2.2.1, hR_2.2.2.1, hR_2.2.2.2.1, hR_2.2.2.2.2.1, hR_2.2.2.2.2.2.1, hR_2.2.2.2.2.2.2.1, hR_2.2.2.2.2.2.2.2⟩ rfl hl.1 rfl (Nat.le_of_ble_eq_true rfl) d_Mo_find_22 ⟨Nat.le_of_ble_eq_true rfl, Nat.le_of_ble_eq_true rfl⟩ (g_r rfl ?_)
      refine g_iret C0 hlk hr d_Mo_find_25 hL ?_
      exact ⟨rdI (by rw [mxFind, zFq]; show (if _ then _ else _) = _; rw [if_neg c_4, if_neg (by omega)] <;> rfl), (by rw [mxFind, zFq]; exact ⟨hR_2.1, hR_2.2.1, hR_2.2.2.1, hR_2.2.2.2.1, hR_2.2.2.2.2.1, hR_2.2.2.2.2.2.1, hR_2.2.2.2.2.2.2.1, hR_2.2.2.2.2.2.2.2⟩), (gFr.rf.tr hf_3)⟩
    · skip
      refine lv_bipush (v := -3) hx hb d_Mo_find_15 (by decide +kernel) ?_
      refine lv_goto (tgt := 25) hx hb d_Mo_find_17 (by decide) ?_
      refine g_iret C0 hlk hr d_Mo_find_25 hL ?_
      exact ⟨rdI (by rw [mxFind, zFq]; show (if _ then _ else _) = _; rw [if_neg c_4, if_pos (by omega)] <;> rfl), (by rw [mxFind, zFq]; exact ⟨hR_2.1, hR_2.2.1, hR_2.2.2.1, hR_2.2.2.2.1, hR_2.2.2.2.2.1, hR_2.2.2.2.2.2.1, hR_2.2.2.2.2.2.2.1, hR_2.2.2.2.2.2.2.2⟩), (gFr.rf.tr hf_3)⟩

def mxBeg (S sp bf sv iz rr pd : Nat → Nat) (ln sts _td _ac : Nat) : Int32 × MS := zFq S sp bf sv iz rr pd ln sts (if 0 ≤ mFo (mFq pd ln rr) then -3 else if 1 < (mFq pd ln rr).2.1 then -3 else nI (cN (fun n => mSa S (mFq pd ln rr).2.2.1 pd 0 n == (mFq pd ln rr).2.2.1 1) (S 4)))

set_option maxHeartbeats 4000000 in
set_option maxRecDepth 100000 in
theorem k_Mo_beginning (l : Launch) (G : gT) (o : Nat) (S sp bf sv iz rr pd : Nat → Nat) (ln sts td ac : Nat) (hln : ln ≤ 80) (hpd : ∀ k, k < 80 → pd k < 2 ^ 16) (hM : mOk S) : gM l y_Mo_beginning c_Mo_beginning 3 (some .int) 3 63 0 0 G [.ref o] (fun H => MAt G o S sp bf sv iz rr pd ln sts td ac H) (wi (.int (mxBeg S sp bf sv iz rr pd ln sts td ac).1) (fun H H1 => MAtX G o (mxBeg S sp bf sv iz rr pd ln sts td ac).2 H1 ∧ gFr o (o + 8) H H1)) (gRg o (o + 8)) := by
  refine g_enter "GaleNamesModel" (by decide +kernel) rfl (Nat.le_of_ble_eq_true rfl) ?_
  intro p e s m args below meth c C0 hlk hr hnm hP hK ls hl
  have hx := C0.1
  have hb := C0.2.1
  have hl : lv_has ls 3 [(0, .ref o)] := hl
  have hn40 := hM.n
  have hg16 := hM.g
  have hk10 := hM.k
  refine lv_aload_n hx hb d_Mo_beginning_0 rfl (lv_at hl 0 rfl) ?_
  refine g_V C0 (k_Mo_faultOf l G o S sp bf sv iz rr pd ln sts td ac (by omega) hpd) co_Mo_faultOf im_Mo_faultOf se_Mo_faultOf in_Mo gc_Mo_faultOf ml_Mo_109 ⟨Nat.le_of_ble_eq_true rfl, Nat.le_of_ble_eq_true rfl⟩ hK hP.1 rfl ⟨hP.1, hP.2.1, hP.2.2.1, hP.2.2.2.1, hP.2.2.2.2.1, hP.2.2.2.2.2.1, hP.2.2.2.2.2.2.1, hP.2.2.2.2.2.2.2⟩ rfl hl.1 rfl (Nat.le_of_ble_eq_true rfl) d_Mo_beginning_1 ⟨Nat.le_of_ble_eq_true rfl, Nat.le_of_ble_eq_true rfl⟩ (g_wi (free := gRg o (o + 8)) (t_nil (free := gRg o (o + 8))) (fun _ h => h) (fun H_1 locs hL ⟨hR_2, hf_3⟩ => ?_))
  refine lv_if_ge (tgt := 15) hx hb d_Mo_beginning_4 (by decide) (fun c_4 => ?_) (fun c_4 => ?_)
  · skip
    refine lv_bipush (v := -3) hx hb d_Mo_beginning_15 (by decide +kernel) ?_
    refine g_iret C0 hlk hr d_Mo_beginning_17 hL ?_
    exact ⟨rdI (by rw [mxBeg, zFq]; show (if _ then _ else _) = _; rw [if_pos c_4] <;> rfl), (by rw [mxBeg, zFq]; exact ⟨hR_2.1, hR_2.2.1, hR_2.2.2.1, hR_2.2.2.2.1, hR_2.2.2.2.2.1, hR_2.2.2.2.2.2.1, hR_2.2.2.2.2.2.2.1, hR_2.2.2.2.2.2.2.2⟩), (gFr.rf.tr hf_3)⟩
  · skip
    refine lv_aload_n hx hb d_Mo_beginning_7 rfl (lv_at hl 0 rfl) ?_
    refine g_get C0 hK il_Mo hR_2.1 rfl 9 (by decide) fl_Mo_51 rfl d_Mo_beginning_8 ?_
    refine lv_iconst (v := nI 1) hx hb d_Mo_beginning_11 (by decide +kernel) ?_
    refine g_cle (tgt := 18) C0 d_Mo_beginning_12 (by decide) (by have := (mFq_rOk (rr := rr) hln hpd).1; omega) (by first | omega | exact hM.b (by omega) | exact hR.p (by omega)) (fun c_12 => ?_) (fun c_12 => ?_)
    · skip
      refine lv_iconst (v := nI 0) hx hb d_Mo_beginning_18 (by decide +kernel) ?_
      refine lv_istore_n (lv' := [(1, .int (nI 0)), (0, .ref o)]) hx hb d_Mo_beginning_19 rfl hl (by decide) rfl (fun ls hl => ?_)
      refine lv_iconst (v := nI 0) hx hb d_Mo_beginning_20 (by decide +kernel) ?_
      refine lv_istore_n (lv' := [(2, .int (nI 0)), (1, .int (nI 0)), (0, .ref o)]) hx hb d_Mo_beginning_21 rfl hl (by decide) rfl (fun ls hl => ?_)
      have lp22 : ∀ (fu : Nat) (i : Nat) (q : Nat), (S 4 - i) < fu → i ≤ S 4 → q = cN (fun n => mSa S (mFq pd ln rr).2.2.1 pd 0 n == (mFq pd ln rr).2.2.1 1) i → ∀ ls : Array Slot, lv_has ls 3 [(2, .int (nI i)), (1, .int (nI q)), (0, .ref o)] → W p l e ({ frames := 3, cells := 0, slots := 0, locals := 63 } : Room) s m args below meth c H_1 locs 0 0 (MQ below (gQ (wi (.int (mxBeg S sp bf sv iz rr pd ln sts td ac).1) (fun H H1 => MAtX G o (mxBeg S sp bf sv iz rr pd ln sts td ac).2 H1 ∧ gFr o (o + 8) H H1))) args s 0 0 (gRg o (o + 8))) (F0 m 22 ls []) := by
        intro fu
        induction fu with
        | zero => intro i q  hfu; exact absurd hfu (Nat.not_lt_zero _)
        | succ fu ih22 =>
          intro i q hfu hi hq2 ls hl
          refine lv_iload_n hx hb d_Mo_beginning_22 rfl (lv_at hl 0 rfl) ?_
          refine lv_aload_n hx hb d_Mo_beginning_23 rfl (lv_at hl 2 rfl) ?_
          refine g_get C0 hK il_Mo hR_2.1 rfl 0 (by decide) fl_Mo_7 rfl d_Mo_beginning_24 ?_
          refine lv_iconst (v := nI 4) hx hb d_Mo_beginning_27 (by decide +kernel) ?_
          refine g_iald C0 hK hR_2.2.1 (by omega) (by omega) d_Mo_beginning_28 ?_
          refine g_cge (tgt := 61) C0 d_Mo_beginning_29 (by decide) (by first | omega | exact hM.b (by omega) | exact hR.p (by omega)) (by first | omega | exact hM.b (by omega) | exact hR.p (by omega)) (fun c_29 => ?_) (fun c_29 => ?_)
          · skip
            refine lv_iload_n hx hb d_Mo_beginning_61 rfl (lv_at hl 1 rfl) ?_
            refine g_iret C0 hlk hr d_Mo_beginning_62 hL ?_
            exact ⟨rdI (by rw [mxBeg, zFq]; show (if _ then _ else _) = _; rw [if_neg c_4, if_neg (by omega), hq2, show i = S 4 by omega] <;> rfl), (by rw [mxBeg, zFq]; exact ⟨hR_2.1, hR_2.2.1, hR_2.2.2.1, hR_2.2.2.2.1, hR_2.2.2.2.2.1, hR_2.2.2.2.2.2.1, hR_2.2.2.2.2.2.2.1, hR_2.2.2.2.2.2.2.2⟩), (gFr.rf.tr hf_3)⟩
          · skip
            refine lv_iload_n hx hb d_Mo_beginning_32 rfl (lv_at hl 1 rfl) ?_
            refine lv_aload_n hx hb d_Mo_beginning_33 rfl (lv_at hl 2 rfl) ?_
            refine lv_iconst (v := nI 0) hx hb d_Mo_beginning_34 (by decide +kernel) ?_
            refine lv_iload_n hx hb d_Mo_beginning_35 rfl (lv_at hl 0 rfl) ?_
            refine g_V C0 (k_Mo_sameAs l G o S sp bf sv iz ((mFq pd ln rr).2.2.1) pd ln sts ((mFq pd ln rr).2.1) ((mFq pd ln rr).1) 0 i (mFo_neg hln c_4) (by omega) hM (mFq_rOk hln hpd)) co_Mo_sameAs im_Mo_sameAs se_Mo_sameAs in_Mo gc_Mo_sameAs ml_Mo_103 ⟨Nat.le_of_ble_eq_true rfl, Nat.le_of_ble_eq_true rfl⟩ hK hR_2.1 rfl ⟨hR_2.1, hR_2.2.1, hR_2.2.2.1, hR_2.2.2.2.1, hR_2.2.2.2.2.1, hR_2.2.2.2.2.2.1, hR_2.2.2.2.2.2.2.1, hR_2.2.2.2.2.2.2.2⟩ rfl hl.1 rfl (Nat.le_of_ble_eq_true rfl) d_Mo_beginning_36 ⟨Nat.le_of_ble_eq_true rfl, Nat.le_of_ble_eq_true rfl⟩ (g_r rfl ?_)
            refine lv_aload_n hx hb d_Mo_beginning_39 rfl (lv_at hl 2 rfl) ?_
            refine g_get C0 hK il_Mo hR_2.1 rfl 5 (by decide) fl_Mo_26 rfl d_Mo_beginning_40 ?_
            refine lv_iconst (v := nI 1) hx hb d_Mo_beginning_43 (by decide +kernel) ?_
            refine g_iald C0 hK hR_2.2.2.2.2.2.2.1 (by omega) (by omega) d_Mo_beginning_44 ?_
            refine g_cne (tgt := 52) C0 d_Mo_beginning_45 (by decide) (Nat.lt_of_le_of_lt (pfx_le _ _) (by decide)) (Nat.lt_of_le_of_lt ((mFq_rOk hln hpd).l (w := 0) (mFo_neg hln c_4)) (by decide)) (fun c_45 => ?_) (fun c_45 => ?_)
            · skip
              refine lv_iconst (v := nI 0) hx hb d_Mo_beginning_52 (by decide +kernel) ?_
              refine g_iadd C0 (z := q) d_Mo_beginning_53 rfl ?_
              refine lv_istore_n (lv' := [(1, .int (nI q)), (2, .int (nI i)), (0, .ref o)]) hx hb d_Mo_beginning_54 rfl hl (by decide) rfl (fun ls hl => ?_)
              refine lv_iinc (v := (nI (i + 1))) (lv' := [(2, .int (nI (i + 1))), (1, .int (nI q)), (0, .ref o)]) hx hb d_Mo_beginning_55 hl (k := 1) rfl (gI_inc _) (by decide) rfl (fun ls hl => ?_)
              refine lv_goto (tgt := 22) hx hb d_Mo_beginning_58 (by decide) ?_
              exact ih22 (i + 1) q (by omega) (by omega) (by rw [cN_s, ← hq2]; simp [c_45]) ls (lv_sub hl [0, 1, 2] rfl)
            · skip
              refine lv_iconst (v := nI 1) hx hb d_Mo_beginning_48 (by decide +kernel) ?_
              refine lv_goto (tgt := 53) hx hb d_Mo_beginning_49 (by decide) ?_
              refine g_iadd C0 (z := q + 1) d_Mo_beginning_53 rfl ?_
              refine lv_istore_n (lv' := [(1, .int (nI (q + 1))), (2, .int (nI i)), (0, .ref o)]) hx hb d_Mo_beginning_54 rfl hl (by decide) rfl (fun ls hl => ?_)
              refine lv_iinc (v := (nI (i + 1))) (lv' := [(2, .int (nI (i + 1))), (1, .int (nI (q + 1))), (0, .ref o)]) hx hb d_Mo_beginning_55 hl (k := 1) rfl (gI_inc _) (by decide) rfl (fun ls hl => ?_)
              refine lv_goto (tgt := 22) hx hb d_Mo_beginning_58 (by decide) ?_
              exact ih22 (i + 1) (q + 1) (by omega) (by omega) (by rw [cN_s, ← hq2]; simp [c_45]) ls (lv_sub hl [0, 1, 2] rfl)
      exact lp22 ((S 4 - 0) + 1) 0 0 (by omega) (by omega) rfl ls (lv_sub hl [0, 1, 2] rfl)
    · skip
      refine lv_bipush (v := -3) hx hb d_Mo_beginning_15 (by decide +kernel) ?_
      refine g_iret C0 hlk hr d_Mo_beginning_17 hL ?_
      exact ⟨rdI (by rw [mxBeg, zFq]; show (if _ then _ else _) = _; rw [if_neg c_4, if_pos (by omega)] <;> rfl), (by rw [mxBeg, zFq]; exact ⟨hR_2.1, hR_2.2.1, hR_2.2.2.1, hR_2.2.2.2.1, hR_2.2.2.2.2.1, hR_2.2.2.2.2.2.1, hR_2.2.2.2.2.2.2.1, hR_2.2.2.2.2.2.2.2⟩), (gFr.rf.tr hf_3)⟩
