/-! fill, endYear, namesake -/
theorem oweS_t {S : Nat → Nat} {i : Nat} (h : oweS S i 1 ≤ mHm (oweS S i) (oweS S i (511 + 3 * i))) : oweS S (i + 1) = va_up (oweS S i) (511 + 3 * i + 1) (oweS S i (511 + 3 * i + 1) + 1) := by rw [oweS, if_pos h]
theorem oweS_f {S : Nat → Nat} {i : Nat} (h : ¬ oweS S i 1 ≤ mHm (oweS S i) (oweS S i (511 + 3 * i))) : oweS S (i + 1) = va_up (oweS S i) (511 + 3 * i + 1) (oweS S i (511 + 3 * i + 1)) := by rw [oweS, if_neg h]; rfl
section
variable (S sp bf sv iz rr pd : Nat → Nat) (ln sts td ac : Nat)
def mFil (c k : Nat) : Int32 × MS := if mFo (mFq pd ln rr) < 0 then
    (if cmR S (mFq pd ln rr).2.2.1 pd (mFq pd ln rr).2.1 c k < 0 then (cmR S (mFq pd ln rr).2.2.1 pd (mFq pd ln rr).2.1 c k, (ovr (ovr S sp 541) (cmA S (mFq pd ln rr).2.2.1 pd (mFq pd ln rr).2.1 c k (mFq pd ln rr).2.1).1 541, ovr S sp 541, bf, sv, iz, (mFq pd ln rr).2.2.1, pd, ln, sts, (mFq pd ln rr).2.1, (mFq pd ln rr).1))
    else mRec S sp bf sv iz (mFq pd ln rr).2.2.1 pd 0 sts (mFq pd ln rr).2.1 (mFq pd ln rr).1 (flM (cmA S (mFq pd ln rr).2.2.1 pd (mFq pd ln rr).2.1 c k (mFq pd ln rr).2.1).1 (mFq pd ln rr).2.2.1 pd (409 + 27 * c + 9 * k) (mFq pd ln rr).2.1) (nI (flM (cmA S (mFq pd ln rr).2.2.1 pd (mFq pd ln rr).2.1 c k (mFq pd ln rr).2.1).1 (mFq pd ln rr).2.2.1 pd (409 + 27 * c + 9 * k) (mFq pd ln rr).2.1 (409 + 27 * c + 9 * k))))
  else zFq S sp bf sv iz rr pd ln sts (-3)
def mxFill (a k : Int32) : Int32 × MS := if inL a k then mFil S sp bf sv iz rr pd ln sts a.toNatClampNeg k.toNatClampNeg else (-1, mSt S sp bf sv iz rr pd ln sts td ac)
def eyM (S : Nat → Nat) : Nat → Nat := va_up (va_up (rhM (oweS S (S 7)) (S 4)).1 5 0) 3 (va_up (rhM (oweS S (S 7)) (S 4)).1 5 0 3 + 1)
def mxEnd : Int32 × MS := if S 3 = 999 then (-5, mSt S sp bf sv iz rr pd ln sts td ac) else mRec S sp bf sv iz rr pd ln sts td ac (eyM S) (nI (rhM (oweS S (S 7)) (S 4)).2)
def nkS3 (S rr pd : Nat → Nat) : Nat → Nat := va_up (va_up (va_up (mLS S rr pd 0) (511 + 3 * S 7) (zLn S rr pd 0)) (511 + 3 * S 7 + 1) 0) (511 + 3 * S 7 + 2) 0
def nkS (S rr pd : Nat → Nat) : Nat → Nat := va_up (nkS3 S rr pd) 7 (nkS3 S rr pd 7 + 1)
end
def mxNk (S sp bf sv iz rr pd : Nat → Nat) (ln sts _td _ac : Nat) : Int32 × MS := if 0 ≤ mFo (mFq pd ln rr) then zFq S sp bf sv iz rr pd ln sts (-3) else if 1 < (mFq pd ln rr).2.1 then zFq S sp bf sv iz rr pd ln sts (-3)
  else if S 7 = 10 ∨ (mKn S (mFq pd ln rr).2.2.1 pd 0 = none ∧ S 4 = 40) then zFq S sp bf sv iz rr pd ln sts (-4)
  else mRec S sp bf sv iz (mFq pd ln rr).2.2.1 pd 0 sts (mFq pd ln rr).2.1 (mFq pd ln rr).1 (nkS S (mFq pd ln rr).2.2.1 pd) (nI (nkS S (mFq pd ln rr).2.2.1 pd 7 - 1))

set_option maxHeartbeats 4000000 in
set_option maxRecDepth 100000 in
theorem k_Mo_fill (l : Launch) (G : gT) (o : Nat) (S sp bf sv iz rr pd : Nat → Nat) (ln sts td ac : Nat) (a k : Int32) (hs6 : sts ≤ 6) (hln : ln ≤ 80) (hpd : ∀ k, k < 80 → pd k < 2 ^ 16) (hM : mOk S) : gM l y_Mo_fill c_Mo_fill 6 (some .int) 4 99 0 0 G [.ref o, .int a, .int k] (fun H => MAt G o S sp bf sv iz rr pd ln sts td ac H) (wi (.int (mxFill S sp bf sv iz rr pd ln sts td ac a k).1) (fun H H1 => MAtX G o (mxFill S sp bf sv iz rr pd ln sts td ac a k).2 H1 ∧ gFr o (o + 8) H H1)) (gRg o (o + 8)) := by
  refine g_enter "GaleNamesModel" (by decide +kernel) rfl (Nat.le_of_ble_eq_true rfl) ?_
  intro p e s m args below meth c C0 hlk hr hnm hP hK ls hl
  have hx := C0.1
  have hb := C0.2.1
  have hl : lv_has ls 6 [(0, .ref o), (1, .int a), (2, .int k)] := hl
  have hn40 := hM.n
  have hg16 := hM.g
  have hk10 := hM.k
  have hRq := mFq_rOk (rr := rr) hln hpd
  refine lv_iload_n hx hb d_Mo_fill_0 rfl (lv_at hl 1 rfl) ?_
  refine lv_iload_n hx hb d_Mo_fill_1 rfl (lv_at hl 2 rfl) ?_
  refine g_S C0 (k_Mo_isList l G a k) co_Mo_isList sm_Mo_isList in_Mo gc_Mo_isList ml_Mo_106 ⟨Nat.le_of_ble_eq_true rfl, Nat.le_of_ble_eq_true rfl⟩ hK trivial rfl hl.1 rfl (Nat.le_of_ble_eq_true rfl) d_Mo_fill_2 ⟨Nat.le_of_ble_eq_true rfl, Nat.le_of_ble_eq_true rfl⟩ (g_r rfl ?_)
  refine g_zne (tgt := 10) C0 d_Mo_fill_5 (by decide) (fun c_5 => ?_) (fun c_5 => ?_)
  · skip
    have h0 := c_5
    unfold inL at h0
    rw [Bool.and_eq_true] at h0
    obtain ⟨i, hi, hi31, rfl⟩ := inR_t h0.1
    obtain ⟨j, hj, hj31, rfl⟩ := inR_t h0.2
    have hl8 := hM.l hi hj
    refine lv_aload_n hx hb d_Mo_fill_10 rfl (lv_at hl 0 rfl) ?_
    refine g_V C0 (k_Mo_faultOf l G o S sp bf sv iz rr pd ln sts td ac (by omega) hpd) co_Mo_faultOf im_Mo_faultOf se_Mo_faultOf in_Mo gc_Mo_faultOf ml_Mo_109 ⟨Nat.le_of_ble_eq_true rfl, Nat.le_of_ble_eq_true rfl⟩ hK hP.1 rfl ⟨hP.1, hP.2.1, hP.2.2.1, hP.2.2.2.1, hP.2.2.2.2.1, hP.2.2.2.2.2.1, hP.2.2.2.2.2.2.1, hP.2.2.2.2.2.2.2⟩ rfl hl.1 rfl (Nat.le_of_ble_eq_true rfl) d_Mo_fill_11 ⟨Nat.le_of_ble_eq_true rfl, Nat.le_of_ble_eq_true rfl⟩ (g_wi (free := gRg o (o + 8)) (t_nil (free := gRg o (o + 8))) (fun _ h => h) (fun H_1 locs hL ⟨hR_2, hf_3⟩ => ?_))
    refine lv_if_lt (tgt := 20) hx hb d_Mo_fill_14 (by decide) (fun c_14 => ?_) (fun c_14 => ?_)
    · skip
      refine lv_aload_n hx hb d_Mo_fill_20 rfl (lv_at hl 0 rfl) ?_
      refine g_V C0 (k_Mo_hold l G o S sp bf sv iz ((mFq pd ln rr).2.2.1) pd ln sts ((mFq pd ln rr).2.1) ((mFq pd ln rr).1) ) co_Mo_hold im_Mo_hold se_Mo_hold in_Mo gc_Mo_hold ml_Mo_85 ⟨Nat.le_of_ble_eq_true rfl, Nat.le_of_ble_eq_true rfl⟩ hK hR_2.1 rfl ⟨hR_2.1, hR_2.2.1, hR_2.2.2.1, hR_2.2.2.2.1, hR_2.2.2.2.2.1, hR_2.2.2.2.2.2.1, hR_2.2.2.2.2.2.2.1, hR_2.2.2.2.2.2.2.2⟩ rfl hl.1 rfl (Nat.le_of_ble_eq_true rfl) d_Mo_fill_21 ⟨Nat.le_of_ble_eq_true rfl, Nat.le_of_ble_eq_true rfl⟩ (g_wv (free := gRg o (o + 8)) hL (fun _ h => h) (fun H_4 locs hL ⟨hR_5, hf_6⟩ => ?_))
      refine lv_aload_n hx hb d_Mo_fill_24 rfl (lv_at hl 0 rfl) ?_
      refine lv_iload_n hx hb d_Mo_fill_25 rfl (lv_at hl 1 rfl) ?_
      refine lv_iload_n hx hb d_Mo_fill_26 rfl (lv_at hl 2 rfl) ?_
      refine g_V C0 (k_Mo_comes l G o S (ovr S sp 541) bf sv iz ((mFq pd ln rr).2.2.1) pd ln sts ((mFq pd ln rr).2.1) ((mFq pd ln rr).1) i j (by omega) (by omega) hM hRq) co_Mo_comes im_Mo_comes se_Mo_comes in_Mo gc_Mo_comes ml_Mo_113 ⟨Nat.le_of_ble_eq_true rfl, Nat.le_of_ble_eq_true rfl⟩ hK hR_5.1 rfl ⟨hR_5.1, hR_5.2.1, hR_5.2.2.1, hR_5.2.2.2.1, hR_5.2.2.2.2.1, hR_5.2.2.2.2.2.1, hR_5.2.2.2.2.2.2.1, hR_5.2.2.2.2.2.2.2⟩ rfl hl.1 rfl (Nat.le_of_ble_eq_true rfl) d_Mo_fill_27 ⟨Nat.le_of_ble_eq_true rfl, Nat.le_of_ble_eq_true rfl⟩ (g_wi (free := gRg o (o + 8)) hL (fun _ h => h) (fun H_7 locs hL ⟨hR_8, hf_9⟩ => ?_))
      refine lv_istore_n (lv' := [(3, .int (cmR S ((mFq pd ln rr).2.2.1) pd ((mFq pd ln rr).2.1) i j)), (0, .ref o), (1, .int (nI i)), (2, .int (nI j))]) hx hb d_Mo_fill_30 rfl hl (by decide) rfl (fun ls hl => ?_)
      refine lv_iload_n hx hb d_Mo_fill_31 rfl (lv_at hl 0 rfl) ?_
      refine lv_if_ge (tgt := 41) hx hb d_Mo_fill_32 (by decide) (fun c_32 => ?_) (fun c_32 => ?_)
      · skip
        have hpos := cmR_pos (Int32.not_lt.mpr c_32)
        have hT := cmA_ok (c := i) (k := j) hM hRq _ (Nat.le_refl _)
        have hkn := cmA_kn hRq _ (Nat.le_refl _) hpos.1 hpos.2.1
        refine lv_iload_n hx hb d_Mo_fill_41 rfl (lv_at hl 2 rfl) ?_
        refine lv_iload_n hx hb d_Mo_fill_42 rfl (lv_at hl 3 rfl) ?_
        refine g_S C0 (k_Mo_l l G i j) co_Mo_l sm_Mo_l in_Mo gc_Mo_l ml_Mo_68 ⟨Nat.le_of_ble_eq_true rfl, Nat.le_of_ble_eq_true rfl⟩ hK trivial rfl hl.1 rfl (Nat.le_of_ble_eq_true rfl) d_Mo_fill_43 ⟨Nat.le_of_ble_eq_true rfl, Nat.le_of_ble_eq_true rfl⟩ (g_r rfl ?_)
        refine lv_istore (lv' := [(4, .int (nI (409 + 27 * i + 9 * j))), (3, .int (cmR S ((mFq pd ln rr).2.2.1) pd ((mFq pd ln rr).2.1) i j)), (0, .ref o), (1, .int (nI i)), (2, .int (nI j))]) hx hb d_Mo_fill_46 hl (by decide) rfl (fun ls hl => ?_)
        refine lv_iconst (v := nI 0) hx hb d_Mo_fill_48 (by decide +kernel) ?_
        refine lv_istore (lv' := [(5, .int (nI 0)), (4, .int (nI (409 + 27 * i + 9 * j))), (3, .int (cmR S ((mFq pd ln rr).2.2.1) pd ((mFq pd ln rr).2.1) i j)), (0, .ref o), (1, .int (nI i)), (2, .int (nI j))]) hx hb d_Mo_fill_49 hl (by decide) rfl (fun ls hl => ?_)
        have lp51 : ∀ (fu : Nat) (n : Nat) (H : Heap) (locs : List Loc), ((mFq pd ln rr).2.1 - n) < fu → n ≤ (mFq pd ln rr).2.1 → (∀ qq ∈ locs, (gRg o (o + 8)) qq.base) → MAt G o (flM (cmA S (mFq pd ln rr).2.2.1 pd (mFq pd ln rr).2.1 i j (mFq pd ln rr).2.1).1 (mFq pd ln rr).2.2.1 pd (409 + 27 * i + 9 * j) n) (ovr S sp 541) bf sv iz ((mFq pd ln rr).2.2.1) pd ln sts ((mFq pd ln rr).2.1) ((mFq pd ln rr).1) H → gFr o (o + 8) s.heap H → ∀ ls : Array Slot, lv_has ls 6 [(5, .int (nI n)), (4, .int (nI (409 + 27 * i + 9 * j))), (3, .int (cmR S ((mFq pd ln rr).2.2.1) pd ((mFq pd ln rr).2.1) i j)), (0, .ref o), (1, .int (nI i)), (2, .int (nI j))] → W p l e ({ frames := 4, cells := 0, slots := 0, locals := 99 } : Room) s m args below meth c H locs 0 0 (MQ below (gQ (wi (.int (mxFill S sp bf sv iz rr pd ln sts td ac (nI i) (nI j)).1) (fun H H1 => MAtX G o (mxFill S sp bf sv iz rr pd ln sts td ac (nI i) (nI j)).2 H1 ∧ gFr o (o + 8) H H1))) args s 0 0 (gRg o (o + 8))) (F0 m 51 ls []) := by
          intro fu
          induction fu with
          | zero => intro n H locs hfu; exact absurd hfu (Nat.not_lt_zero _)
          | succ fu ih51 =>
            intro n H locs hfu hn hL hP hF ls hl
            have hfn := flM_ok hT.1 hRq hi hj hpos.2.2 hkn n hn
            have hfq := hfn.2.1
            refine lv_iload hx hb d_Mo_fill_51 (lv_at hl 0 rfl) ?_
            refine lv_aload_n hx hb d_Mo_fill_53 rfl (lv_at hl 3 rfl) ?_
            refine g_get C0 hK il_Mo hP.1 rfl 9 (by decide) fl_Mo_51 rfl d_Mo_fill_54 ?_
            refine g_cge (tgt := 100) C0 d_Mo_fill_57 (by decide) (by first | omega | exact hM.b (by omega) | exact hR.p (by omega)) (by first | omega | exact hM.b (by omega) | exact hR.p (by omega)) (fun c_57 => ?_) (fun c_57 => ?_)
            · skip
              have en : n = (mFq pd ln rr).2.1 := by omega
              subst en
              refine lv_aload_n hx hb d_Mo_fill_100 rfl (lv_at hl 3 rfl) ?_
              refine lv_iconst (v := nI 0) hx hb d_Mo_fill_101 (by decide +kernel) ?_
              refine g_put (free := gRg o (o + 8)) C0 hK il_Mo tk_Mo nm_Mo hP.1 rfl 7 (by decide) fl_Mo_44 rfl rfl rfl (Nat.le_of_ble_eq_true rfl) d_Mo_fill_102 hL (gRg.mk (by omega) (by omega)) (fun H_10 locs hL hA_11 hc_12 => ?_)
              have hA_11 : gE G o (eO 6 [.ref (o + 1), .ref (o + 2), .ref (o + 3), .ref (o + 4), .ref (o + 5), .ref (o + 6), .ref (o + 7), .int (nI 0), .int (nI sts), .int (nI ((mFq pd ln rr).2.1)), .int (nI ((mFq pd ln rr).1))]) H_10 := hA_11
              refine lv_aload_n hx hb d_Mo_fill_105 rfl (lv_at hl 3 rfl) ?_
              refine lv_aload_n hx hb d_Mo_fill_106 rfl (lv_at hl 3 rfl) ?_
              refine g_get C0 hK il_Mo hA_11 rfl 0 (by decide) fl_Mo_7 rfl d_Mo_fill_107 ?_
              refine lv_iload hx hb d_Mo_fill_110 (lv_at hl 1 rfl) ?_
              refine g_iald C0 hK (hP.2.1.ch hc_12 (by omega)) (by omega) (by omega) d_Mo_fill_112 ?_
              refine g_V C0 (k_Mo_recorded l G o (flM (cmA S (mFq pd ln rr).2.2.1 pd (mFq pd ln rr).2.1 i j (mFq pd ln rr).2.1).1 (mFq pd ln rr).2.2.1 pd (409 + 27 * i + 9 * j) (mFq pd ln rr).2.1) (ovr S sp 541) bf sv iz ((mFq pd ln rr).2.2.1) pd 0 sts ((mFq pd ln rr).2.1) ((mFq pd ln rr).1) (nI ((flM (cmA S (mFq pd ln rr).2.2.1 pd (mFq pd ln rr).2.1 i j (mFq pd ln rr).2.1).1 (mFq pd ln rr).2.2.1 pd (409 + 27 * i + 9 * j) (mFq pd ln rr).2.1) (409 + 27 * i + 9 * j))) (by omega)) co_Mo_recorded im_Mo_recorded se_Mo_recorded in_Mo gc_Mo_recorded ml_Mo_88 ⟨Nat.le_of_ble_eq_true rfl, Nat.le_of_ble_eq_true rfl⟩ hK hA_11 rfl ⟨hA_11, (hP.2.1.ch hc_12 (by omega)), (hP.2.2.1.ch hc_12 (by omega)), (hP.2.2.2.1.ch hc_12 (by omega)), (hP.2.2.2.2.1.ch hc_12 (by omega)), (hP.2.2.2.2.2.1.ch hc_12 (by omega)), (hP.2.2.2.2.2.2.1.ch hc_12 (by omega)), (hP.2.2.2.2.2.2.2.ch hc_12 (by omega))⟩ rfl hl.1 rfl (Nat.le_of_ble_eq_true rfl) d_Mo_fill_113 ⟨Nat.le_of_ble_eq_true rfl, Nat.le_of_ble_eq_true rfl⟩ (g_wi (free := gRg o (o + 8)) hL (fun _ h => h) (fun H_13 locs hL ⟨hR_14, hf_15⟩ => ?_))
              refine g_iret C0 hlk hr d_Mo_fill_116 hL ?_
              exact ⟨rdI (by rw [mxFill, c_5, if_pos rfl, nI_clamp hi31, nI_clamp hj31, mFil, if_pos c_14, if_neg (Int32.not_lt.mpr c_32), mRec] <;> rfl), (by rw [mxFill, c_5, if_pos rfl, nI_clamp hi31, nI_clamp hj31, mFil, if_pos c_14, if_neg (Int32.not_lt.mpr c_32), mRec]; exact ⟨hR_14.1, hR_14.2.1, hR_14.2.2.1, hR_14.2.2.2.1, hR_14.2.2.2.2.1, hR_14.2.2.2.2.2.1, hR_14.2.2.2.2.2.2.1, hR_14.2.2.2.2.2.2.2⟩), ((hF.tr (gFr.ch hc_12 (by omega) (by omega))).tr hf_15)⟩
            · skip
              refine lv_aload_n hx hb d_Mo_fill_60 rfl (lv_at hl 3 rfl) ?_
              refine g_get C0 hK il_Mo hP.1 rfl 0 (by decide) fl_Mo_7 rfl d_Mo_fill_61 ?_
              refine lv_iload hx hb d_Mo_fill_64 (lv_at hl 1 rfl) ?_
              refine lv_iconst (v := nI 1) hx hb d_Mo_fill_66 (by decide +kernel) ?_
              refine g_iadd C0 (z := 409 + 27 * i + 9 * j + 1) d_Mo_fill_67 rfl ?_
              refine lv_aload_n hx hb d_Mo_fill_68 rfl (lv_at hl 3 rfl) ?_
              refine g_get C0 hK il_Mo hP.1 rfl 0 (by decide) fl_Mo_7 rfl d_Mo_fill_69 ?_
              refine lv_iload hx hb d_Mo_fill_72 (lv_at hl 1 rfl) ?_
              refine g_iald C0 hK hP.2.1 (by omega) (by omega) d_Mo_fill_74 ?_
              refine g_iadd C0 (z := 409 + 27 * i + 9 * j + 1 + ((flM (cmA S (mFq pd ln rr).2.2.1 pd (mFq pd ln rr).2.1 i j (mFq pd ln rr).2.1).1 (mFq pd ln rr).2.2.1 pd (409 + 27 * i + 9 * j) n) (409 + 27 * i + 9 * j))) d_Mo_fill_75 rfl ?_
              refine lv_aload_n hx hb d_Mo_fill_76 rfl (lv_at hl 3 rfl) ?_
              refine lv_iload hx hb d_Mo_fill_77 (lv_at hl 0 rfl) ?_
              refine g_V C0 (k_Mo_known l G o (flM (cmA S (mFq pd ln rr).2.2.1 pd (mFq pd ln rr).2.1 i j (mFq pd ln rr).2.1).1 (mFq pd ln rr).2.2.1 pd (409 + 27 * i + 9 * j) n) (ovr S sp 541) bf sv iz ((mFq pd ln rr).2.2.1) pd ln sts ((mFq pd ln rr).2.1) ((mFq pd ln rr).1) n (by omega) hfn.1 hRq) co_Mo_known im_Mo_known se_Mo_known in_Mo gc_Mo_known ml_Mo_61 ⟨Nat.le_of_ble_eq_true rfl, Nat.le_of_ble_eq_true rfl⟩ hK hP.1 rfl ⟨hP.1, hP.2.1, hP.2.2.1, hP.2.2.2.1, hP.2.2.2.2.1, hP.2.2.2.2.2.1, hP.2.2.2.2.2.2.1, hP.2.2.2.2.2.2.2⟩ rfl hl.1 rfl (Nat.le_of_ble_eq_true rfl) d_Mo_fill_79 ⟨Nat.le_of_ble_eq_true rfl, Nat.le_of_ble_eq_true rfl⟩ (g_r rfl ?_)
              have hkn2 : mKn (flM (cmA S (mFq pd ln rr).2.2.1 pd (mFq pd ln rr).2.1 i j (mFq pd ln rr).2.1).1 (mFq pd ln rr).2.2.1 pd (409 + 27 * i + 9 * j) n) (mFq pd ln rr).2.2.1 pd n ≠ none := by rw [mKn_cg hRq (by omega) hT.1.n hfn.2.2]; exact hkn n (by omega)
              obtain ⟨v, hv⟩ := Option.ne_none_iff_exists'.mp hkn2
              rw [show oI (-6) (mKn (flM (cmA S (mFq pd ln rr).2.2.1 pd (mFq pd ln rr).2.1 i j (mFq pd ln rr).2.1).1 (mFq pd ln rr).2.2.1 pd (409 + 27 * i + 9 * j) n) (mFq pd ln rr).2.2.1 pd n) = nI v by rw [hv]; rfl]
              have hvl := mKn_lt hv
              have hn4 := hfn.1.n
              have hS : flM (cmA S (mFq pd ln rr).2.2.1 pd (mFq pd ln rr).2.1 i j (mFq pd ln rr).2.1).1 (mFq pd ln rr).2.2.1 pd (409 + 27 * i + 9 * j) (n + 1) = adL (flM (cmA S (mFq pd ln rr).2.2.1 pd (mFq pd ln rr).2.1 i j (mFq pd ln rr).2.1).1 (mFq pd ln rr).2.2.1 pd (409 + 27 * i + 9 * j) n) (409 + 27 * i + 9 * j) v := by
                show adL _ _ _ = _
                rw [hv]; rfl
              refine g_iast (free := gRg o (o + 8)) C0 hK hP.2.1 (by omega) (by omega) d_Mo_fill_82 hL (gRg.mk (by omega) (by omega)) (fun H_16 locs hL hA_17 hc_18 => ?_)
              refine lv_aload_n hx hb d_Mo_fill_83 rfl (lv_at hl 3 rfl) ?_
              refine g_get C0 hK il_Mo (hP.1.ch hc_18 (by omega)) rfl 0 (by decide) fl_Mo_7 rfl d_Mo_fill_84 ?_
              refine lv_iload hx hb d_Mo_fill_87 (lv_at hl 1 rfl) ?_
              refine lv_dup2_11 hx hb d_Mo_fill_89 rfl rfl ?_
              refine g_iald C0 hK hA_17 (by omega) (by omega) d_Mo_fill_90 ?_
              refine lv_iconst (v := nI 1) hx hb d_Mo_fill_91 (by decide +kernel) ?_
              refine g_iadd C0 (z := (va_up (flM (cmA S (mFq pd ln rr).2.2.1 pd (mFq pd ln rr).2.1 i j (mFq pd ln rr).2.1).1 (mFq pd ln rr).2.2.1 pd (409 + 27 * i + 9 * j) n) (409 + 27 * i + 9 * j + 1 + ((flM (cmA S (mFq pd ln rr).2.2.1 pd (mFq pd ln rr).2.1 i j (mFq pd ln rr).2.1).1 (mFq pd ln rr).2.2.1 pd (409 + 27 * i + 9 * j) n) (409 + 27 * i + 9 * j))) v) (409 + 27 * i + 9 * j) + 1) d_Mo_fill_92 rfl ?_
              refine g_iast (free := gRg o (o + 8)) C0 hK hA_17 (by omega) (by omega) d_Mo_fill_93 hL (gRg.mk (by omega) (by omega)) (fun H_19 locs hL hA_20 hc_21 => ?_)
              refine lv_iinc (v := (nI (n + 1))) (lv' := [(5, .int (nI (n + 1))), (4, .int (nI (409 + 27 * i + 9 * j))), (3, .int (cmR S ((mFq pd ln rr).2.2.1) pd ((mFq pd ln rr).2.1) i j)), (0, .ref o), (1, .int (nI i)), (2, .int (nI j))]) hx hb d_Mo_fill_94 hl (k := 0) rfl (gI_inc _) (by decide) rfl (fun ls hl => ?_)
              refine lv_goto (tgt := 51) hx hb d_Mo_fill_97 (by decide) ?_
              exact ih51 (n + 1) H_19 locs (by omega) (by omega) hL (by rw [hS]; exact ⟨((hP.1.ch hc_18 (by omega)).ch hc_21 (by omega)), hA_20, ((hP.2.2.1.ch hc_18 (by omega)).ch hc_21 (by omega)), ((hP.2.2.2.1.ch hc_18 (by omega)).ch hc_21 (by omega)), ((hP.2.2.2.2.1.ch hc_18 (by omega)).ch hc_21 (by omega)), ((hP.2.2.2.2.2.1.ch hc_18 (by omega)).ch hc_21 (by omega)), ((hP.2.2.2.2.2.2.1.ch hc_18 (by omega)).ch hc_21 (by omega)), ((hP.2.2.2.2.2.2.2.ch hc_18 (by omega)).ch hc_21 (by omega))⟩) ((hF.tr (gFr.ch hc_18 (by omega) (by omega))).tr (gFr.ch hc_21 (by omega) (by omega))) ls (lv_sub hl [0, 1, 2, 3, 4, 5] rfl)
        exact lp51 (((mFq pd ln rr).2.1 - 0) + 1) 0 H_7 locs (by omega) (by omega) hL (⟨hR_8.1, hR_8.2.1, hR_8.2.2.1, hR_8.2.2.2.1, hR_8.2.2.2.2.1, hR_8.2.2.2.2.2.1, hR_8.2.2.2.2.2.2.1, hR_8.2.2.2.2.2.2.2⟩) (((gFr.rf.tr hf_3).tr hf_6).tr hf_9) ls (lv_sub hl [0, 1, 2, 3, 4, 5] rfl)
      · skip
        refine lv_aload_n hx hb d_Mo_fill_35 rfl (lv_at hl 1 rfl) ?_
        refine g_V C0 (k_Mo_putBack l G o ((cmA S ((mFq pd ln rr).2.2.1) pd ((mFq pd ln rr).2.1) i j ((mFq pd ln rr).2.1)).1) (ovr S sp 541) bf sv iz ((mFq pd ln rr).2.2.1) pd ln sts ((mFq pd ln rr).2.1) ((mFq pd ln rr).1) ) co_Mo_putBack im_Mo_putBack se_Mo_putBack in_Mo gc_Mo_putBack ml_Mo_116 ⟨Nat.le_of_ble_eq_true rfl, Nat.le_of_ble_eq_true rfl⟩ hK hR_8.1 rfl ⟨hR_8.1, hR_8.2.1, hR_8.2.2.1, hR_8.2.2.2.1, hR_8.2.2.2.2.1, hR_8.2.2.2.2.2.1, hR_8.2.2.2.2.2.2.1, hR_8.2.2.2.2.2.2.2⟩ rfl hl.1 rfl (Nat.le_of_ble_eq_true rfl) d_Mo_fill_36 ⟨Nat.le_of_ble_eq_true rfl, Nat.le_of_ble_eq_true rfl⟩ (g_wv (free := gRg o (o + 8)) hL (fun _ h => h) (fun H_22 locs hL ⟨hR_23, hf_24⟩ => ?_))
        refine lv_iload_n hx hb d_Mo_fill_39 rfl (lv_at hl 0 rfl) ?_
        refine g_iret C0 hlk hr d_Mo_fill_40 hL ?_
        exact ⟨rdI (by rw [mxFill, c_5, if_pos rfl, nI_clamp hi31, nI_clamp hj31, mFil, if_pos c_14, if_pos (Int32.not_le.mp c_32)] <;> rfl), (by rw [mxFill, c_5, if_pos rfl, nI_clamp hi31, nI_clamp hj31, mFil, if_pos c_14, if_pos (Int32.not_le.mp c_32)]; exact ⟨hR_23.1, hR_23.2.1, hR_23.2.2.1, hR_23.2.2.2.1, hR_23.2.2.2.2.1, hR_23.2.2.2.2.2.1, hR_23.2.2.2.2.2.2.1, hR_23.2.2.2.2.2.2.2⟩), ((((gFr.rf.tr hf_3).tr hf_6).tr hf_9).tr hf_24)⟩
    · skip
      refine lv_bipush (v := -3) hx hb d_Mo_fill_17 (by decide +kernel) ?_
      refine g_iret C0 hlk hr d_Mo_fill_19 hL ?_
      exact ⟨rdI (by rw [mxFill, c_5, if_pos rfl, nI_clamp hi31, nI_clamp hj31, mFil, if_neg c_14, zFq] <;> rfl), (by rw [mxFill, c_5, if_pos rfl, nI_clamp hi31, nI_clamp hj31, mFil, if_neg c_14, zFq]; exact ⟨hR_2.1, hR_2.2.1, hR_2.2.2.1, hR_2.2.2.2.1, hR_2.2.2.2.2.1, hR_2.2.2.2.2.2.1, hR_2.2.2.2.2.2.2.1, hR_2.2.2.2.2.2.2.2⟩), (gFr.rf.tr hf_3)⟩
  · skip
    refine lv_iconst (v := -1) hx hb d_Mo_fill_8 (by decide +kernel) ?_
    refine g_iret C0 hlk hr d_Mo_fill_9 (t_nil (free := gRg o (o + 8))) ?_
    exact ⟨rdI (by rw [mxFill, c_5] <;> rfl), (by rw [mxFill, c_5]; exact ⟨hP.1, hP.2.1, hP.2.2.1, hP.2.2.2.1, hP.2.2.2.2.1, hP.2.2.2.2.2.1, hP.2.2.2.2.2.2.1, hP.2.2.2.2.2.2.2⟩), gFr.rf⟩

set_option maxHeartbeats 4000000 in
set_option maxRecDepth 100000 in
theorem k_Mo_endYear (l : Launch) (G : gT) (o : Nat) (S sp bf sv iz rr pd : Nat → Nat) (ln sts td ac : Nat) (hs6 : sts ≤ 6) (hM : mOk S) (hB : ∀ k, k < 541 → S k < 2 ^ 25) : gM l y_Mo_endYear c_Mo_endYear 3 (some .int) 3 69 0 0 G [.ref o] (fun H => MAt G o S sp bf sv iz rr pd ln sts td ac H) (wi (.int (mxEnd S sp bf sv iz rr pd ln sts td ac).1) (fun H H1 => MAtX G o (mxEnd S sp bf sv iz rr pd ln sts td ac).2 H1 ∧ gFr o (o + 8) H H1)) (gRg o (o + 8)) := by
  refine g_enter "GaleNamesModel" (by decide +kernel) rfl (Nat.le_of_ble_eq_true rfl) ?_
  intro p e s m args below meth c C0 hlk hr hnm hP hK ls hl
  have hx := C0.1
  have hb := C0.2.1
  have hl : lv_has ls 3 [(0, .ref o)] := hl
  have hn40 := hM.n
  have hg16 := hM.g
  have hk10 := hM.k
  refine lv_aload_n hx hb d_Mo_endYear_0 rfl (lv_at hl 0 rfl) ?_
  refine g_get C0 hK il_Mo hP.1 rfl 0 (by decide) fl_Mo_7 rfl d_Mo_endYear_1 ?_
  refine lv_iconst (v := nI 3) hx hb d_Mo_endYear_4 (by decide +kernel) ?_
  refine g_iald C0 hK hP.2.1 (by omega) (by omega) d_Mo_endYear_5 ?_
  refine lv_sipush (v := nI 999) hx hb d_Mo_endYear_6 (by decide +kernel) ?_
  refine g_cne (tgt := 15) C0 d_Mo_endYear_9 (by decide) (by first | omega | exact hM.b (by omega) | exact hR.p (by omega)) (by first | omega | exact hM.b (by omega) | exact hR.p (by omega)) (fun c_9 => ?_) (fun c_9 => ?_)
  · skip
    refine lv_aload_n hx hb d_Mo_endYear_15 rfl (lv_at hl 0 rfl) ?_
    refine g_V C0 (k_Mo_hold l G o S sp bf sv iz rr pd ln sts td ac ) co_Mo_hold im_Mo_hold se_Mo_hold in_Mo gc_Mo_hold ml_Mo_85 ⟨Nat.le_of_ble_eq_true rfl, Nat.le_of_ble_eq_true rfl⟩ hK hP.1 rfl ⟨hP.1, hP.2.1, hP.2.2.1, hP.2.2.2.1, hP.2.2.2.2.1, hP.2.2.2.2.2.1, hP.2.2.2.2.2.2.1, hP.2.2.2.2.2.2.2⟩ rfl hl.1 rfl (Nat.le_of_ble_eq_true rfl) d_Mo_endYear_16 ⟨Nat.le_of_ble_eq_true rfl, Nat.le_of_ble_eq_true rfl⟩ (g_wv (free := gRg o (o + 8)) (t_nil (free := gRg o (o + 8))) (fun _ h => h) (fun H_1 locs hL ⟨hR_2, hf_3⟩ => ?_))
    refine lv_iconst (v := nI 0) hx hb d_Mo_endYear_19 (by decide +kernel) ?_
    refine lv_istore_n (lv' := [(1, .int (nI 0)), (0, .ref o)]) hx hb d_Mo_endYear_20 rfl hl (by decide) rfl (fun ls hl => ?_)
    refine lv_iconst (v := nI 0) hx hb d_Mo_endYear_21 (by decide +kernel) ?_
    refine lv_istore_n (lv' := [(2, .int (nI 0)), (1, .int (nI 0)), (0, .ref o)]) hx hb d_Mo_endYear_22 rfl hl (by decide) rfl (fun ls hl => ?_)
    have lp23 : ∀ (fu : Nat) (i : Nat) (H : Heap) (locs : List Loc), (S 7 - i) < fu → i ≤ S 7 → (∀ qq ∈ locs, (gRg o (o + 8)) qq.base) → MAt G o (oweS S i) (ovr S sp 541) bf sv iz rr pd ln sts td ac H → gFr o (o + 8) s.heap H → ∀ ls : Array Slot, lv_has ls 3 [(2, .int (nI i)), (1, .int (nI 0)), (0, .ref o)] → W p l e ({ frames := 3, cells := 0, slots := 0, locals := 69 } : Room) s m args below meth c H locs 0 0 (MQ below (gQ (wi (.int (mxEnd S sp bf sv iz rr pd ln sts td ac).1) (fun H H1 => MAtX G o (mxEnd S sp bf sv iz rr pd ln sts td ac).2 H1 ∧ gFr o (o + 8) H H1))) args s 0 0 (gRg o (o + 8))) (F0 m 23 ls []) := by
      intro fu
      induction fu with
      | zero => intro i H locs hfu; exact absurd hfu (Nat.not_lt_zero _)
      | succ fu ih23 =>
        intro i H locs hfu hi hL hP hF ls hl
        have hoi := oweS_ok hM hB i hi
        have e7 : oweS S i 7 = S 7 := hoi.2.1 7 (by decide)
        refine lv_iload_n hx hb d_Mo_endYear_23 rfl (lv_at hl 0 rfl) ?_
        refine lv_aload_n hx hb d_Mo_endYear_24 rfl (lv_at hl 2 rfl) ?_
        refine g_get C0 hK il_Mo hP.1 rfl 0 (by decide) fl_Mo_7 rfl d_Mo_endYear_25 ?_
        refine lv_bipush (v := nI 7) hx hb d_Mo_endYear_28 (by decide +kernel) ?_
        refine g_iald C0 hK hP.2.1 (by omega) (by omega) d_Mo_endYear_30 ?_
        refine g_cge (tgt := 81) C0 d_Mo_endYear_31 (by decide) (by first | omega | exact hM.b (by omega) | exact hR.p (by omega)) (hoi.1.b (by omega)) (fun c_31 => ?_) (fun c_31 => ?_)
        · skip
          have ei : i = S 7 := by omega
          subst ei
          have hO := oweS_ok hM hB (S 7) (Nat.le_refl _)
          have e4 : oweS S (S 7) 4 = S 4 := hO.2.1 4 (by decide)
          refine lv_iconst (v := nI 0) hx hb d_Mo_endYear_81 (by decide +kernel) ?_
          refine lv_istore_n (lv' := [(2, .int (nI 0)), (1, .int (nI 0)), (0, .ref o)]) hx hb d_Mo_endYear_82 rfl hl (by decide) rfl (fun ls hl => ?_)
          have lp83 : ∀ (fu : Nat) (n : Nat) (x : Nat) (H : Heap) (locs : List Loc), (S 4 - n) < fu → n ≤ S 4 → x = (rhM (oweS S (S 7)) n).2 → (∀ qq ∈ locs, (gRg o (o + 8)) qq.base) → MAt G o ((rhM (oweS S (S 7)) n).1) (ovr S sp 541) bf sv iz rr pd ln sts td ac H → gFr o (o + 8) s.heap H → ∀ ls : Array Slot, lv_has ls 3 [(2, .int (nI n)), (1, .int (nI x)), (0, .ref o)] → W p l e ({ frames := 3, cells := 0, slots := 0, locals := 69 } : Room) s m args below meth c H locs 0 0 (MQ below (gQ (wi (.int (mxEnd S sp bf sv iz rr pd ln sts td ac).1) (fun H H1 => MAtX G o (mxEnd S sp bf sv iz rr pd ln sts td ac).2 H1 ∧ gFr o (o + 8) H H1))) args s 0 0 (gRg o (o + 8))) (F0 m 83 ls []) := by
            intro fu
            induction fu with
            | zero => intro n x H locs hfu; exact absurd hfu (Nat.not_lt_zero _)
            | succ fu ih83 =>
              intro n x H locs hfu hn hx2 hL hP hF ls hl
              have hrn := rhM_ok hO.1 n (by omega)
              have e4n : (rhM (oweS S (S 7)) n).1 4 = S 4 := (hrn.2.2 4 (Or.inl (by decide)) (by omega)).trans e4
              refine lv_iload_n hx hb d_Mo_endYear_83 rfl (lv_at hl 0 rfl) ?_
              refine lv_aload_n hx hb d_Mo_endYear_84 rfl (lv_at hl 2 rfl) ?_
              refine g_get C0 hK il_Mo hP.1 rfl 0 (by decide) fl_Mo_7 rfl d_Mo_endYear_85 ?_
              refine lv_iconst (v := nI 4) hx hb d_Mo_endYear_88 (by decide +kernel) ?_
              refine g_iald C0 hK hP.2.1 (by omega) (by omega) d_Mo_endYear_89 ?_
              refine g_cge (tgt := 121) C0 d_Mo_endYear_90 (by decide) (by first | omega | exact hM.b (by omega) | exact hR.p (by omega)) (hrn.1.b (by omega)) (fun c_90 => ?_) (fun c_90 => ?_)
              · skip
                have en : n = S 4 := by omega
                subst en
                refine lv_aload_n hx hb d_Mo_endYear_121 rfl (lv_at hl 2 rfl) ?_
                refine g_get C0 hK il_Mo hP.1 rfl 0 (by decide) fl_Mo_7 rfl d_Mo_endYear_122 ?_
                refine lv_iconst (v := nI 5) hx hb d_Mo_endYear_125 (by decide +kernel) ?_
                refine lv_iconst (v := nI 0) hx hb d_Mo_endYear_126 (by decide +kernel) ?_
                refine g_iast (free := gRg o (o + 8)) C0 hK hP.2.1 (by omega) (by omega) d_Mo_endYear_127 hL (gRg.mk (by omega) (by omega)) (fun H_4 locs hL hA_5 hc_6 => ?_)
                refine lv_aload_n hx hb d_Mo_endYear_128 rfl (lv_at hl 2 rfl) ?_
                refine g_get C0 hK il_Mo (hP.1.ch hc_6 (by omega)) rfl 0 (by decide) fl_Mo_7 rfl d_Mo_endYear_129 ?_
                refine lv_iconst (v := nI 3) hx hb d_Mo_endYear_132 (by decide +kernel) ?_
                refine lv_dup2_11 hx hb d_Mo_endYear_133 rfl rfl ?_
                refine g_iald C0 hK hA_5 (by omega) (by omega) d_Mo_endYear_134 ?_
                refine lv_iconst (v := nI 1) hx hb d_Mo_endYear_135 (by decide +kernel) ?_
                refine g_iadd C0 (z := (va_up ((rhM (oweS S (S 7)) (S 4)).1) 5 0) 3 + 1) d_Mo_endYear_136 rfl ?_
                refine g_iast (free := gRg o (o + 8)) C0 hK hA_5 (by omega) (by omega) d_Mo_endYear_137 hL (gRg.mk (by omega) (by omega)) (fun H_7 locs hL hA_8 hc_9 => ?_)
                refine lv_aload_n hx hb d_Mo_endYear_138 rfl (lv_at hl 2 rfl) ?_
                refine lv_iload_n hx hb d_Mo_endYear_139 rfl (lv_at hl 1 rfl) ?_
                refine g_V C0 (k_Mo_recorded l G o (va_up (va_up ((rhM (oweS S (S 7)) (S 4)).1) 5 0) 3 ((va_up ((rhM (oweS S (S 7)) (S 4)).1) 5 0) 3 + 1)) (ovr S sp 541) bf sv iz rr pd ln sts td ac (nI x) (by omega)) co_Mo_recorded im_Mo_recorded se_Mo_recorded in_Mo gc_Mo_recorded ml_Mo_88 ⟨Nat.le_of_ble_eq_true rfl, Nat.le_of_ble_eq_true rfl⟩ hK ((hP.1.ch hc_6 (by omega)).ch hc_9 (by omega)) rfl ⟨((hP.1.ch hc_6 (by omega)).ch hc_9 (by omega)), hA_8, ((hP.2.2.1.ch hc_6 (by omega)).ch hc_9 (by omega)), ((hP.2.2.2.1.ch hc_6 (by omega)).ch hc_9 (by omega)), ((hP.2.2.2.2.1.ch hc_6 (by omega)).ch hc_9 (by omega)), ((hP.2.2.2.2.2.1.ch hc_6 (by omega)).ch hc_9 (by omega)), ((hP.2.2.2.2.2.2.1.ch hc_6 (by omega)).ch hc_9 (by omega)), ((hP.2.2.2.2.2.2.2.ch hc_6 (by omega)).ch hc_9 (by omega))⟩ rfl hl.1 rfl (Nat.le_of_ble_eq_true rfl) d_Mo_endYear_140 ⟨Nat.le_of_ble_eq_true rfl, Nat.le_of_ble_eq_true rfl⟩ (g_wi (free := gRg o (o + 8)) hL (fun _ h => h) (fun H_10 locs hL ⟨hR_11, hf_12⟩ => ?_))
                refine g_iret C0 hlk hr d_Mo_endYear_143 hL ?_
                exact ⟨rdI (by rw [mxEnd, if_neg c_9, mRec, hx2]), (by rw [mxEnd, if_neg c_9, mRec]; exact ⟨hR_11.1, hR_11.2.1, hR_11.2.2.1, hR_11.2.2.2.1, hR_11.2.2.2.2.1, hR_11.2.2.2.2.2.1, hR_11.2.2.2.2.2.2.1, hR_11.2.2.2.2.2.2.2⟩), (((hF.tr (gFr.ch hc_6 (by omega) (by omega))).tr (gFr.ch hc_9 (by omega) (by omega))).tr hf_12)⟩
              · skip
                refine lv_aload_n hx hb d_Mo_endYear_93 rfl (lv_at hl 2 rfl) ?_
                refine lv_iload_n hx hb d_Mo_endYear_94 rfl (lv_at hl 0 rfl) ?_
                refine g_V C0 (k_Mo_harmOf l G o ((rhM (oweS S (S 7)) n).1) (ovr S sp 541) bf sv iz rr pd ln sts td ac n (by omega) hrn.1) co_Mo_harmOf im_Mo_harmOf se_Mo_harmOf in_Mo gc_Mo_harmOf ml_Mo_129 ⟨Nat.le_of_ble_eq_true rfl, Nat.le_of_ble_eq_true rfl⟩ hK hP.1 rfl ⟨hP.1, hP.2.1, hP.2.2.1, hP.2.2.2.1, hP.2.2.2.2.1, hP.2.2.2.2.2.1, hP.2.2.2.2.2.2.1, hP.2.2.2.2.2.2.2⟩ rfl hl.1 rfl (Nat.le_of_ble_eq_true rfl) d_Mo_endYear_95 ⟨Nat.le_of_ble_eq_true rfl, Nat.le_of_ble_eq_true rfl⟩ (g_r rfl ?_)
                refine lv_aload_n hx hb d_Mo_endYear_98 rfl (lv_at hl 2 rfl) ?_
                refine g_get C0 hK il_Mo hP.1 rfl 0 (by decide) fl_Mo_7 rfl d_Mo_endYear_99 ?_
                refine lv_iconst (v := nI 0) hx hb d_Mo_endYear_102 (by decide +kernel) ?_
                refine g_iald C0 hK hP.2.1 (by omega) (by omega) d_Mo_endYear_103 ?_
                refine g_clt (tgt := 115) C0 d_Mo_endYear_104 (by decide) (mHm_lt hrn.1 _) (hrn.1.b (by omega)) (fun c_104 => ?_) (fun c_104 => ?_)
                · skip
                  refine lv_iinc (v := (nI (n + 1))) (lv' := [(2, .int (nI (n + 1))), (1, .int (nI x)), (0, .ref o)]) hx hb d_Mo_endYear_115 hl (k := 0) rfl (gI_inc _) (by decide) rfl (fun ls hl => ?_)
                  refine lv_goto (tgt := 83) hx hb d_Mo_endYear_118 (by decide) ?_
                  exact ih83 (n + 1) x H locs (by omega) (by omega) (by rw [rhM_f (Nat.not_le.mpr c_104)]; exact hx2) hL (by rw [rhM_f (Nat.not_le.mpr c_104)]; exact ⟨hP.1, hP.2.1, hP.2.2.1, hP.2.2.2.1, hP.2.2.2.2.1, hP.2.2.2.2.2.1, hP.2.2.2.2.2.2.1, hP.2.2.2.2.2.2.2⟩) hF ls (lv_sub hl [0, 1, 2] rfl)
                · skip
                  refine lv_aload_n hx hb d_Mo_endYear_107 rfl (lv_at hl 2 rfl) ?_
                  refine lv_iload_n hx hb d_Mo_endYear_108 rfl (lv_at hl 0 rfl) ?_
                  refine g_V C0 (k_Mo_retires l G o ((rhM (oweS S (S 7)) n).1) (ovr S sp 541) bf sv iz rr pd ln sts td ac n (by omega) hrn.1) co_Mo_retires im_Mo_retires se_Mo_retires in_Mo gc_Mo_retires ml_Mo_132 ⟨Nat.le_of_ble_eq_true rfl, Nat.le_of_ble_eq_true rfl⟩ hK hP.1 rfl ⟨hP.1, hP.2.1, hP.2.2.1, hP.2.2.2.1, hP.2.2.2.2.1, hP.2.2.2.2.2.1, hP.2.2.2.2.2.2.1, hP.2.2.2.2.2.2.2⟩ rfl hl.1 rfl (Nat.le_of_ble_eq_true rfl) d_Mo_endYear_109 ⟨Nat.le_of_ble_eq_true rfl, Nat.le_of_ble_eq_true rfl⟩ (g_wv (free := gRg o (o + 8)) hL (fun _ h => h) (fun H_13 locs hL ⟨hR_14, hf_15⟩ => ?_))
                  refine lv_iinc (v := (nI (x + 1))) (lv' := [(1, .int (nI (x + 1))), (2, .int (nI n)), (0, .ref o)]) hx hb d_Mo_endYear_112 hl (k := 1) rfl (gI_inc _) (by decide) rfl (fun ls hl => ?_)
                  refine lv_iinc (v := (nI (n + 1))) (lv' := [(2, .int (nI (n + 1))), (1, .int (nI (x + 1))), (0, .ref o)]) hx hb d_Mo_endYear_115 hl (k := 1) rfl (gI_inc _) (by decide) rfl (fun ls hl => ?_)
                  refine lv_goto (tgt := 83) hx hb d_Mo_endYear_118 (by decide) ?_
                  exact ih83 (n + 1) (x + 1) H_13 locs (by omega) (by omega) (by rw [rhM_t c_104, hx2]) hL (by rw [rhM_t c_104]; exact ⟨hR_14.1, hR_14.2.1, hR_14.2.2.1, hR_14.2.2.2.1, hR_14.2.2.2.2.1, hR_14.2.2.2.2.2.1, hR_14.2.2.2.2.2.2.1, hR_14.2.2.2.2.2.2.2⟩) (hF.tr hf_15) ls (lv_sub hl [0, 1, 2] rfl)
          exact lp83 ((S 4 - 0) + 1) 0 0 H locs (by omega) (by omega) rfl hL (⟨hP.1, hP.2.1, hP.2.2.1, hP.2.2.2.1, hP.2.2.2.2.1, hP.2.2.2.2.2.1, hP.2.2.2.2.2.2.1, hP.2.2.2.2.2.2.2⟩) hF ls (lv_sub hl [0, 1, 2] rfl)
        · skip
          refine lv_aload_n hx hb d_Mo_endYear_34 rfl (lv_at hl 2 rfl) ?_
          refine g_get C0 hK il_Mo hP.1 rfl 0 (by decide) fl_Mo_7 rfl d_Mo_endYear_35 ?_
          refine lv_iload_n hx hb d_Mo_endYear_38 rfl (lv_at hl 0 rfl) ?_
          refine g_S C0 (k_Mo_k l G i) co_Mo_k sm_Mo_k in_Mo gc_Mo_k ml_Mo_126 ⟨Nat.le_of_ble_eq_true rfl, Nat.le_of_ble_eq_true rfl⟩ hK trivial rfl hl.1 rfl (Nat.le_of_ble_eq_true rfl) d_Mo_endYear_39 ⟨Nat.le_of_ble_eq_true rfl, Nat.le_of_ble_eq_true rfl⟩ (g_r rfl ?_)
          refine lv_iconst (v := nI 1) hx hb d_Mo_endYear_42 (by decide +kernel) ?_
          refine g_iadd C0 (z := 511 + 3 * i + 1) d_Mo_endYear_43 rfl ?_
          refine lv_dup2_11 hx hb d_Mo_endYear_44 rfl rfl ?_
          refine g_iald C0 hK hP.2.1 (by omega) (by omega) d_Mo_endYear_45 ?_
          refine lv_aload_n hx hb d_Mo_endYear_46 rfl (lv_at hl 2 rfl) ?_
          refine lv_aload_n hx hb d_Mo_endYear_47 rfl (lv_at hl 2 rfl) ?_
          refine g_get C0 hK il_Mo hP.1 rfl 0 (by decide) fl_Mo_7 rfl d_Mo_endYear_48 ?_
          refine lv_iload_n hx hb d_Mo_endYear_51 rfl (lv_at hl 0 rfl) ?_
          refine g_S C0 (k_Mo_k l G i) co_Mo_k sm_Mo_k in_Mo gc_Mo_k ml_Mo_126 ⟨Nat.le_of_ble_eq_true rfl, Nat.le_of_ble_eq_true rfl⟩ hK trivial rfl hl.1 rfl (Nat.le_of_ble_eq_true rfl) d_Mo_endYear_52 ⟨Nat.le_of_ble_eq_true rfl, Nat.le_of_ble_eq_true rfl⟩ (g_r rfl ?_)
          refine g_iald C0 hK hP.2.1 (by omega) (by omega) d_Mo_endYear_55 ?_
          refine g_V C0 (k_Mo_harmOf l G o (oweS S i) (ovr S sp 541) bf sv iz rr pd ln sts td ac ((oweS S i) (511 + 3 * i)) (hoi.1.b (by omega)) hoi.1) co_Mo_harmOf im_Mo_harmOf se_Mo_harmOf in_Mo gc_Mo_harmOf ml_Mo_129 ⟨Nat.le_of_ble_eq_true rfl, Nat.le_of_ble_eq_true rfl⟩ hK hP.1 rfl ⟨hP.1, hP.2.1, hP.2.2.1, hP.2.2.2.1, hP.2.2.2.2.1, hP.2.2.2.2.2.1, hP.2.2.2.2.2.2.1, hP.2.2.2.2.2.2.2⟩ rfl hl.1 rfl (Nat.le_of_ble_eq_true rfl) d_Mo_endYear_56 ⟨Nat.le_of_ble_eq_true rfl, Nat.le_of_ble_eq_true rfl⟩ (g_r rfl ?_)
          refine lv_aload_n hx hb d_Mo_endYear_59 rfl (lv_at hl 2 rfl) ?_
          refine g_get C0 hK il_Mo hP.1 rfl 0 (by decide) fl_Mo_7 rfl d_Mo_endYear_60 ?_
          refine lv_iconst (v := nI 1) hx hb d_Mo_endYear_63 (by decide +kernel) ?_
          refine g_iald C0 hK hP.2.1 (by omega) (by omega) d_Mo_endYear_64 ?_
          refine g_clt (tgt := 72) C0 d_Mo_endYear_65 (by decide) (mHm_lt hoi.1 _) (hoi.1.b (by omega)) (fun c_65 => ?_) (fun c_65 => ?_)
          · skip
            have c_65 := c_65
            refine lv_iconst (v := nI 0) hx hb d_Mo_endYear_72 (by decide +kernel) ?_
            refine g_iadd C0 (z := (oweS S i) (511 + 3 * i + 1)) d_Mo_endYear_73 rfl ?_
            refine g_iast (free := gRg o (o + 8)) C0 hK hP.2.1 (by omega) (by omega) d_Mo_endYear_74 hL (gRg.mk (by omega) (by omega)) (fun H_16 locs hL hA_17 hc_18 => ?_)
            refine lv_iinc (v := (nI (i + 1))) (lv' := [(2, .int (nI (i + 1))), (1, .int (nI 0)), (0, .ref o)]) hx hb d_Mo_endYear_75 hl (k := 0) rfl (gI_inc _) (by decide) rfl (fun ls hl => ?_)
            refine lv_goto (tgt := 23) hx hb d_Mo_endYear_78 (by decide) ?_
            exact ih23 (i + 1) H_16 locs (by omega) (by omega) hL (by rw [oweS_f (Nat.not_le.mpr c_65)]; exact ⟨(hP.1.ch hc_18 (by omega)), hA_17, (hP.2.2.1.ch hc_18 (by omega)), (hP.2.2.2.1.ch hc_18 (by omega)), (hP.2.2.2.2.1.ch hc_18 (by omega)), (hP.2.2.2.2.2.1.ch hc_18 (by omega)), (hP.2.2.2.2.2.2.1.ch hc_18 (by omega)), (hP.2.2.2.2.2.2.2.ch hc_18 (by omega))⟩) (hF.tr (gFr.ch hc_18 (by omega) (by omega))) ls (lv_sub hl [0, 1, 2] rfl)
          · skip
            refine lv_iconst (v := nI 1) hx hb d_Mo_endYear_68 (by decide +kernel) ?_
            refine lv_goto (tgt := 73) hx hb d_Mo_endYear_69 (by decide) ?_
            refine g_iadd C0 (z := (oweS S i) (511 + 3 * i + 1) + 1) d_Mo_endYear_73 rfl ?_
            refine g_iast (free := gRg o (o + 8)) C0 hK hP.2.1 (by omega) (by omega) d_Mo_endYear_74 hL (gRg.mk (by omega) (by omega)) (fun H_19 locs hL hA_20 hc_21 => ?_)
            refine lv_iinc (v := (nI (i + 1))) (lv' := [(2, .int (nI (i + 1))), (1, .int (nI 0)), (0, .ref o)]) hx hb d_Mo_endYear_75 hl (k := 0) rfl (gI_inc _) (by decide) rfl (fun ls hl => ?_)
            refine lv_goto (tgt := 23) hx hb d_Mo_endYear_78 (by decide) ?_
            exact ih23 (i + 1) H_19 locs (by omega) (by omega) hL (by rw [oweS_t c_65]; exact ⟨(hP.1.ch hc_21 (by omega)), hA_20, (hP.2.2.1.ch hc_21 (by omega)), (hP.2.2.2.1.ch hc_21 (by omega)), (hP.2.2.2.2.1.ch hc_21 (by omega)), (hP.2.2.2.2.2.1.ch hc_21 (by omega)), (hP.2.2.2.2.2.2.1.ch hc_21 (by omega)), (hP.2.2.2.2.2.2.2.ch hc_21 (by omega))⟩) (hF.tr (gFr.ch hc_21 (by omega) (by omega))) ls (lv_sub hl [0, 1, 2] rfl)
    exact lp23 ((S 7 - 0) + 1) 0 H_1 locs (by omega) (by omega) hL (⟨hR_2.1, hR_2.2.1, hR_2.2.2.1, hR_2.2.2.2.1, hR_2.2.2.2.2.1, hR_2.2.2.2.2.2.1, hR_2.2.2.2.2.2.2.1, hR_2.2.2.2.2.2.2.2⟩) (gFr.rf.tr hf_3) ls (lv_sub hl [0, 1, 2] rfl)
  · skip
    refine lv_bipush (v := -5) hx hb d_Mo_endYear_12 (by decide +kernel) ?_
    refine g_iret C0 hlk hr d_Mo_endYear_14 (t_nil (free := gRg o (o + 8))) ?_
    exact ⟨rdI (by rw [mxEnd, if_pos c_9] <;> rfl), (by rw [mxEnd, if_pos c_9]; exact ⟨hP.1, hP.2.1, hP.2.2.1, hP.2.2.2.1, hP.2.2.2.2.1, hP.2.2.2.2.2.1, hP.2.2.2.2.2.2.1, hP.2.2.2.2.2.2.2⟩), gFr.rf⟩

set_option maxHeartbeats 4000000 in
set_option maxRecDepth 100000 in
theorem k_Mo_namesake (l : Launch) (G : gT) (o : Nat) (S sp bf sv iz rr pd : Nat → Nat) (ln sts td ac : Nat) (hs6 : sts ≤ 6) (hln : ln ≤ 80) (hpd : ∀ k, k < 80 → pd k < 2 ^ 16) (hM : mOk S) : gM l y_Mo_namesake c_Mo_namesake 2 (some .int) 3 69 0 0 G [.ref o] (fun H => MAt G o S sp bf sv iz rr pd ln sts td ac H) (wi (.int (mxNk S sp bf sv iz rr pd ln sts td ac).1) (fun H H1 => MAtX G o (mxNk S sp bf sv iz rr pd ln sts td ac).2 H1 ∧ gFr o (o + 8) H H1)) (gRg o (o + 8)) := by
  refine g_enter "GaleNamesModel" (by decide +kernel) rfl (Nat.le_of_ble_eq_true rfl) ?_
  intro p e s m args below meth c C0 hlk hr hnm hP hK ls hl
  have hx := C0.1
  have hb := C0.2.1
  have hl : lv_has ls 2 [(0, .ref o)] := hl
  have hn40 := hM.n
  have hg16 := hM.g
  have hk10 := hM.k
  have hRq := mFq_rOk (rr := rr) hln hpd
  refine lv_aload_n hx hb d_Mo_namesake_0 rfl (lv_at hl 0 rfl) ?_
  refine g_V C0 (k_Mo_faultOf l G o S sp bf sv iz rr pd ln sts td ac (by omega) hpd) co_Mo_faultOf im_Mo_faultOf se_Mo_faultOf in_Mo gc_Mo_faultOf ml_Mo_109 ⟨Nat.le_of_ble_eq_true rfl, Nat.le_of_ble_eq_true rfl⟩ hK hP.1 rfl ⟨hP.1, hP.2.1, hP.2.2.1, hP.2.2.2.1, hP.2.2.2.2.1, hP.2.2.2.2.2.1, hP.2.2.2.2.2.2.1, hP.2.2.2.2.2.2.2⟩ rfl hl.1 rfl (Nat.le_of_ble_eq_true rfl) d_Mo_namesake_1 ⟨Nat.le_of_ble_eq_true rfl, Nat.le_of_ble_eq_true rfl⟩ (g_wi (free := gRg o (o + 8)) (t_nil (free := gRg o (o + 8))) (fun _ h => h) (fun H_1 locs hL ⟨hR_2, hf_3⟩ => ?_))
  refine lv_if_ge (tgt := 15) hx hb d_Mo_namesake_4 (by decide) (fun c_4 => ?_) (fun c_4 => ?_)
  · skip
    refine lv_bipush (v := -3) hx hb d_Mo_namesake_15 (by decide +kernel) ?_
    refine g_iret C0 hlk hr d_Mo_namesake_17 hL ?_
    exact ⟨rdI (by rw [mxNk, if_pos c_4, zFq]), (by rw [mxNk, if_pos c_4, zFq]; exact ⟨hR_2.1, hR_2.2.1, hR_2.2.2.1, hR_2.2.2.2.1, hR_2.2.2.2.2.1, hR_2.2.2.2.2.2.1, hR_2.2.2.2.2.2.2.1, hR_2.2.2.2.2.2.2.2⟩), (gFr.rf.tr hf_3)⟩
  · skip
    refine lv_aload_n hx hb d_Mo_namesake_7 rfl (lv_at hl 0 rfl) ?_
    refine g_get C0 hK il_Mo hR_2.1 rfl 9 (by decide) fl_Mo_51 rfl d_Mo_namesake_8 ?_
    refine lv_iconst (v := nI 1) hx hb d_Mo_namesake_11 (by decide +kernel) ?_
    refine g_cle (tgt := 18) C0 d_Mo_namesake_12 (by decide) (by have := (mFq_rOk (rr := rr) hln hpd).1; omega) (by first | omega | exact hM.b (by omega) | exact hR.p (by omega)) (fun c_12 => ?_) (fun c_12 => ?_)
    · skip
      refine lv_aload_n hx hb d_Mo_namesake_18 rfl (lv_at hl 0 rfl) ?_
      refine g_get C0 hK il_Mo hR_2.1 rfl 0 (by decide) fl_Mo_7 rfl d_Mo_namesake_19 ?_
      refine lv_bipush (v := nI 7) hx hb d_Mo_namesake_22 (by decide +kernel) ?_
      refine g_iald C0 hK hR_2.2.1 (by omega) (by omega) d_Mo_namesake_24 ?_
      refine lv_bipush (v := nI 10) hx hb d_Mo_namesake_25 (by decide +kernel) ?_
      refine g_ceq (tgt := 51) C0 d_Mo_namesake_27 (by decide) (by first | omega | exact hM.b (by omega) | exact hR.p (by omega)) (by first | omega | exact hM.b (by omega) | exact hR.p (by omega)) (fun c_27 => ?_) (fun c_27 => ?_)
      · skip
        refine lv_bipush (v := -4) hx hb d_Mo_namesake_51 (by decide +kernel) ?_
        refine g_iret C0 hlk hr d_Mo_namesake_53 hL ?_
        exact ⟨rdI (by rw [mxNk, if_neg c_4, if_neg (by omega), if_pos (Or.inl c_27), zFq]), (by rw [mxNk, if_neg c_4, if_neg (by omega), if_pos (Or.inl c_27), zFq]; exact ⟨hR_2.1, hR_2.2.1, hR_2.2.2.1, hR_2.2.2.2.1, hR_2.2.2.2.2.1, hR_2.2.2.2.2.2.1, hR_2.2.2.2.2.2.2.1, hR_2.2.2.2.2.2.2.2⟩), (gFr.rf.tr hf_3)⟩
      · skip
        refine lv_aload_n hx hb d_Mo_namesake_30 rfl (lv_at hl 0 rfl) ?_
        refine lv_iconst (v := nI 0) hx hb d_Mo_namesake_31 (by decide +kernel) ?_
        refine g_V C0 (k_Mo_known l G o S sp bf sv iz ((mFq pd ln rr).2.2.1) pd ln sts ((mFq pd ln rr).2.1) ((mFq pd ln rr).1) 0 (mFo_neg hln c_4) hM hRq) co_Mo_known im_Mo_known se_Mo_known in_Mo gc_Mo_known ml_Mo_61 ⟨Nat.le_of_ble_eq_true rfl, Nat.le_of_ble_eq_true rfl⟩ hK hR_2.1 rfl ⟨hR_2.1, hR_2.2.1, hR_2.2.2.1, hR_2.2.2.2.1, hR_2.2.2.2.2.1, hR_2.2.2.2.2.2.1, hR_2.2.2.2.2.2.2.1, hR_2.2.2.2.2.2.2.2⟩ rfl hl.1 rfl (Nat.le_of_ble_eq_true rfl) d_Mo_namesake_32 ⟨Nat.le_of_ble_eq_true rfl, Nat.le_of_ble_eq_true rfl⟩ (g_r rfl ?_)
        refine lv_bipush (v := -6) hx hb d_Mo_namesake_35 (by decide +kernel) ?_
        refine lv_icmp_ne (tgt := 54) hx hb d_Mo_namesake_37 (by decide) (fun c_37 => ?_) (fun c_37 => ?_)
        · skip
          have c_37 : ¬ mKn S (mFq pd ln rr).2.2.1 pd 0 = none := fun q => c_37 ((oI6_n (fun i h => Nat.lt_of_lt_of_le (mKn_lt h) (by omega))).mpr q)
          have hnm2 : ¬ (S 7 = 10 ∨ (mKn S (mFq pd ln rr).2.2.1 pd 0 = none ∧ S 4 = 40)) := fun q => q.elim c_27 (fun q2 => c_37 q2.1)
          have h40 : mKn S (mFq pd ln rr).2.2.1 pd 0 = none → S 4 < 40 := fun q => absurd q c_37
          refine lv_aload_n hx hb d_Mo_namesake_54 rfl (lv_at hl 0 rfl) ?_
          refine g_V C0 (k_Mo_hold l G o S sp bf sv iz ((mFq pd ln rr).2.2.1) pd ln sts ((mFq pd ln rr).2.1) ((mFq pd ln rr).1) ) co_Mo_hold im_Mo_hold se_Mo_hold in_Mo gc_Mo_hold ml_Mo_85 ⟨Nat.le_of_ble_eq_true rfl, Nat.le_of_ble_eq_true rfl⟩ hK hR_2.1 rfl ⟨hR_2.1, hR_2.2.1, hR_2.2.2.1, hR_2.2.2.2.1, hR_2.2.2.2.2.1, hR_2.2.2.2.2.2.1, hR_2.2.2.2.2.2.2.1, hR_2.2.2.2.2.2.2.2⟩ rfl hl.1 rfl (Nat.le_of_ble_eq_true rfl) d_Mo_namesake_55 ⟨Nat.le_of_ble_eq_true rfl, Nat.le_of_ble_eq_true rfl⟩ (g_wv (free := gRg o (o + 8)) hL (fun _ h => h) (fun H_4 locs hL ⟨hR_5, hf_6⟩ => ?_))
          refine lv_aload_n hx hb d_Mo_namesake_58 rfl (lv_at hl 0 rfl) ?_
          refine g_get C0 hK il_Mo hR_5.1 rfl 0 (by decide) fl_Mo_7 rfl d_Mo_namesake_59 ?_
          refine lv_bipush (v := nI 7) hx hb d_Mo_namesake_62 (by decide +kernel) ?_
          refine g_iald C0 hK hR_5.2.1 (by omega) (by omega) d_Mo_namesake_64 ?_
          refine g_S C0 (k_Mo_k l G (S 7)) co_Mo_k sm_Mo_k in_Mo gc_Mo_k ml_Mo_126 ⟨Nat.le_of_ble_eq_true rfl, Nat.le_of_ble_eq_true rfl⟩ hK trivial rfl hl.1 rfl (Nat.le_of_ble_eq_true rfl) d_Mo_namesake_65 ⟨Nat.le_of_ble_eq_true rfl, Nat.le_of_ble_eq_true rfl⟩ (g_r rfl ?_)
          refine lv_istore_n (lv' := [(1, .int (nI (511 + 3 * (S 7)))), (0, .ref o)]) hx hb d_Mo_namesake_68 rfl hl (by decide) rfl (fun ls hl => ?_)
          refine lv_aload_n hx hb d_Mo_namesake_69 rfl (lv_at hl 1 rfl) ?_
          refine g_get C0 hK il_Mo hR_5.1 rfl 0 (by decide) fl_Mo_7 rfl d_Mo_namesake_70 ?_
          refine lv_iload_n hx hb d_Mo_namesake_73 rfl (lv_at hl 0 rfl) ?_
          refine lv_aload_n hx hb d_Mo_namesake_74 rfl (lv_at hl 1 rfl) ?_
          refine lv_iconst (v := nI 0) hx hb d_Mo_namesake_75 (by decide +kernel) ?_
          refine g_V C0 (k_Mo_learnsN l G o S (ovr S sp 541) bf sv iz ((mFq pd ln rr).2.2.1) pd ln sts ((mFq pd ln rr).2.1) ((mFq pd ln rr).1) 0 (mFo_neg hln c_4) h40 hM hRq) co_Mo_learns im_Mo_learns se_Mo_learns in_Mo gc_Mo_learns ml_Mo_94 ⟨Nat.le_of_ble_eq_true rfl, Nat.le_of_ble_eq_true rfl⟩ hK hR_5.1 rfl ⟨hR_5.1, hR_5.2.1, hR_5.2.2.1, hR_5.2.2.2.1, hR_5.2.2.2.2.1, hR_5.2.2.2.2.2.1, hR_5.2.2.2.2.2.2.1, hR_5.2.2.2.2.2.2.2⟩ rfl hl.1 rfl (Nat.le_of_ble_eq_true rfl) d_Mo_namesake_76 ⟨Nat.le_of_ble_eq_true rfl, Nat.le_of_ble_eq_true rfl⟩ (g_wi (free := gRg o (o + 8)) hL (fun _ h => h) (fun H_7 locs hL ⟨hR_8, hf_9⟩ => ?_))
          refine g_iast (free := gRg o (o + 8)) C0 hK hR_8.2.1 (by omega) (by omega) d_Mo_namesake_79 hL (gRg.mk (by omega) (by omega)) (fun H_10 locs hL hA_11 hc_12 => ?_)
          refine lv_aload_n hx hb d_Mo_namesake_80 rfl (lv_at hl 1 rfl) ?_
          refine g_get C0 hK il_Mo (hR_8.1.ch hc_12 (by omega)) rfl 0 (by decide) fl_Mo_7 rfl d_Mo_namesake_81 ?_
          refine lv_iload_n hx hb d_Mo_namesake_84 rfl (lv_at hl 0 rfl) ?_
          refine lv_iconst (v := nI 1) hx hb d_Mo_namesake_85 (by decide +kernel) ?_
          refine g_iadd C0 (z := 511 + 3 * (S 7) + 1) d_Mo_namesake_86 rfl ?_
          refine lv_iconst (v := nI 0) hx hb d_Mo_namesake_87 (by decide +kernel) ?_
          refine g_iast (free := gRg o (o + 8)) C0 hK hA_11 (by omega) (by omega) d_Mo_namesake_88 hL (gRg.mk (by omega) (by omega)) (fun H_13 locs hL hA_14 hc_15 => ?_)
          refine lv_aload_n hx hb d_Mo_namesake_89 rfl (lv_at hl 1 rfl) ?_
          refine g_get C0 hK il_Mo ((hR_8.1.ch hc_12 (by omega)).ch hc_15 (by omega)) rfl 0 (by decide) fl_Mo_7 rfl d_Mo_namesake_90 ?_
          refine lv_iload_n hx hb d_Mo_namesake_93 rfl (lv_at hl 0 rfl) ?_
          refine lv_iconst (v := nI 2) hx hb d_Mo_namesake_94 (by decide +kernel) ?_
          refine g_iadd C0 (z := 511 + 3 * (S 7) + 2) d_Mo_namesake_95 rfl ?_
          refine lv_iconst (v := nI 0) hx hb d_Mo_namesake_96 (by decide +kernel) ?_
          refine g_iast (free := gRg o (o + 8)) C0 hK hA_14 (by omega) (by omega) d_Mo_namesake_97 hL (gRg.mk (by omega) (by omega)) (fun H_16 locs hL hA_17 hc_18 => ?_)
          refine lv_aload_n hx hb d_Mo_namesake_98 rfl (lv_at hl 1 rfl) ?_
          refine g_get C0 hK il_Mo (((hR_8.1.ch hc_12 (by omega)).ch hc_15 (by omega)).ch hc_18 (by omega)) rfl 0 (by decide) fl_Mo_7 rfl d_Mo_namesake_99 ?_
          refine lv_bipush (v := nI 7) hx hb d_Mo_namesake_102 (by decide +kernel) ?_
          refine lv_dup2_11 hx hb d_Mo_namesake_104 rfl rfl ?_
          refine g_iald C0 hK hA_17 (by omega) (by omega) d_Mo_namesake_105 ?_
          refine lv_iconst (v := nI 1) hx hb d_Mo_namesake_106 (by decide +kernel) ?_
          refine g_iadd C0 (z := (va_up (va_up (va_up (mLS S ((mFq pd ln rr).2.2.1) pd 0) (511 + 3 * (S 7)) (zLn S ((mFq pd ln rr).2.2.1) pd 0)) (511 + 3 * (S 7) + 1) 0) (511 + 3 * (S 7) + 2) 0) 7 + 1) d_Mo_namesake_107 rfl ?_
          refine g_iast (free := gRg o (o + 8)) C0 hK hA_17 (by omega) (by omega) d_Mo_namesake_108 hL (gRg.mk (by omega) (by omega)) (fun H_19 locs hL hA_20 hc_21 => ?_)
          refine lv_aload_n hx hb d_Mo_namesake_109 rfl (lv_at hl 1 rfl) ?_
          refine lv_iconst (v := nI 0) hx hb d_Mo_namesake_110 (by decide +kernel) ?_
          refine g_put (free := gRg o (o + 8)) C0 hK il_Mo tk_Mo nm_Mo ((((hR_8.1.ch hc_12 (by omega)).ch hc_15 (by omega)).ch hc_18 (by omega)).ch hc_21 (by omega)) rfl 7 (by decide) fl_Mo_44 rfl rfl rfl (Nat.le_of_ble_eq_true rfl) d_Mo_namesake_111 hL (gRg.mk (by omega) (by omega)) (fun H_22 locs hL hA_23 hc_24 => ?_)
          have hA_23 : gE G o (eO 6 [.ref (o + 1), .ref (o + 2), .ref (o + 3), .ref (o + 4), .ref (o + 5), .ref (o + 6), .ref (o + 7), .int (nI 0), .int (nI sts), .int (nI ((mFq pd ln rr).2.1)), .int (nI ((mFq pd ln rr).1))]) H_22 := hA_23
          refine lv_aload_n hx hb d_Mo_namesake_114 rfl (lv_at hl 1 rfl) ?_
          refine lv_aload_n hx hb d_Mo_namesake_115 rfl (lv_at hl 1 rfl) ?_
          refine g_get C0 hK il_Mo hA_23 rfl 0 (by decide) fl_Mo_7 rfl d_Mo_namesake_116 ?_
          refine lv_bipush (v := nI 7) hx hb d_Mo_namesake_119 (by decide +kernel) ?_
          refine g_iald C0 hK (hA_20.ch hc_24 (by omega)) (by omega) (by omega) d_Mo_namesake_121 ?_
          have h7 : 1 ≤ (va_up (va_up (va_up (va_up (mLS S ((mFq pd ln rr).2.2.1) pd 0) (511 + 3 * (S 7)) (zLn S ((mFq pd ln rr).2.2.1) pd 0)) (511 + 3 * (S 7) + 1) 0) (511 + 3 * (S 7) + 2) 0) 7 ((va_up (va_up (va_up (mLS S ((mFq pd ln rr).2.2.1) pd 0) (511 + 3 * (S 7)) (zLn S ((mFq pd ln rr).2.2.1) pd 0)) (511 + 3 * (S 7) + 1) 0) (511 + 3 * (S 7) + 2) 0) 7 + 1)) 7 := by rw [vu_s]; omega
          refine lv_iconst (v := nI 1) hx hb d_Mo_namesake_122 (by decide +kernel) ?_
          refine g_isub C0 (z := ((va_up (va_up (va_up (va_up (mLS S ((mFq pd ln rr).2.2.1) pd 0) (511 + 3 * (S 7)) (zLn S ((mFq pd ln rr).2.2.1) pd 0)) (511 + 3 * (S 7) + 1) 0) (511 + 3 * (S 7) + 2) 0) 7 ((va_up (va_up (va_up (mLS S ((mFq pd ln rr).2.2.1) pd 0) (511 + 3 * (S 7)) (zLn S ((mFq pd ln rr).2.2.1) pd 0)) (511 + 3 * (S 7) + 1) 0) (511 + 3 * (S 7) + 2) 0) 7 + 1)) 7) - 1) d_Mo_namesake_123 (by omega) ?_
          refine g_V C0 (k_Mo_recorded l G o (va_up (va_up (va_up (va_up (mLS S ((mFq pd ln rr).2.2.1) pd 0) (511 + 3 * (S 7)) (zLn S ((mFq pd ln rr).2.2.1) pd 0)) (511 + 3 * (S 7) + 1) 0) (511 + 3 * (S 7) + 2) 0) 7 ((va_up (va_up (va_up (mLS S ((mFq pd ln rr).2.2.1) pd 0) (511 + 3 * (S 7)) (zLn S ((mFq pd ln rr).2.2.1) pd 0)) (511 + 3 * (S 7) + 1) 0) (511 + 3 * (S 7) + 2) 0) 7 + 1)) (ovr S sp 541) bf sv iz ((mFq pd ln rr).2.2.1) pd 0 sts ((mFq pd ln rr).2.1) ((mFq pd ln rr).1) (nI (((va_up (va_up (va_up (va_up (mLS S ((mFq pd ln rr).2.2.1) pd 0) (511 + 3 * (S 7)) (zLn S ((mFq pd ln rr).2.2.1) pd 0)) (511 + 3 * (S 7) + 1) 0) (511 + 3 * (S 7) + 2) 0) 7 ((va_up (va_up (va_up (mLS S ((mFq pd ln rr).2.2.1) pd 0) (511 + 3 * (S 7)) (zLn S ((mFq pd ln rr).2.2.1) pd 0)) (511 + 3 * (S 7) + 1) 0) (511 + 3 * (S 7) + 2) 0) 7 + 1)) 7) - 1)) (by omega)) co_Mo_recorded im_Mo_recorded se_Mo_recorded in_Mo gc_Mo_recorded ml_Mo_88 ⟨Nat.le_of_ble_eq_true rfl, Nat.le_of_ble_eq_true rfl⟩ hK hA_23 rfl ⟨hA_23, (hA_20.ch hc_24 (by omega)), (((((hR_8.2.2.1.ch hc_12 (by omega)).ch hc_15 (by omega)).ch hc_18 (by omega)).ch hc_21 (by omega)).ch hc_24 (by omega)), (((((hR_8.2.2.2.1.ch hc_12 (by omega)).ch hc_15 (by omega)).ch hc_18 (by omega)).ch hc_21 (by omega)).ch hc_24 (by omega)), (((((hR_8.2.2.2.2.1.ch hc_12 (by omega)).ch hc_15 (by omega)).ch hc_18 (by omega)).ch hc_21 (by omega)).ch hc_24 (by omega)), (((((hR_8.2.2.2.2.2.1.ch hc_12 (by omega)).ch hc_15 (by omega)).ch hc_18 (by omega)).ch hc_21 (by omega)).ch hc_24 (by omega)), (((((hR_8.2.2.2.2.2.2.1.ch hc_12 (by omega)).ch hc_15 (by omega)).ch hc_18 (by omega)).ch hc_21 (by omega)).ch hc_24 (by omega)), (((((hR_8.2.2.2.2.2.2.2.ch hc_12 (by omega)).ch hc_15 (by omega)).ch hc_18 (by omega)).ch hc_21 (by omega)).ch hc_24 (by omega))⟩ rfl hl.1 rfl (Nat.le_of_ble_eq_true rfl) d_Mo_namesake_124 ⟨Nat.le_of_ble_eq_true rfl, Nat.le_of_ble_eq_true rfl⟩ (g_wi (free := gRg o (o + 8)) hL (fun _ h => h) (fun H_25 locs hL ⟨hR_26, hf_27⟩ => ?_))
          refine g_iret C0 hlk hr d_Mo_namesake_127 hL ?_
          exact ⟨rdI (by rw [mxNk, if_neg c_4, if_neg (by omega), if_neg hnm2, mRec]; rfl), (by rw [mxNk, if_neg c_4, if_neg (by omega), if_neg hnm2, mRec]; exact ⟨hR_26.1, hR_26.2.1, hR_26.2.2.1, hR_26.2.2.2.1, hR_26.2.2.2.2.1, hR_26.2.2.2.2.2.1, hR_26.2.2.2.2.2.2.1, hR_26.2.2.2.2.2.2.2⟩), (((((((((gFr.rf.tr hf_3).tr hf_6).tr hf_9).tr (gFr.ch hc_12 (by omega) (by omega))).tr (gFr.ch hc_15 (by omega) (by omega))).tr (gFr.ch hc_18 (by omega) (by omega))).tr (gFr.ch hc_21 (by omega) (by omega))).tr (gFr.ch hc_24 (by omega) (by omega))).tr hf_27)⟩
        · skip
          have c_37 : mKn S (mFq pd ln rr).2.2.1 pd 0 = none := (oI6_n (fun i h => Nat.lt_of_lt_of_le (mKn_lt h) (by omega))).mp c_37
          refine lv_aload_n hx hb d_Mo_namesake_40 rfl (lv_at hl 0 rfl) ?_
          refine g_get C0 hK il_Mo hR_2.1 rfl 0 (by decide) fl_Mo_7 rfl d_Mo_namesake_41 ?_
          refine lv_iconst (v := nI 4) hx hb d_Mo_namesake_44 (by decide +kernel) ?_
          refine g_iald C0 hK hR_2.2.1 (by omega) (by omega) d_Mo_namesake_45 ?_
          refine lv_bipush (v := nI 40) hx hb d_Mo_namesake_46 (by decide +kernel) ?_
          refine g_cne (tgt := 54) C0 d_Mo_namesake_48 (by decide) (by first | omega | exact hM.b (by omega) | exact hR.p (by omega)) (by first | omega | exact hM.b (by omega) | exact hR.p (by omega)) (fun c_48 => ?_) (fun c_48 => ?_)
          · skip
            have hnm2 : ¬ (S 7 = 10 ∨ (mKn S (mFq pd ln rr).2.2.1 pd 0 = none ∧ S 4 = 40)) := fun q => q.elim c_27 (fun q2 => c_48 q2.2)
            have h40 : mKn S (mFq pd ln rr).2.2.1 pd 0 = none → S 4 < 40 := fun q => by omega
            refine lv_aload_n hx hb d_Mo_namesake_54 rfl (lv_at hl 0 rfl) ?_
            refine g_V C0 (k_Mo_hold l G o S sp bf sv iz ((mFq pd ln rr).2.2.1) pd ln sts ((mFq pd ln rr).2.1) ((mFq pd ln rr).1) ) co_Mo_hold im_Mo_hold se_Mo_hold in_Mo gc_Mo_hold ml_Mo_85 ⟨Nat.le_of_ble_eq_true rfl, Nat.le_of_ble_eq_true rfl⟩ hK hR_2.1 rfl ⟨hR_2.1, hR_2.2.1, hR_2.2.2.1, hR_2.2.2.2.1, hR_2.2.2.2.2.1, hR_2.2.2.2.2.2.1, hR_2.2.2.2.2.2.2.1, hR_2.2.2.2.2.2.2.2⟩ rfl hl.1 rfl (Nat.le_of_ble_eq_true rfl) d_Mo_namesake_55 ⟨Nat.le_of_ble_eq_true rfl, Nat.le_of_ble_eq_true rfl⟩ (g_wv (free := gRg o (o + 8)) hL (fun _ h => h) (fun H_28 locs hL ⟨hR_29, hf_30⟩ => ?_))
            refine lv_aload_n hx hb d_Mo_namesake_58 rfl (lv_at hl 0 rfl) ?_
            refine g_get C0 hK il_Mo hR_29.1 rfl 0 (by decide) fl_Mo_7 rfl d_Mo_namesake_59 ?_
            refine lv_bipush (v := nI 7) hx hb d_Mo_namesake_62 (by decide +kernel) ?_
            refine g_iald C0 hK hR_29.2.1 (by omega) (by omega) d_Mo_namesake_64 ?_
            refine g_S C0 (k_Mo_k l G (S 7)) co_Mo_k sm_Mo_k in_Mo gc_Mo_k ml_Mo_126 ⟨Nat.le_of_ble_eq_true rfl, Nat.le_of_ble_eq_true rfl⟩ hK trivial rfl hl.1 rfl (Nat.le_of_ble_eq_true rfl) d_Mo_namesake_65 ⟨Nat.le_of_ble_eq_true rfl, Nat.le_of_ble_eq_true rfl⟩ (g_r rfl ?_)
            refine lv_istore_n (lv' := [(1, .int (nI (511 + 3 * (S 7)))), (0, .ref o)]) hx hb d_Mo_namesake_68 rfl hl (by decide) rfl (fun ls hl => ?_)
            refine lv_aload_n hx hb d_Mo_namesake_69 rfl (lv_at hl 1 rfl) ?_
            refine g_get C0 hK il_Mo hR_29.1 rfl 0 (by decide) fl_Mo_7 rfl d_Mo_namesake_70 ?_
            refine lv_iload_n hx hb d_Mo_namesake_73 rfl (lv_at hl 0 rfl) ?_
            refine lv_aload_n hx hb d_Mo_namesake_74 rfl (lv_at hl 1 rfl) ?_
            refine lv_iconst (v := nI 0) hx hb d_Mo_namesake_75 (by decide +kernel) ?_
            refine g_V C0 (k_Mo_learnsN l G o S (ovr S sp 541) bf sv iz ((mFq pd ln rr).2.2.1) pd ln sts ((mFq pd ln rr).2.1) ((mFq pd ln rr).1) 0 (mFo_neg hln c_4) h40 hM hRq) co_Mo_learns im_Mo_learns se_Mo_learns in_Mo gc_Mo_learns ml_Mo_94 ⟨Nat.le_of_ble_eq_true rfl, Nat.le_of_ble_eq_true rfl⟩ hK hR_29.1 rfl ⟨hR_29.1, hR_29.2.1, hR_29.2.2.1, hR_29.2.2.2.1, hR_29.2.2.2.2.1, hR_29.2.2.2.2.2.1, hR_29.2.2.2.2.2.2.1, hR_29.2.2.2.2.2.2.2⟩ rfl hl.1 rfl (Nat.le_of_ble_eq_true rfl) d_Mo_namesake_76 ⟨Nat.le_of_ble_eq_true rfl, Nat.le_of_ble_eq_true rfl⟩ (g_wi (free := gRg o (o + 8)) hL (fun _ h => h) (fun H_31 locs hL ⟨hR_32, hf_33⟩ => ?_))
            refine g_iast (free := gRg o (o + 8)) C0 hK hR_32.2.1 (by omega) (by omega) d_Mo_namesake_79 hL (gRg.mk (by omega) (by omega)) (fun H_34 locs hL hA_35 hc_36 => ?_)
            refine lv_aload_n hx hb d_Mo_namesake_80 rfl (lv_at hl 1 rfl) ?_
            refine g_get C0 hK il_Mo (hR_32.1.ch hc_36 (by omega)) rfl 0 (by decide) fl_Mo_7 rfl d_Mo_namesake_81 ?_
            refine lv_iload_n hx hb d_Mo_namesake_84 rfl (lv_at hl 0 rfl) ?_
            refine lv_iconst (v := nI 1) hx hb d_Mo_namesake_85 (by decide +kernel) ?_
            refine g_iadd C0 (z := 511 + 3 * (S 7) + 1) d_Mo_namesake_86 rfl ?_
            refine lv_iconst (v := nI 0) hx hb d_Mo_namesake_87 (by decide +kernel) ?_
            refine g_iast (free := gRg o (o + 8)) C0 hK hA_35 (by omega) (by omega) d_Mo_namesake_88 hL (gRg.mk (by omega) (by omega)) (fun H_37 locs hL hA_38 hc_39 => ?_)
            refine lv_aload_n hx hb d_Mo_namesake_89 rfl (lv_at hl 1 rfl) ?_
            refine g_get C0 hK il_Mo ((hR_32.1.ch hc_36 (by omega)).ch hc_39 (by omega)) rfl 0 (by decide) fl_Mo_7 rfl d_Mo_namesake_90 ?_
            refine lv_iload_n hx hb d_Mo_namesake_93 rfl (lv_at hl 0 rfl) ?_
            refine lv_iconst (v := nI 2) hx hb d_Mo_namesake_94 (by decide +kernel) ?_
            refine g_iadd C0 (z := 511 + 3 * (S 7) + 2) d_Mo_namesake_95 rfl ?_
            refine lv_iconst (v := nI 0) hx hb d_Mo_namesake_96 (by decide +kernel) ?_
            refine g_iast (free := gRg o (o + 8)) C0 hK hA_38 (by omega) (by omega) d_Mo_namesake_97 hL (gRg.mk (by omega) (by omega)) (fun H_40 locs hL hA_41 hc_42 => ?_)
            refine lv_aload_n hx hb d_Mo_namesake_98 rfl (lv_at hl 1 rfl) ?_
            refine g_get C0 hK il_Mo (((hR_32.1.ch hc_36 (by omega)).ch hc_39 (by omega)).ch hc_42 (by omega)) rfl 0 (by decide) fl_Mo_7 rfl d_Mo_namesake_99 ?_
            refine lv_bipush (v := nI 7) hx hb d_Mo_namesake_102 (by decide +kernel) ?_
            refine lv_dup2_11 hx hb d_Mo_namesake_104 rfl rfl ?_
            refine g_iald C0 hK hA_41 (by omega) (by omega) d_Mo_namesake_105 ?_
            refine lv_iconst (v := nI 1) hx hb d_Mo_namesake_106 (by decide +kernel) ?_
            refine g_iadd C0 (z := (va_up (va_up (va_up (mLS S ((mFq pd ln rr).2.2.1) pd 0) (511 + 3 * (S 7)) (zLn S ((mFq pd ln rr).2.2.1) pd 0)) (511 + 3 * (S 7) + 1) 0) (511 + 3 * (S 7) + 2) 0) 7 + 1) d_Mo_namesake_107 rfl ?_
            refine g_iast (free := gRg o (o + 8)) C0 hK hA_41 (by omega) (by omega) d_Mo_namesake_108 hL (gRg.mk (by omega) (by omega)) (fun H_43 locs hL hA_44 hc_45 => ?_)
            refine lv_aload_n hx hb d_Mo_namesake_109 rfl (lv_at hl 1 rfl) ?_
            refine lv_iconst (v := nI 0) hx hb d_Mo_namesake_110 (by decide +kernel) ?_
            refine g_put (free := gRg o (o + 8)) C0 hK il_Mo tk_Mo nm_Mo ((((hR_32.1.ch hc_36 (by omega)).ch hc_39 (by omega)).ch hc_42 (by omega)).ch hc_45 (by omega)) rfl 7 (by decide) fl_Mo_44 rfl rfl rfl (Nat.le_of_ble_eq_true rfl) d_Mo_namesake_111 hL (gRg.mk (by omega) (by omega)) (fun H_46 locs hL hA_47 hc_48 => ?_)
            have hA_47 : gE G o (eO 6 [.ref (o + 1), .ref (o + 2), .ref (o + 3), .ref (o + 4), .ref (o + 5), .ref (o + 6), .ref (o + 7), .int (nI 0), .int (nI sts), .int (nI ((mFq pd ln rr).2.1)), .int (nI ((mFq pd ln rr).1))]) H_46 := hA_47
            refine lv_aload_n hx hb d_Mo_namesake_114 rfl (lv_at hl 1 rfl) ?_
            refine lv_aload_n hx hb d_Mo_namesake_115 rfl (lv_at hl 1 rfl) ?_
            refine g_get C0 hK il_Mo hA_47 rfl 0 (by decide) fl_Mo_7 rfl d_Mo_namesake_116 ?_
            refine lv_bipush (v := nI 7) hx hb d_Mo_namesake_119 (by decide +kernel) ?_
            refine g_iald C0 hK (hA_44.ch hc_48 (by omega)) (by omega) (by omega) d_Mo_namesake_121 ?_
            have h7 : 1 ≤ (va_up (va_up (va_up (va_up (mLS S ((mFq pd ln rr).2.2.1) pd 0) (511 + 3 * (S 7)) (zLn S ((mFq pd ln rr).2.2.1) pd 0)) (511 + 3 * (S 7) + 1) 0) (511 + 3 * (S 7) + 2) 0) 7 ((va_up (va_up (va_up (mLS S ((mFq pd ln rr).2.2.1) pd 0) (511 + 3 * (S 7)) (zLn S ((mFq pd ln rr).2.2.1) pd 0)) (511 + 3 * (S 7) + 1) 0) (511 + 3 * (S 7) + 2) 0) 7 + 1)) 7 := by rw [vu_s]; omega
            refine lv_iconst (v := nI 1) hx hb d_Mo_namesake_122 (by decide +kernel) ?_
            refine g_isub C0 (z := ((va_up (va_up (va_up (va_up (mLS S ((mFq pd ln rr).2.2.1) pd 0) (511 + 3 * (S 7)) (zLn S ((mFq pd ln rr).2.2.1) pd 0)) (511 + 3 * (S 7) + 1) 0) (511 + 3 * (S 7) + 2) 0) 7 ((va_up (va_up (va_up (mLS S ((mFq pd ln rr).2.2.1) pd 0) (511 + 3 * (S 7)) (zLn S ((mFq pd ln rr).2.2.1) pd 0)) (511 + 3 * (S 7) + 1) 0) (511 + 3 * (S 7) + 2) 0) 7 + 1)) 7) - 1) d_Mo_namesake_123 (by omega) ?_
            refine g_V C0 (k_Mo_recorded l G o (va_up (va_up (va_up (va_up (mLS S ((mFq pd ln rr).2.2.1) pd 0) (511 + 3 * (S 7)) (zLn S ((mFq pd ln rr).2.2.1) pd 0)) (511 + 3 * (S 7) + 1) 0) (511 + 3 * (S 7) + 2) 0) 7 ((va_up (va_up (va_up (mLS S ((mFq pd ln rr).2.2.1) pd 0) (511 + 3 * (S 7)) (zLn S ((mFq pd ln rr).2.2.1) pd 0)) (511 + 3 * (S 7) + 1) 0) (511 + 3 * (S 7) + 2) 0) 7 + 1)) (ovr S sp 541) bf sv iz ((mFq pd ln rr).2.2.1) pd 0 sts ((mFq pd ln rr).2.1) ((mFq pd ln rr).1) (nI (((va_up (va_up (va_up (va_up (mLS S ((mFq pd ln rr).2.2.1) pd 0) (511 + 3 * (S 7)) (zLn S ((mFq pd ln rr).2.2.1) pd 0)) (511 + 3 * (S 7) + 1) 0) (511 + 3 * (S 7) + 2) 0) 7 ((va_up (va_up (va_up (mLS S ((mFq pd ln rr).2.2.1) pd 0) (511 + 3 * (S 7)) (zLn S ((mFq pd ln rr).2.2.1) pd 0)) (511 + 3 * (S 7) + 1) 0) (511 + 3 * (S 7) + 2) 0) 7 + 1)) 7) - 1)) (by omega)) co_Mo_recorded im_Mo_recorded se_Mo_recorded in_Mo gc_Mo_recorded ml_Mo_88 ⟨Nat.le_of_ble_eq_true rfl, Nat.le_of_ble_eq_true rfl⟩ hK hA_47 rfl ⟨hA_47, (hA_44.ch hc_48 (by omega)), (((((hR_32.2.2.1.ch hc_36 (by omega)).ch hc_39 (by omega)).ch hc_42 (by omega)).ch hc_45 (by omega)).ch hc_48 (by omega)), (((((hR_32.2.2.2.1.ch hc_36 (by omega)).ch hc_39 (by omega)).ch hc_42 (by omega)).ch hc_45 (by omega)).ch hc_48 (by omega)), (((((hR_32.2.2.2.2.1.ch hc_36 (by omega)).ch hc_39 (by omega)).ch hc_42 (by omega)).ch hc_45 (by omega)).ch hc_48 (by omega)), (((((hR_32.2.2.2.2.2.1.ch hc_36 (by omega)).ch hc_39 (by omega)).ch hc_42 (by omega)).ch hc_45 (by omega)).ch hc_48 (by omega)), (((((hR_32.2.2.2.2.2.2.1.ch hc_36 (by omega)).ch hc_39 (by omega)).ch hc_42 (by omega)).ch hc_45 (by omega)).ch hc_48 (by omega)), (((((hR_32.2.2.2.2.2.2.2.ch hc_36 (by omega)).ch hc_39 (by omega)).ch hc_42 (by omega)).ch hc_45 (by omega)).ch hc_48 (by omega))⟩ rfl hl.1 rfl (Nat.le_of_ble_eq_true rfl) d_Mo_namesake_124 ⟨Nat.le_of_ble_eq_true rfl, Nat.le_of_ble_eq_true rfl⟩ (g_wi (free := gRg o (o + 8)) hL (fun _ h => h) (fun H_49 locs hL ⟨hR_50, hf_51⟩ => ?_))
            refine g_iret C0 hlk hr d_Mo_namesake_127 hL ?_
            exact ⟨rdI (by rw [mxNk, if_neg c_4, if_neg (by omega), if_neg hnm2, mRec]; rfl), (by rw [mxNk, if_neg c_4, if_neg (by omega), if_neg hnm2, mRec]; exact ⟨hR_50.1, hR_50.2.1, hR_50.2.2.1, hR_50.2.2.2.1, hR_50.2.2.2.2.1, hR_50.2.2.2.2.2.1, hR_50.2.2.2.2.2.2.1, hR_50.2.2.2.2.2.2.2⟩), (((((((((gFr.rf.tr hf_3).tr hf_30).tr hf_33).tr (gFr.ch hc_36 (by omega) (by omega))).tr (gFr.ch hc_39 (by omega) (by omega))).tr (gFr.ch hc_42 (by omega) (by omega))).tr (gFr.ch hc_45 (by omega) (by omega))).tr (gFr.ch hc_48 (by omega) (by omega))).tr hf_51)⟩
          · skip
            refine lv_bipush (v := -4) hx hb d_Mo_namesake_51 (by decide +kernel) ?_
            refine g_iret C0 hlk hr d_Mo_namesake_53 hL ?_
            exact ⟨rdI (by rw [mxNk, if_neg c_4, if_neg (by omega), if_pos (Or.inr ⟨c_37, c_48⟩), zFq]), (by rw [mxNk, if_neg c_4, if_neg (by omega), if_pos (Or.inr ⟨c_37, c_48⟩), zFq]; exact ⟨hR_2.1, hR_2.2.1, hR_2.2.2.1, hR_2.2.2.2.1, hR_2.2.2.2.2.1, hR_2.2.2.2.2.2.1, hR_2.2.2.2.2.2.2.1, hR_2.2.2.2.2.2.2.2⟩), (gFr.rf.tr hf_3)⟩
    · skip
      refine lv_bipush (v := -3) hx hb d_Mo_namesake_15 (by decide +kernel) ?_
      refine g_iret C0 hlk hr d_Mo_namesake_17 hL ?_
      exact ⟨rdI (by rw [mxNk, if_neg c_4, if_pos (by omega), zFq]), (by rw [mxNk, if_neg c_4, if_pos (by omega), zFq]; exact ⟨hR_2.1, hR_2.2.1, hR_2.2.2.1, hR_2.2.2.2.1, hR_2.2.2.2.2.1, hR_2.2.2.2.2.2.1, hR_2.2.2.2.2.2.2.1, hR_2.2.2.2.2.2.2.2⟩), (gFr.rf.tr hf_3)⟩
