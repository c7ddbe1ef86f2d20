/-! storm, harm, apologise -/
theorem mNd_in {S : Nat → Nat} {c q n v : Nat} : ∀ {t : Nat}, t ≤ n → mNd S c q n t = some v → ∃ j, j < n ∧ S (q + 1 + j) = v
  | 0, _, h => by cases h
  | t + 1, ht, h => by
    rw [mNd] at h
    split at h
    · exact mNd_in (by omega) h
    · cases h; exact ⟨n - 1 - t, by omega, rfl⟩
theorem mNx_lt {S : Nat → Nat} {c v : Nat} (hM : mOk S) (hc : c < 2) (h : mNx S c = some v) : v < S 4 := by
  obtain ⟨j, hj, e⟩ := mNd_in (Nat.le_refl _) h
  rw [← e]
  exact hM.le hc (Nat.mod_lt _ (by decide)) hj
section
variable (S sp bf sv iz rr pd : Nat → Nat) (ln sts td ac : Nat)
def zStS (S : Nat → Nat) (c v : Nat) : Nat → Nat :=
  let S3 := va_up (va_up (va_up S (463 + 3 * S 5) v) (463 + 3 * S 5 + 1) c) (463 + 3 * S 5 + 2) 0
  let S4 := va_up S3 5 (S3 5 + 1)
  let S5 := va_up S4 6 (S4 6 + 1)
  va_up S5 (9 + 10 * v + 8) (S5 (9 + 10 * v + 8) + 1)
def mxStorm (x : Int32) : Int32 × MS := if inR x 2 then (match mNx S x.toNatClampNeg with
    | none => (-5, mSt S sp bf sv iz rr pd ln sts td ac)
    | some v => if S 5 = 16 then (-4, mSt S sp bf sv iz rr pd ln sts td ac) else mRec S sp bf sv iz rr pd ln sts td ac (zStS S x.toNatClampNeg v) (nI (zStS S x.toNatClampNeg v 5 - 1))) else (-1, mSt S sp bf sv iz rr pd ln sts td ac)
def zHaS (S : Nat → Nat) (g h : Nat) : Nat → Nat :=
  let S1 := va_up S (463 + 3 * g + 2) (S (463 + 3 * g + 2) + h)
  va_up S1 (9 + 10 * S1 (463 + 3 * g) + 9) (S1 (9 + 10 * S1 (463 + 3 * g) + 9) + h)
def mxHarm (a h : Int32) : Int32 × MS := if inR a (S 5) then (if inD h (nI 1) (nI 50) then mRec S sp bf sv iz rr pd ln sts td ac (zHaS S a.toNatClampNeg h.toNatClampNeg) (nI (zHaS S a.toNatClampNeg h.toNatClampNeg (463 + 3 * a.toNatClampNeg + 2))) else (-2, mSt S sp bf sv iz rr pd ln sts td ac)) else (-1, mSt S sp bf sv iz rr pd ln sts td ac)
def zApS (S : Nat → Nat) (k : Nat) : Nat → Nat :=
  va_up (va_up (va_up S (511 + 3 * k + 1) (S (511 + 3 * k + 1) - 1)) (511 + 3 * k + 2) (va_up S (511 + 3 * k + 1) (S (511 + 3 * k + 1) - 1) (511 + 3 * k + 2) + 1)) 8 (va_up (va_up S (511 + 3 * k + 1) (S (511 + 3 * k + 1) - 1)) (511 + 3 * k + 2) (va_up S (511 + 3 * k + 1) (S (511 + 3 * k + 1) - 1) (511 + 3 * k + 2) + 1) 8 + 1)
def mxApo (a : Int32) : Int32 × MS := if inR a (S 7) then (if S (511 + 3 * a.toNatClampNeg + 1) = 0 then (-5, mSt S sp bf sv iz rr pd ln sts td ac) else mRec S sp bf sv iz rr pd ln sts td ac (zApS S a.toNatClampNeg) (nI (zApS S a.toNatClampNeg (511 + 3 * a.toNatClampNeg + 1)))) else (-1, mSt S sp bf sv iz rr pd ln sts td ac)
end

set_option maxHeartbeats 4000000 in
set_option maxRecDepth 100000 in
theorem k_Mo_apologise (l : Launch) (G : gT) (o : Nat) (S sp bf sv iz rr pd : Nat → Nat) (ln sts td ac : Nat) (a : Int32) (hs6 : sts ≤ 6) (hM : mOk S) : gM l y_Mo_apologise c_Mo_apologise 2 (some .int) 2 43 0 0 G [.ref o, .int a] (fun H => MAt G o S sp bf sv iz rr pd ln sts td ac H) (wi (.int (mxApo S sp bf sv iz rr pd ln sts td ac a).1) (fun H H1 => MAtX G o (mxApo S sp bf sv iz rr pd ln sts td ac a).2 H1 ∧ gFr o (o + 8) H H1)) (gRg o (o + 8)) := by
  refine g_enter "GaleNamesModel" (by decide +kernel) rfl (Nat.le_of_ble_eq_true rfl) ?_
  intro p e s m args below meth c C0 hlk hr hnm hP hK ls hl
  have hx := C0.1
  have hb := C0.2.1
  have hl : lv_has ls 2 [(0, .ref o), (1, .int a)] := hl
  have hn40 := hM.n
  have hg16 := hM.g
  have hk10 := hM.k
  refine lv_aload_n hx hb d_Mo_apologise_0 rfl (lv_at hl 0 rfl) ?_
  refine lv_iload_n hx hb d_Mo_apologise_1 rfl (lv_at hl 1 rfl) ?_
  refine g_V C0 (k_Mo_isSake l G o S sp bf sv iz rr pd ln sts td ac a hM) co_Mo_isSake im_Mo_isSake se_Mo_isSake in_Mo gc_Mo_isSake ml_Mo_136 ⟨Nat.le_of_ble_eq_true rfl, Nat.le_of_ble_eq_true rfl⟩ hK hP.1 rfl ⟨hP.1, hP.2.1, hP.2.2.1, hP.2.2.2.1, hP.2.2.2.2.1, hP.2.2.2.2.2.1, hP.2.2.2.2.2.2.1, hP.2.2.2.2.2.2.2⟩ rfl hl.1 rfl (Nat.le_of_ble_eq_true rfl) d_Mo_apologise_2 ⟨Nat.le_of_ble_eq_true rfl, Nat.le_of_ble_eq_true rfl⟩ (g_r rfl ?_)
  refine g_zne (tgt := 10) C0 d_Mo_apologise_5 (by decide) (fun c_5 => ?_) (fun c_5 => ?_)
  · skip
    obtain ⟨i, hi, hi31, rfl⟩ := inR_t c_5
    refine lv_aload_n hx hb d_Mo_apologise_10 rfl (lv_at hl 0 rfl) ?_
    refine g_get C0 hK il_Mo hP.1 rfl 0 (by decide) fl_Mo_7 rfl d_Mo_apologise_11 ?_
    refine lv_iload_n hx hb d_Mo_apologise_14 rfl (lv_at hl 1 rfl) ?_
    refine g_S C0 (k_Mo_k l G i) co_Mo_k sm_Mo_k in_Mo gc_Mo_k ml_Mo_126 ⟨Nat.le_of_ble_eq_true rfl, Nat.le_of_ble_eq_true rfl⟩ hK trivial rfl hl.1 rfl (Nat.le_of_ble_eq_true rfl) d_Mo_apologise_15 ⟨Nat.le_of_ble_eq_true rfl, Nat.le_of_ble_eq_true rfl⟩ (g_r rfl ?_)
    refine lv_iconst (v := nI 1) hx hb d_Mo_apologise_18 (by decide +kernel) ?_
    refine g_iadd C0 (z := 511 + 3 * i + 1) d_Mo_apologise_19 rfl ?_
    refine g_iald C0 hK hP.2.1 (by omega) (by omega) d_Mo_apologise_20 ?_
    refine lv_if_ne (tgt := 27) hx hb d_Mo_apologise_21 (by decide) (fun c_21 => ?_) (fun c_21 => ?_)
    · skip
      have c_21 : ¬ S (511 + 3 * i + 1) = 0 := fun h => c_21 (by rw [h]; rfl)
      refine lv_aload_n hx hb d_Mo_apologise_27 rfl (lv_at hl 0 rfl) ?_
      refine g_V C0 (k_Mo_hold l G o S sp bf sv iz rr pd ln sts td ac ) co_Mo_hold im_Mo_hold se_Mo_hold in_Mo gc_Mo_hold ml_Mo_85 ⟨Nat.le_of_ble_eq_true rfl, Nat.le_of_ble_eq_true rfl⟩ hK hP.1 rfl ⟨hP.1, hP.2.1, hP.2.2.1, hP.2.2.2.1, hP.2.2.2.2.1, hP.2.2.2.2.2.1, hP.2.2.2.2.2.2.1, hP.2.2.2.2.2.2.2⟩ rfl hl.1 rfl (Nat.le_of_ble_eq_true rfl) d_Mo_apologise_28 ⟨Nat.le_of_ble_eq_true rfl, Nat.le_of_ble_eq_true rfl⟩ (g_wv (free := gRg o (o + 8)) (t_nil (free := gRg o (o + 8))) (fun _ h => h) (fun H_1 locs hL ⟨hR_2, hf_3⟩ => ?_))
      refine lv_aload_n hx hb d_Mo_apologise_31 rfl (lv_at hl 0 rfl) ?_
      refine g_get C0 hK il_Mo hR_2.1 rfl 0 (by decide) fl_Mo_7 rfl d_Mo_apologise_32 ?_
      refine lv_iload_n hx hb d_Mo_apologise_35 rfl (lv_at hl 1 rfl) ?_
      refine g_S C0 (k_Mo_k l G i) co_Mo_k sm_Mo_k in_Mo gc_Mo_k ml_Mo_126 ⟨Nat.le_of_ble_eq_true rfl, Nat.le_of_ble_eq_true rfl⟩ hK trivial rfl hl.1 rfl (Nat.le_of_ble_eq_true rfl) d_Mo_apologise_36 ⟨Nat.le_of_ble_eq_true rfl, Nat.le_of_ble_eq_true rfl⟩ (g_r rfl ?_)
      refine lv_iconst (v := nI 1) hx hb d_Mo_apologise_39 (by decide +kernel) ?_
      refine g_iadd C0 (z := 511 + 3 * i + 1) d_Mo_apologise_40 rfl ?_
      refine lv_dup2_11 hx hb d_Mo_apologise_41 rfl rfl ?_
      refine g_iald C0 hK hR_2.2.1 (by omega) (by omega) d_Mo_apologise_42 ?_
      refine lv_iconst (v := nI 1) hx hb d_Mo_apologise_43 (by decide +kernel) ?_
      refine g_isub C0 (z := (S (511 + 3 * i + 1)) - 1) d_Mo_apologise_44 (by omega) ?_
      refine g_iast (free := gRg o (o + 8)) C0 hK hR_2.2.1 (by omega) (by omega) d_Mo_apologise_45 hL (gRg.mk (by omega) (by omega)) (fun H_4 locs hL hA_5 hc_6 => ?_)
      refine lv_aload_n hx hb d_Mo_apologise_46 rfl (lv_at hl 0 rfl) ?_
      refine g_get C0 hK il_Mo (hR_2.1.ch hc_6 (by omega)) rfl 0 (by decide) fl_Mo_7 rfl d_Mo_apologise_47 ?_
      refine lv_iload_n hx hb d_Mo_apologise_50 rfl (lv_at hl 1 rfl) ?_
      refine g_S C0 (k_Mo_k l G i) co_Mo_k sm_Mo_k in_Mo gc_Mo_k ml_Mo_126 ⟨Nat.le_of_ble_eq_true rfl, Nat.le_of_ble_eq_true rfl⟩ hK trivial rfl hl.1 rfl (Nat.le_of_ble_eq_true rfl) d_Mo_apologise_51 ⟨Nat.le_of_ble_eq_true rfl, Nat.le_of_ble_eq_true rfl⟩ (g_r rfl ?_)
      refine lv_iconst (v := nI 2) hx hb d_Mo_apologise_54 (by decide +kernel) ?_
      refine g_iadd C0 (z := 511 + 3 * i + 2) d_Mo_apologise_55 rfl ?_
      refine lv_dup2_11 hx hb d_Mo_apologise_56 rfl rfl ?_
      refine g_iald C0 hK hA_5 (by omega) (by omega) d_Mo_apologise_57 ?_
      refine lv_iconst (v := nI 1) hx hb d_Mo_apologise_58 (by decide +kernel) ?_
      refine g_iadd C0 (z := (va_up S (511 + 3 * i + 1) ((S (511 + 3 * i + 1)) - 1)) (511 + 3 * i + 2) + 1) d_Mo_apologise_59 rfl ?_
      refine g_iast (free := gRg o (o + 8)) C0 hK hA_5 (by omega) (by omega) d_Mo_apologise_60 hL (gRg.mk (by omega) (by omega)) (fun H_7 locs hL hA_8 hc_9 => ?_)
      refine lv_aload_n hx hb d_Mo_apologise_61 rfl (lv_at hl 0 rfl) ?_
      refine g_get C0 hK il_Mo ((hR_2.1.ch hc_6 (by omega)).ch hc_9 (by omega)) rfl 0 (by decide) fl_Mo_7 rfl d_Mo_apologise_62 ?_
      refine lv_bipush (v := nI 8) hx hb d_Mo_apologise_65 (by decide +kernel) ?_
      refine lv_dup2_11 hx hb d_Mo_apologise_67 rfl rfl ?_
      refine g_iald C0 hK hA_8 (by omega) (by omega) d_Mo_apologise_68 ?_
      refine lv_iconst (v := nI 1) hx hb d_Mo_apologise_69 (by decide +kernel) ?_
      refine g_iadd C0 (z := (va_up (va_up S (511 + 3 * i + 1) ((S (511 + 3 * i + 1)) - 1)) (511 + 3 * i + 2) ((va_up S (511 + 3 * i + 1) ((S (511 + 3 * i + 1)) - 1)) (511 + 3 * i + 2) + 1)) 8 + 1) d_Mo_apologise_70 rfl ?_
      refine g_iast (free := gRg o (o + 8)) C0 hK hA_8 (by omega) (by omega) d_Mo_apologise_71 hL (gRg.mk (by omega) (by omega)) (fun H_10 locs hL hA_11 hc_12 => ?_)
      refine lv_aload_n hx hb d_Mo_apologise_72 rfl (lv_at hl 0 rfl) ?_
      refine lv_aload_n hx hb d_Mo_apologise_73 rfl (lv_at hl 0 rfl) ?_
      refine g_get C0 hK il_Mo (((hR_2.1.ch hc_6 (by omega)).ch hc_9 (by omega)).ch hc_12 (by omega)) rfl 0 (by decide) fl_Mo_7 rfl d_Mo_apologise_74 ?_
      refine lv_iload_n hx hb d_Mo_apologise_77 rfl (lv_at hl 1 rfl) ?_
      refine g_S C0 (k_Mo_k l G i) co_Mo_k sm_Mo_k in_Mo gc_Mo_k ml_Mo_126 ⟨Nat.le_of_ble_eq_true rfl, Nat.le_of_ble_eq_true rfl⟩ hK trivial rfl hl.1 rfl (Nat.le_of_ble_eq_true rfl) d_Mo_apologise_78 ⟨Nat.le_of_ble_eq_true rfl, Nat.le_of_ble_eq_true rfl⟩ (g_r rfl ?_)
      refine lv_iconst (v := nI 1) hx hb d_Mo_apologise_81 (by decide +kernel) ?_
      refine g_iadd C0 (z := 511 + 3 * i + 1) d_Mo_apologise_82 rfl ?_
      refine g_iald C0 hK hA_11 (by omega) (by omega) d_Mo_apologise_83 ?_
      refine g_V C0 (k_Mo_recorded l G o (va_up (va_up (va_up S (511 + 3 * i + 1) ((S (511 + 3 * i + 1)) - 1)) (511 + 3 * i + 2) ((va_up S (511 + 3 * i + 1) ((S (511 + 3 * i + 1)) - 1)) (511 + 3 * i + 2) + 1)) 8 ((va_up (va_up S (511 + 3 * i + 1) ((S (511 + 3 * i + 1)) - 1)) (511 + 3 * i + 2) ((va_up S (511 + 3 * i + 1) ((S (511 + 3 * i + 1)) - 1)) (511 + 3 * i + 2) + 1)) 8 + 1)) (ovr S sp 541) bf sv iz rr pd ln sts td ac (nI ((va_up (va_up (va_up S (511 + 3 * i + 1) ((S (511 + 3 * i + 1)) - 1)) (511 + 3 * i + 2) ((va_up S (511 + 3 * i + 1) ((S (511 + 3 * i + 1)) - 1)) (511 + 3 * i + 2) + 1)) 8 ((va_up (va_up S (511 + 3 * i + 1) ((S (511 + 3 * i + 1)) - 1)) (511 + 3 * i + 2) ((va_up S (511 + 3 * i + 1) ((S (511 + 3 * i + 1)) - 1)) (511 + 3 * i + 2) + 1)) 8 + 1)) (511 + 3 * i + 1))) (by omega)) co_Mo_recorded im_Mo_recorded se_Mo_recorded in_Mo gc_Mo_recorded ml_Mo_88 ⟨Nat.le_of_ble_eq_true rfl, Nat.le_of_ble_eq_true rfl⟩ hK (((hR_2.1.ch hc_6 (by omega)).ch hc_9 (by omega)).ch hc_12 (by omega)) rfl ⟨(((hR_2.1.ch hc_6 (by omega)).ch hc_9 (by omega)).ch hc_12 (by omega)), hA_11, (((hR_2.2.2.1.ch hc_6 (by omega)).ch hc_9 (by omega)).ch hc_12 (by omega)), (((hR_2.2.2.2.1.ch hc_6 (by omega)).ch hc_9 (by omega)).ch hc_12 (by omega)), (((hR_2.2.2.2.2.1.ch hc_6 (by omega)).ch hc_9 (by omega)).ch hc_12 (by omega)), (((hR_2.2.2.2.2.2.1.ch hc_6 (by omega)).ch hc_9 (by omega)).ch hc_12 (by omega)), (((hR_2.2.2.2.2.2.2.1.ch hc_6 (by omega)).ch hc_9 (by omega)).ch hc_12 (by omega)), (((hR_2.2.2.2.2.2.2.2.ch hc_6 (by omega)).ch hc_9 (by omega)).ch hc_12 (by omega))⟩ rfl hl.1 rfl (Nat.le_of_ble_eq_true rfl) d_Mo_apologise_84 ⟨Nat.le_of_ble_eq_true rfl, Nat.le_of_ble_eq_true rfl⟩ (g_wi (free := gRg o (o + 8)) hL (fun _ h => h) (fun H_13 locs hL ⟨hR_14, hf_15⟩ => ?_))
      refine g_iret C0 hlk hr d_Mo_apologise_87 hL ?_
      exact ⟨rdI (by rw [mxApo, c_5, if_pos rfl, nI_clamp hi31, if_neg c_21, mRec, zApS] <;> rfl), (by rw [mxApo, c_5, if_pos rfl, nI_clamp hi31, if_neg c_21, mRec, zApS]; exact ⟨hR_14.1, hR_14.2.1, hR_14.2.2.1, hR_14.2.2.2.1, hR_14.2.2.2.2.1, hR_14.2.2.2.2.2.1, hR_14.2.2.2.2.2.2.1, hR_14.2.2.2.2.2.2.2⟩), (((((gFr.rf.tr hf_3).tr (gFr.ch hc_6 (by omega) (by omega))).tr (gFr.ch hc_9 (by omega) (by omega))).tr (gFr.ch hc_12 (by omega) (by omega))).tr hf_15)⟩
    · skip
      have c_21 : S (511 + 3 * i + 1) = 0 := (nI_eqi (b := 0) (hM.b (by omega)) (by omega)).mp c_21
      refine lv_bipush (v := -5) hx hb d_Mo_apologise_24 (by decide +kernel) ?_
      refine g_iret C0 hlk hr d_Mo_apologise_26 (t_nil (free := gRg o (o + 8))) ?_
      exact ⟨rdI (by rw [mxApo, c_5, if_pos rfl, nI_clamp hi31, if_pos c_21] <;> rfl), (by rw [mxApo, c_5, if_pos rfl, nI_clamp hi31, if_pos c_21]; exact ⟨hP.1, hP.2.1, hP.2.2.1, hP.2.2.2.1, hP.2.2.2.2.1, hP.2.2.2.2.2.1, hP.2.2.2.2.2.2.1, hP.2.2.2.2.2.2.2⟩), gFr.rf⟩
  · skip
    refine lv_iconst (v := -1) hx hb d_Mo_apologise_8 (by decide +kernel) ?_
    refine g_iret C0 hlk hr d_Mo_apologise_9 (t_nil (free := gRg o (o + 8))) ?_
    exact ⟨rdI (by rw [mxApo, c_5] <;> rfl), (by rw [mxApo, c_5]; exact ⟨hP.1, hP.2.1, hP.2.2.1, hP.2.2.2.1, hP.2.2.2.2.1, hP.2.2.2.2.2.1, hP.2.2.2.2.2.2.1, hP.2.2.2.2.2.2.2⟩), gFr.rf⟩
