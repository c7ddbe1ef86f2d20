set_option maxHeartbeats 4000000 in
set_option maxRecDepth 100000 in
theorem k_Mo_harm (l : Launch) (G : gT) (o : Nat) (S sp bf sv iz rr pd : Nat → Nat) (ln sts td ac : Nat) (a w : Int32) (hs6 : sts ≤ 6) (hM : mOk S) : gM l y_Mo_harm c_Mo_harm 3 (some .int) 2 43 0 0 G [.ref o, .int a, .int w] (fun H => MAt G o S sp bf sv iz rr pd ln sts td ac H) (wi (.int (mxHarm S sp bf sv iz rr pd ln sts td ac a w).1) (fun H H1 => MAtX G o (mxHarm S sp bf sv iz rr pd ln sts td ac a w).2 H1 ∧ gFr o (o + 8) H H1)) (gRg o (o + 8)) := by
  refine g_enter "GaleNamesModel" (by decide +kernel) rfl (Nat.le_of_ble_eq_true rfl) ?_
  intro p e s m args below meth c C0 hlk hr hnm hP hK ls hl
  have hx := C0.1
  have hb := C0.2.1
  have hl : lv_has ls 3 [(0, .ref o), (1, .int a), (2, .int w)] := hl
  have hn40 := hM.n
  have hg16 := hM.g
  have hk10 := hM.k
  refine lv_aload_n hx hb d_Mo_harm_0 rfl (lv_at hl 0 rfl) ?_
  refine lv_iload_n hx hb d_Mo_harm_1 rfl (lv_at hl 1 rfl) ?_
  refine g_V C0 (k_Mo_isStorm l G o S sp bf sv iz rr pd ln sts td ac a hM) co_Mo_isStorm im_Mo_isStorm se_Mo_isStorm in_Mo gc_Mo_isStorm ml_Mo_122 ⟨Nat.le_of_ble_eq_true rfl, Nat.le_of_ble_eq_true rfl⟩ hK hP.1 rfl ⟨hP.1, hP.2.1, hP.2.2.1, hP.2.2.2.1, hP.2.2.2.2.1, hP.2.2.2.2.2.1, hP.2.2.2.2.2.2.1, hP.2.2.2.2.2.2.2⟩ rfl hl.1 rfl (Nat.le_of_ble_eq_true rfl) d_Mo_harm_2 ⟨Nat.le_of_ble_eq_true rfl, Nat.le_of_ble_eq_true rfl⟩ (g_r rfl ?_)
  refine g_zne (tgt := 10) C0 d_Mo_harm_5 (by decide) (fun c_5 => ?_) (fun c_5 => ?_)
  · skip
    obtain ⟨i, hi, hi31, rfl⟩ := inR_t c_5
    have hge := hM.ge hi
    refine lv_iload_n hx hb d_Mo_harm_10 rfl (lv_at hl 2 rfl) ?_
    refine lv_iconst (v := nI 1) hx hb d_Mo_harm_11 (by decide +kernel) ?_
    refine lv_bipush (v := nI 50) hx hb d_Mo_harm_12 (by decide +kernel) ?_
    refine g_S C0 (k_Mo_in l G w (nI 1) (nI 50)) co_Mo_in sm_Mo_in in_Mo gc_Mo_in ml_Mo_33 ⟨Nat.le_of_ble_eq_true rfl, Nat.le_of_ble_eq_true rfl⟩ hK trivial rfl hl.1 rfl (Nat.le_of_ble_eq_true rfl) d_Mo_harm_14 ⟨Nat.le_of_ble_eq_true rfl, Nat.le_of_ble_eq_true rfl⟩ (g_r rfl ?_)
    refine g_zne (tgt := 23) C0 d_Mo_harm_17 (by decide) (fun c_17 => ?_) (fun c_17 => ?_)
    · skip
      obtain ⟨q, hq1, hq2, rfl⟩ := inD_e2 (by decide) c_17
      refine lv_aload_n hx hb d_Mo_harm_23 rfl (lv_at hl 0 rfl) ?_
      refine g_V C0 (k_Mo_hold l G o S sp bf sv iz rr pd ln sts td ac ) co_Mo_hold im_Mo_hold se_Mo_hold in_Mo gc_Mo_hold ml_Mo_85 ⟨Nat.le_of_ble_eq_true rfl, Nat.le_of_ble_eq_true rfl⟩ hK hP.1 rfl ⟨hP.1, hP.2.1, hP.2.2.1, hP.2.2.2.1, hP.2.2.2.2.1, hP.2.2.2.2.2.1, hP.2.2.2.2.2.2.1, hP.2.2.2.2.2.2.2⟩ rfl hl.1 rfl (Nat.le_of_ble_eq_true rfl) d_Mo_harm_24 ⟨Nat.le_of_ble_eq_true rfl, Nat.le_of_ble_eq_true rfl⟩ (g_wv (free := gRg o (o + 8)) (t_nil (free := gRg o (o + 8))) (fun _ h => h) (fun H_1 locs hL ⟨hR_2, hf_3⟩ => ?_))
      refine lv_aload_n hx hb d_Mo_harm_27 rfl (lv_at hl 0 rfl) ?_
      refine g_get C0 hK il_Mo hR_2.1 rfl 0 (by decide) fl_Mo_7 rfl d_Mo_harm_28 ?_
      refine lv_iload_n hx hb d_Mo_harm_31 rfl (lv_at hl 1 rfl) ?_
      refine g_S C0 (k_Mo_g l G i) co_Mo_g sm_Mo_g in_Mo gc_Mo_g ml_Mo_74 ⟨Nat.le_of_ble_eq_true rfl, Nat.le_of_ble_eq_true rfl⟩ hK trivial rfl hl.1 rfl (Nat.le_of_ble_eq_true rfl) d_Mo_harm_32 ⟨Nat.le_of_ble_eq_true rfl, Nat.le_of_ble_eq_true rfl⟩ (g_r rfl ?_)
      refine lv_iconst (v := nI 2) hx hb d_Mo_harm_35 (by decide +kernel) ?_
      refine g_iadd C0 (z := 463 + 3 * i + 2) d_Mo_harm_36 rfl ?_
      refine lv_dup2_11 hx hb d_Mo_harm_37 rfl rfl ?_
      refine g_iald C0 hK hR_2.2.1 (by omega) (by omega) d_Mo_harm_38 ?_
      refine lv_iload_n hx hb d_Mo_harm_39 rfl (lv_at hl 2 rfl) ?_
      refine g_iadd C0 (z := S (463 + 3 * i + 2) + q) d_Mo_harm_40 rfl ?_
      refine g_iast (free := gRg o (o + 8)) C0 hK hR_2.2.1 (by omega) (by omega) d_Mo_harm_41 hL (gRg.mk (by omega) (by omega)) (fun H_4 locs hL hA_5 hc_6 => ?_)
      have hv : (va_up S (463 + 3 * i + 2) (S (463 + 3 * i + 2) + q)) (463 + 3 * i) = S (463 + 3 * i) := vu_n (by omega)
      refine lv_aload_n hx hb d_Mo_harm_42 rfl (lv_at hl 0 rfl) ?_
      refine g_get C0 hK il_Mo (hR_2.1.ch hc_6 (by omega)) rfl 0 (by decide) fl_Mo_7 rfl d_Mo_harm_43 ?_
      refine lv_aload_n hx hb d_Mo_harm_46 rfl (lv_at hl 0 rfl) ?_
      refine g_get C0 hK il_Mo (hR_2.1.ch hc_6 (by omega)) rfl 0 (by decide) fl_Mo_7 rfl d_Mo_harm_47 ?_
      refine lv_iload_n hx hb d_Mo_harm_50 rfl (lv_at hl 1 rfl) ?_
      refine g_S C0 (k_Mo_g l G i) co_Mo_g sm_Mo_g in_Mo gc_Mo_g ml_Mo_74 ⟨Nat.le_of_ble_eq_true rfl, Nat.le_of_ble_eq_true rfl⟩ hK trivial rfl hl.1 rfl (Nat.le_of_ble_eq_true rfl) d_Mo_harm_51 ⟨Nat.le_of_ble_eq_true rfl, Nat.le_of_ble_eq_true rfl⟩ (g_r rfl ?_)
      refine g_iald C0 hK hA_5 (by omega) (by omega) d_Mo_harm_54 ?_
      refine g_S C0 (k_Mo_n l G ((va_up S (463 + 3 * i + 2) (S (463 + 3 * i + 2) + q)) (463 + 3 * i))) co_Mo_n sm_Mo_n in_Mo gc_Mo_n ml_Mo_57 ⟨Nat.le_of_ble_eq_true rfl, Nat.le_of_ble_eq_true rfl⟩ hK trivial rfl hl.1 rfl (Nat.le_of_ble_eq_true rfl) d_Mo_harm_55 ⟨Nat.le_of_ble_eq_true rfl, Nat.le_of_ble_eq_true rfl⟩ (g_r rfl ?_)
      refine lv_bipush (v := nI 9) hx hb d_Mo_harm_58 (by decide +kernel) ?_
      refine g_iadd C0 (z := 9 + 10 * ((va_up S (463 + 3 * i + 2) (S (463 + 3 * i + 2) + q)) (463 + 3 * i)) + 9) d_Mo_harm_60 rfl ?_
      refine lv_dup2_11 hx hb d_Mo_harm_61 rfl rfl ?_
      refine g_iald C0 hK hA_5 (by omega) (by omega) d_Mo_harm_62 ?_
      refine lv_iload_n hx hb d_Mo_harm_63 rfl (lv_at hl 2 rfl) ?_
      refine g_iadd C0 (z := (va_up S (463 + 3 * i + 2) (S (463 + 3 * i + 2) + q)) (9 + 10 * ((va_up S (463 + 3 * i + 2) (S (463 + 3 * i + 2) + q)) (463 + 3 * i)) + 9) + q) d_Mo_harm_64 rfl ?_
      refine g_iast (free := gRg o (o + 8)) C0 hK hA_5 (by omega) (by omega) d_Mo_harm_65 hL (gRg.mk (by omega) (by omega)) (fun H_7 locs hL hA_8 hc_9 => ?_)
      refine lv_aload_n hx hb d_Mo_harm_66 rfl (lv_at hl 0 rfl) ?_
      refine lv_aload_n hx hb d_Mo_harm_67 rfl (lv_at hl 0 rfl) ?_
      refine g_get C0 hK il_Mo ((hR_2.1.ch hc_6 (by omega)).ch hc_9 (by omega)) rfl 0 (by decide) fl_Mo_7 rfl d_Mo_harm_68 ?_
      refine lv_iload_n hx hb d_Mo_harm_71 rfl (lv_at hl 1 rfl) ?_
      refine g_S C0 (k_Mo_g l G i) co_Mo_g sm_Mo_g in_Mo gc_Mo_g ml_Mo_74 ⟨Nat.le_of_ble_eq_true rfl, Nat.le_of_ble_eq_true rfl⟩ hK trivial rfl hl.1 rfl (Nat.le_of_ble_eq_true rfl) d_Mo_harm_72 ⟨Nat.le_of_ble_eq_true rfl, Nat.le_of_ble_eq_true rfl⟩ (g_r rfl ?_)
      refine lv_iconst (v := nI 2) hx hb d_Mo_harm_75 (by decide +kernel) ?_
      refine g_iadd C0 (z := 463 + 3 * i + 2) d_Mo_harm_76 rfl ?_
      refine g_iald C0 hK hA_8 (by omega) (by omega) d_Mo_harm_77 ?_
      refine g_V C0 (k_Mo_recorded l G o (va_up (va_up S (463 + 3 * i + 2) (S (463 + 3 * i + 2) + q)) (9 + 10 * ((va_up S (463 + 3 * i + 2) (S (463 + 3 * i + 2) + q)) (463 + 3 * i)) + 9) ((va_up S (463 + 3 * i + 2) (S (463 + 3 * i + 2) + q)) (9 + 10 * ((va_up S (463 + 3 * i + 2) (S (463 + 3 * i + 2) + q)) (463 + 3 * i)) + 9) + q)) (ovr S sp 541) bf sv iz rr pd ln sts td ac (nI ((va_up (va_up S (463 + 3 * i + 2) (S (463 + 3 * i + 2) + q)) (9 + 10 * ((va_up S (463 + 3 * i + 2) (S (463 + 3 * i + 2) + q)) (463 + 3 * i)) + 9) ((va_up S (463 + 3 * i + 2) (S (463 + 3 * i + 2) + q)) (9 + 10 * ((va_up S (463 + 3 * i + 2) (S (463 + 3 * i + 2) + q)) (463 + 3 * i)) + 9) + q)) (463 + 3 * i + 2))) (by omega)) co_Mo_recorded im_Mo_recorded se_Mo_recorded in_Mo gc_Mo_recorded ml_Mo_88 ⟨Nat.le_of_ble_eq_true rfl, Nat.le_of_ble_eq_true rfl⟩ hK ((hR_2.1.ch hc_6 (by omega)).ch hc_9 (by omega)) rfl ⟨((hR_2.1.ch hc_6 (by omega)).ch hc_9 (by omega)), hA_8, ((hR_2.2.2.1.ch hc_6 (by omega)).ch hc_9 (by omega)), ((hR_2.2.2.2.1.ch hc_6 (by omega)).ch hc_9 (by omega)), ((hR_2.2.2.2.2.1.ch hc_6 (by omega)).ch hc_9 (by omega)), ((hR_2.2.2.2.2.2.1.ch hc_6 (by omega)).ch hc_9 (by omega)), ((hR_2.2.2.2.2.2.2.1.ch hc_6 (by omega)).ch hc_9 (by omega)), ((hR_2.2.2.2.2.2.2.2.ch hc_6 (by omega)).ch hc_9 (by omega))⟩ rfl hl.1 rfl (Nat.le_of_ble_eq_true rfl) d_Mo_harm_78 ⟨Nat.le_of_ble_eq_true rfl, Nat.le_of_ble_eq_true rfl⟩ (g_wi (free := gRg o (o + 8)) hL (fun _ h => h) (fun H_10 locs hL ⟨hR_11, hf_12⟩ => ?_))
      refine g_iret C0 hlk hr d_Mo_harm_81 hL ?_
      exact ⟨rdI (by rw [mxHarm, c_5, if_pos rfl, c_17, if_pos rfl, nI_clamp hi31, nI_clamp (by omega), mRec] <;> rfl), (by rw [mxHarm, c_5, if_pos rfl, c_17, if_pos rfl, nI_clamp hi31, nI_clamp (by omega), mRec]; exact ⟨hR_11.1, hR_11.2.1, hR_11.2.2.1, hR_11.2.2.2.1, hR_11.2.2.2.2.1, hR_11.2.2.2.2.2.1, hR_11.2.2.2.2.2.2.1, hR_11.2.2.2.2.2.2.2⟩), ((((gFr.rf.tr hf_3).tr (gFr.ch hc_6 (by omega) (by omega))).tr (gFr.ch hc_9 (by omega) (by omega))).tr hf_12)⟩
    · skip
      refine lv_bipush (v := -2) hx hb d_Mo_harm_20 (by decide +kernel) ?_
      refine g_iret C0 hlk hr d_Mo_harm_22 (t_nil (free := gRg o (o + 8))) ?_
      exact ⟨rdI (by rw [mxHarm, c_5, if_pos rfl, c_17] <;> rfl), (by rw [mxHarm, c_5, if_pos rfl, c_17]; exact ⟨hP.1, hP.2.1, hP.2.2.1, hP.2.2.2.1, hP.2.2.2.2.1, hP.2.2.2.2.2.1, hP.2.2.2.2.2.2.1, hP.2.2.2.2.2.2.2⟩), gFr.rf⟩
  · skip
    refine lv_iconst (v := -1) hx hb d_Mo_harm_8 (by decide +kernel) ?_
    refine g_iret C0 hlk hr d_Mo_harm_9 (t_nil (free := gRg o (o + 8))) ?_
    exact ⟨rdI (by rw [mxHarm, c_5] <;> rfl), (by rw [mxHarm, c_5]; exact ⟨hP.1, hP.2.1, hP.2.2.1, hP.2.2.2.1, hP.2.2.2.2.1, hP.2.2.2.2.2.1, hP.2.2.2.2.2.2.1, hP.2.2.2.2.2.2.2⟩), gFr.rf⟩

set_option maxHeartbeats 4000000 in
set_option maxRecDepth 100000 in
theorem k_Mo_storm (l : Launch) (G : gT) (o : Nat) (S sp bf sv iz rr pd : Nat → Nat) (ln sts td ac : Nat) (a : Int32) (hs6 : sts ≤ 6) (hM : mOk S) : gM l y_Mo_storm c_Mo_storm 4 (some .int) 3 68 0 0 G [.ref o, .int a] (fun H => MAt G o S sp bf sv iz rr pd ln sts td ac H) (wi (.int (mxStorm S sp bf sv iz rr pd ln sts td ac a).1) (fun H H1 => MAtX G o (mxStorm S sp bf sv iz rr pd ln sts td ac a).2 H1 ∧ gFr o (o + 8) H H1)) (gRg o (o + 8)) := by
  refine g_enter "GaleNamesModel" (by decide +kernel) rfl (Nat.le_of_ble_eq_true rfl) ?_
  intro p e s m args below meth c C0 hlk hr hnm hP hK ls hl
  have hx := C0.1
  have hb := C0.2.1
  have hl : lv_has ls 4 [(0, .ref o), (1, .int a)] := hl
  have hn40 := hM.n
  have hg16 := hM.g
  have hk10 := hM.k
  refine lv_iload_n hx hb d_Mo_storm_0 rfl (lv_at hl 1 rfl) ?_
  refine lv_iconst (v := nI 0) hx hb d_Mo_storm_1 (by decide +kernel) ?_
  refine lv_iconst (v := nI 1) hx hb d_Mo_storm_2 (by decide +kernel) ?_
  refine g_S C0 (k_Mo_in l G a (nI 0) (nI 1)) co_Mo_in sm_Mo_in in_Mo gc_Mo_in ml_Mo_33 ⟨Nat.le_of_ble_eq_true rfl, Nat.le_of_ble_eq_true rfl⟩ hK trivial rfl hl.1 rfl (Nat.le_of_ble_eq_true rfl) d_Mo_storm_3 ⟨Nat.le_of_ble_eq_true rfl, Nat.le_of_ble_eq_true rfl⟩ (g_r rfl ?_)
  refine g_zne (tgt := 11) C0 d_Mo_storm_6 (by decide) (fun c_6 => ?_) (fun c_6 => ?_)
  · skip
    have c_6 : inR a 2 = true := (inD_c (h := 1) (by decide)).symm.trans c_6
    obtain ⟨i, hi, hi31, rfl⟩ := inR_t c_6
    refine lv_aload_n hx hb d_Mo_storm_11 rfl (lv_at hl 0 rfl) ?_
    refine lv_iload_n hx hb d_Mo_storm_12 rfl (lv_at hl 1 rfl) ?_
    refine g_V C0 (k_Mo_nextOf l G o S sp bf sv iz rr pd ln sts td ac i (by omega) hM) co_Mo_nextOf im_Mo_nextOf se_Mo_nextOf in_Mo gc_Mo_nextOf ml_Mo_119 ⟨Nat.le_of_ble_eq_true rfl, Nat.le_of_ble_eq_true rfl⟩ hK hP.1 rfl ⟨hP.1, hP.2.1, hP.2.2.1, hP.2.2.2.1, hP.2.2.2.2.1, hP.2.2.2.2.2.1, hP.2.2.2.2.2.2.1, hP.2.2.2.2.2.2.2⟩ rfl hl.1 rfl (Nat.le_of_ble_eq_true rfl) d_Mo_storm_13 ⟨Nat.le_of_ble_eq_true rfl, Nat.le_of_ble_eq_true rfl⟩ (g_r rfl ?_)
    refine lv_istore_n (lv' := [(2, .int (oI (-6) (mNx S i))), (0, .ref o), (1, .int (nI i))]) hx hb d_Mo_storm_16 rfl hl (by decide) rfl (fun ls hl => ?_)
    refine lv_iload_n hx hb d_Mo_storm_17 rfl (lv_at hl 0 rfl) ?_
    refine lv_bipush (v := -6) hx hb d_Mo_storm_18 (by decide +kernel) ?_
    refine lv_icmp_ne (tgt := 26) hx hb d_Mo_storm_20 (by decide) (fun c_20 => ?_) (fun c_20 => ?_)
    · skip
      have c_20 : ¬ mNx S i = none := fun h => c_20 (by rw [h]; rfl)
      obtain ⟨v, hv⟩ : ∃ v, mNx S i = some v := by
        cases e : mNx S i with
        | none => exact absurd e c_20
        | some v => exact ⟨v, rfl⟩
      have hvl := mNx_lt hM hi hv
      rw [hv] at hl
      have hl : lv_has ls 4 [(2, .int (nI v)), (0, .ref o), (1, .int (nI i))] := hl
      refine lv_aload_n hx hb d_Mo_storm_26 rfl (lv_at hl 1 rfl) ?_
      refine g_get C0 hK il_Mo hP.1 rfl 0 (by decide) fl_Mo_7 rfl d_Mo_storm_27 ?_
      refine lv_iconst (v := nI 5) hx hb d_Mo_storm_30 (by decide +kernel) ?_
      refine g_iald C0 hK hP.2.1 (by omega) (by omega) d_Mo_storm_31 ?_
      refine lv_bipush (v := nI 16) hx hb d_Mo_storm_32 (by decide +kernel) ?_
      refine g_cne (tgt := 40) C0 d_Mo_storm_34 (by decide) (by first | omega | exact hM.b (by omega) | exact hR.p (by omega)) (by first | omega | exact hM.b (by omega) | exact hR.p (by omega)) (fun c_34 => ?_) (fun c_34 => ?_)
      · skip
        refine lv_aload_n hx hb d_Mo_storm_40 rfl (lv_at hl 1 rfl) ?_
        refine g_V C0 (k_Mo_hold l G o S sp bf sv iz rr pd ln sts td ac ) co_Mo_hold im_Mo_hold se_Mo_hold in_Mo gc_Mo_hold ml_Mo_85 ⟨Nat.le_of_ble_eq_true rfl, Nat.le_of_ble_eq_true rfl⟩ hK hP.1 rfl ⟨hP.1, hP.2.1, hP.2.2.1, hP.2.2.2.1, hP.2.2.2.2.1, hP.2.2.2.2.2.1, hP.2.2.2.2.2.2.1, hP.2.2.2.2.2.2.2⟩ rfl hl.1 rfl (Nat.le_of_ble_eq_true rfl) d_Mo_storm_41 ⟨Nat.le_of_ble_eq_true rfl, Nat.le_of_ble_eq_true rfl⟩ (g_wv (free := gRg o (o + 8)) (t_nil (free := gRg o (o + 8))) (fun _ h => h) (fun H_1 locs hL ⟨hR_2, hf_3⟩ => ?_))
        refine lv_aload_n hx hb d_Mo_storm_44 rfl (lv_at hl 1 rfl) ?_
        refine g_get C0 hK il_Mo hR_2.1 rfl 0 (by decide) fl_Mo_7 rfl d_Mo_storm_45 ?_
        refine lv_iconst (v := nI 5) hx hb d_Mo_storm_48 (by decide +kernel) ?_
        refine g_iald C0 hK hR_2.2.1 (by omega) (by omega) d_Mo_storm_49 ?_
        refine g_S C0 (k_Mo_g l G (S 5)) co_Mo_g sm_Mo_g in_Mo gc_Mo_g ml_Mo_74 ⟨Nat.le_of_ble_eq_true rfl, Nat.le_of_ble_eq_true rfl⟩ hK trivial rfl hl.1 rfl (Nat.le_of_ble_eq_true rfl) d_Mo_storm_50 ⟨Nat.le_of_ble_eq_true rfl, Nat.le_of_ble_eq_true rfl⟩ (g_r rfl ?_)
        refine lv_istore_n (lv' := [(3, .int (nI (463 + 3 * (S 5)))), (2, .int (nI v)), (0, .ref o), (1, .int (nI i))]) hx hb d_Mo_storm_53 rfl hl (by decide) rfl (fun ls hl => ?_)
        refine lv_aload_n hx hb d_Mo_storm_54 rfl (lv_at hl 2 rfl) ?_
        refine g_get C0 hK il_Mo hR_2.1 rfl 0 (by decide) fl_Mo_7 rfl d_Mo_storm_55 ?_
        refine lv_iload_n hx hb d_Mo_storm_58 rfl (lv_at hl 0 rfl) ?_
        refine lv_iload_n hx hb d_Mo_storm_59 rfl (lv_at hl 1 rfl) ?_
        refine g_iast (free := gRg o (o + 8)) C0 hK hR_2.2.1 (by omega) (by omega) d_Mo_storm_60 hL (gRg.mk (by omega) (by omega)) (fun H_4 locs hL hA_5 hc_6 => ?_)
        refine lv_aload_n hx hb d_Mo_storm_61 rfl (lv_at hl 2 rfl) ?_
        refine g_get C0 hK il_Mo (hR_2.1.ch hc_6 (by omega)) rfl 0 (by decide) fl_Mo_7 rfl d_Mo_storm_62 ?_
        refine lv_iload_n hx hb d_Mo_storm_65 rfl (lv_at hl 0 rfl) ?_
        refine lv_iconst (v := nI 1) hx hb d_Mo_storm_66 (by decide +kernel) ?_
        refine g_iadd C0 (z := 463 + 3 * (S 5) + 1) d_Mo_storm_67 rfl ?_
        refine lv_iload_n hx hb d_Mo_storm_68 rfl (lv_at hl 3 rfl) ?_
        refine g_iast (free := gRg o (o + 8)) C0 hK hA_5 (by omega) (by omega) d_Mo_storm_69 hL (gRg.mk (by omega) (by omega)) (fun H_7 locs hL hA_8 hc_9 => ?_)
        refine lv_aload_n hx hb d_Mo_storm_70 rfl (lv_at hl 2 rfl) ?_
        refine g_get C0 hK il_Mo ((hR_2.1.ch hc_6 (by omega)).ch hc_9 (by omega)) rfl 0 (by decide) fl_Mo_7 rfl d_Mo_storm_71 ?_
        refine lv_iload_n hx hb d_Mo_storm_74 rfl (lv_at hl 0 rfl) ?_
        refine lv_iconst (v := nI 2) hx hb d_Mo_storm_75 (by decide +kernel) ?_
        refine g_iadd C0 (z := 463 + 3 * (S 5) + 2) d_Mo_storm_76 rfl ?_
        refine lv_iconst (v := nI 0) hx hb d_Mo_storm_77 (by decide +kernel) ?_
        refine g_iast (free := gRg o (o + 8)) C0 hK hA_8 (by omega) (by omega) d_Mo_storm_78 hL (gRg.mk (by omega) (by omega)) (fun H_10 locs hL hA_11 hc_12 => ?_)
        refine lv_aload_n hx hb d_Mo_storm_79 rfl (lv_at hl 2 rfl) ?_
        refine g_get C0 hK il_Mo (((hR_2.1.ch hc_6 (by omega)).ch hc_9 (by omega)).ch hc_12 (by omega)) rfl 0 (by decide) fl_Mo_7 rfl d_Mo_storm_80 ?_
        refine lv_iconst (v := nI 5) hx hb d_Mo_storm_83 (by decide +kernel) ?_
        refine lv_dup2_11 hx hb d_Mo_storm_84 rfl rfl ?_
        refine g_iald C0 hK hA_11 (by omega) (by omega) d_Mo_storm_85 ?_
        refine lv_iconst (v := nI 1) hx hb d_Mo_storm_86 (by decide +kernel) ?_
        refine g_iadd C0 (z := (va_up (va_up (va_up S (463 + 3 * (S 5)) v) (463 + 3 * (S 5) + 1) i) (463 + 3 * (S 5) + 2) 0) 5 + 1) d_Mo_storm_87 rfl ?_
        refine g_iast (free := gRg o (o + 8)) C0 hK hA_11 (by omega) (by omega) d_Mo_storm_88 hL (gRg.mk (by omega) (by omega)) (fun H_13 locs hL hA_14 hc_15 => ?_)
        refine lv_aload_n hx hb d_Mo_storm_89 rfl (lv_at hl 2 rfl) ?_
        refine g_get C0 hK il_Mo ((((hR_2.1.ch hc_6 (by omega)).ch hc_9 (by omega)).ch hc_12 (by omega)).ch hc_15 (by omega)) rfl 0 (by decide) fl_Mo_7 rfl d_Mo_storm_90 ?_
        refine lv_bipush (v := nI 6) hx hb d_Mo_storm_93 (by decide +kernel) ?_
        refine lv_dup2_11 hx hb d_Mo_storm_95 rfl rfl ?_
        refine g_iald C0 hK hA_14 (by omega) (by omega) d_Mo_storm_96 ?_
        refine lv_iconst (v := nI 1) hx hb d_Mo_storm_97 (by decide +kernel) ?_
        refine g_iadd C0 (z := (va_up (va_up (va_up (va_up S (463 + 3 * (S 5)) v) (463 + 3 * (S 5) + 1) i) (463 + 3 * (S 5) + 2) 0) 5 ((va_up (va_up (va_up S (463 + 3 * (S 5)) v) (463 + 3 * (S 5) + 1) i) (463 + 3 * (S 5) + 2) 0) 5 + 1)) 6 + 1) d_Mo_storm_98 rfl ?_
        refine g_iast (free := gRg o (o + 8)) C0 hK hA_14 (by omega) (by omega) d_Mo_storm_99 hL (gRg.mk (by omega) (by omega)) (fun H_16 locs hL hA_17 hc_18 => ?_)
        refine lv_aload_n hx hb d_Mo_storm_100 rfl (lv_at hl 2 rfl) ?_
        refine g_get C0 hK il_Mo (((((hR_2.1.ch hc_6 (by omega)).ch hc_9 (by omega)).ch hc_12 (by omega)).ch hc_15 (by omega)).ch hc_18 (by omega)) rfl 0 (by decide) fl_Mo_7 rfl d_Mo_storm_101 ?_
        refine lv_iload_n hx hb d_Mo_storm_104 rfl (lv_at hl 1 rfl) ?_
        refine g_S C0 (k_Mo_n l G v) co_Mo_n sm_Mo_n in_Mo gc_Mo_n ml_Mo_57 ⟨Nat.le_of_ble_eq_true rfl, Nat.le_of_ble_eq_true rfl⟩ hK trivial rfl hl.1 rfl (Nat.le_of_ble_eq_true rfl) d_Mo_storm_105 ⟨Nat.le_of_ble_eq_true rfl, Nat.le_of_ble_eq_true rfl⟩ (g_r rfl ?_)
        refine lv_bipush (v := nI 8) hx hb d_Mo_storm_108 (by decide +kernel) ?_
        refine g_iadd C0 (z := 9 + 10 * v + 8) d_Mo_storm_110 rfl ?_
        refine lv_dup2_11 hx hb d_Mo_storm_111 rfl rfl ?_
        refine g_iald C0 hK hA_17 (by omega) (by omega) d_Mo_storm_112 ?_
        refine lv_iconst (v := nI 1) hx hb d_Mo_storm_113 (by decide +kernel) ?_
        refine g_iadd C0 (z := (va_up (va_up (va_up (va_up (va_up S (463 + 3 * (S 5)) v) (463 + 3 * (S 5) + 1) i) (463 + 3 * (S 5) + 2) 0) 5 ((va_up (va_up (va_up S (463 + 3 * (S 5)) v) (463 + 3 * (S 5) + 1) i) (463 + 3 * (S 5) + 2) 0) 5 + 1)) 6 ((va_up (va_up (va_up (va_up S (463 + 3 * (S 5)) v) (463 + 3 * (S 5) + 1) i) (463 + 3 * (S 5) + 2) 0) 5 ((va_up (va_up (va_up S (463 + 3 * (S 5)) v) (463 + 3 * (S 5) + 1) i) (463 + 3 * (S 5) + 2) 0) 5 + 1)) 6 + 1)) (9 + 10 * v + 8) + 1) d_Mo_storm_114 rfl ?_
        refine g_iast (free := gRg o (o + 8)) C0 hK hA_17 (by omega) (by omega) d_Mo_storm_115 hL (gRg.mk (by omega) (by omega)) (fun H_19 locs hL hA_20 hc_21 => ?_)
        refine lv_aload_n hx hb d_Mo_storm_116 rfl (lv_at hl 2 rfl) ?_
        refine lv_aload_n hx hb d_Mo_storm_117 rfl (lv_at hl 2 rfl) ?_
        refine g_get C0 hK il_Mo ((((((hR_2.1.ch hc_6 (by omega)).ch hc_9 (by omega)).ch hc_12 (by omega)).ch hc_15 (by omega)).ch hc_18 (by omega)).ch hc_21 (by omega)) rfl 0 (by decide) fl_Mo_7 rfl d_Mo_storm_118 ?_
        refine lv_iconst (v := nI 5) hx hb d_Mo_storm_121 (by decide +kernel) ?_
        have h6 : (va_up (va_up (va_up (va_up (va_up (va_up S (463 + 3 * (S 5)) v) (463 + 3 * (S 5) + 1) i) (463 + 3 * (S 5) + 2) 0) 5 ((va_up (va_up (va_up S (463 + 3 * (S 5)) v) (463 + 3 * (S 5) + 1) i) (463 + 3 * (S 5) + 2) 0) 5 + 1)) 6 ((va_up (va_up (va_up (va_up S (463 + 3 * (S 5)) v) (463 + 3 * (S 5) + 1) i) (463 + 3 * (S 5) + 2) 0) 5 ((va_up (va_up (va_up S (463 + 3 * (S 5)) v) (463 + 3 * (S 5) + 1) i) (463 + 3 * (S 5) + 2) 0) 5 + 1)) 6 + 1)) (9 + 10 * v + 8) ((va_up (va_up (va_up (va_up (va_up S (463 + 3 * (S 5)) v) (463 + 3 * (S 5) + 1) i) (463 + 3 * (S 5) + 2) 0) 5 ((va_up (va_up (va_up S (463 + 3 * (S 5)) v) (463 + 3 * (S 5) + 1) i) (463 + 3 * (S 5) + 2) 0) 5 + 1)) 6 ((va_up (va_up (va_up (va_up S (463 + 3 * (S 5)) v) (463 + 3 * (S 5) + 1) i) (463 + 3 * (S 5) + 2) 0) 5 ((va_up (va_up (va_up S (463 + 3 * (S 5)) v) (463 + 3 * (S 5) + 1) i) (463 + 3 * (S 5) + 2) 0) 5 + 1)) 6 + 1)) (9 + 10 * v + 8) + 1)) 5 = S 5 + 1 := by rw [vu_n (by omega), vu_n (by omega), vu_s, vu_n (by omega), vu_n (by omega), vu_n (by omega)]
        refine g_iald C0 hK hA_20 (by omega) (by omega) d_Mo_storm_122 ?_
        refine lv_iconst (v := nI 1) hx hb d_Mo_storm_123 (by decide +kernel) ?_
        refine g_isub C0 (z := ((va_up (va_up (va_up (va_up (va_up (va_up S (463 + 3 * (S 5)) v) (463 + 3 * (S 5) + 1) i) (463 + 3 * (S 5) + 2) 0) 5 ((va_up (va_up (va_up S (463 + 3 * (S 5)) v) (463 + 3 * (S 5) + 1) i) (463 + 3 * (S 5) + 2) 0) 5 + 1)) 6 ((va_up (va_up (va_up (va_up S (463 + 3 * (S 5)) v) (463 + 3 * (S 5) + 1) i) (463 + 3 * (S 5) + 2) 0) 5 ((va_up (va_up (va_up S (463 + 3 * (S 5)) v) (463 + 3 * (S 5) + 1) i) (463 + 3 * (S 5) + 2) 0) 5 + 1)) 6 + 1)) (9 + 10 * v + 8) ((va_up (va_up (va_up (va_up (va_up S (463 + 3 * (S 5)) v) (463 + 3 * (S 5) + 1) i) (463 + 3 * (S 5) + 2) 0) 5 ((va_up (va_up (va_up S (463 + 3 * (S 5)) v) (463 + 3 * (S 5) + 1) i) (463 + 3 * (S 5) + 2) 0) 5 + 1)) 6 ((va_up (va_up (va_up (va_up S (463 + 3 * (S 5)) v) (463 + 3 * (S 5) + 1) i) (463 + 3 * (S 5) + 2) 0) 5 ((va_up (va_up (va_up S (463 + 3 * (S 5)) v) (463 + 3 * (S 5) + 1) i) (463 + 3 * (S 5) + 2) 0) 5 + 1)) 6 + 1)) (9 + 10 * v + 8) + 1)) 5) - 1) d_Mo_storm_124 (by omega) ?_
        refine g_V C0 (k_Mo_recorded l G o (va_up (va_up (va_up (va_up (va_up (va_up S (463 + 3 * (S 5)) v) (463 + 3 * (S 5) + 1) i) (463 + 3 * (S 5) + 2) 0) 5 ((va_up (va_up (va_up S (463 + 3 * (S 5)) v) (463 + 3 * (S 5) + 1) i) (463 + 3 * (S 5) + 2) 0) 5 + 1)) 6 ((va_up (va_up (va_up (va_up S (463 + 3 * (S 5)) v) (463 + 3 * (S 5) + 1) i) (463 + 3 * (S 5) + 2) 0) 5 ((va_up (va_up (va_up S (463 + 3 * (S 5)) v) (463 + 3 * (S 5) + 1) i) (463 + 3 * (S 5) + 2) 0) 5 + 1)) 6 + 1)) (9 + 10 * v + 8) ((va_up (va_up (va_up (va_up (va_up S (463 + 3 * (S 5)) v) (463 + 3 * (S 5) + 1) i) (463 + 3 * (S 5) + 2) 0) 5 ((va_up (va_up (va_up S (463 + 3 * (S 5)) v) (463 + 3 * (S 5) + 1) i) (463 + 3 * (S 5) + 2) 0) 5 + 1)) 6 ((va_up (va_up (va_up (va_up S (463 + 3 * (S 5)) v) (463 + 3 * (S 5) + 1) i) (463 + 3 * (S 5) + 2) 0) 5 ((va_up (va_up (va_up S (463 + 3 * (S 5)) v) (463 + 3 * (S 5) + 1) i) (463 + 3 * (S 5) + 2) 0) 5 + 1)) 6 + 1)) (9 + 10 * v + 8) + 1)) (ovr S sp 541) bf sv iz rr pd ln sts td ac (nI (((va_up (va_up (va_up (va_up (va_up (va_up S (463 + 3 * (S 5)) v) (463 + 3 * (S 5) + 1) i) (463 + 3 * (S 5) + 2) 0) 5 ((va_up (va_up (va_up S (463 + 3 * (S 5)) v) (463 + 3 * (S 5) + 1) i) (463 + 3 * (S 5) + 2) 0) 5 + 1)) 6 ((va_up (va_up (va_up (va_up S (463 + 3 * (S 5)) v) (463 + 3 * (S 5) + 1) i) (463 + 3 * (S 5) + 2) 0) 5 ((va_up (va_up (va_up S (463 + 3 * (S 5)) v) (463 + 3 * (S 5) + 1) i) (463 + 3 * (S 5) + 2) 0) 5 + 1)) 6 + 1)) (9 + 10 * v + 8) ((va_up (va_up (va_up (va_up (va_up S (463 + 3 * (S 5)) v) (463 + 3 * (S 5) + 1) i) (463 + 3 * (S 5) + 2) 0) 5 ((va_up (va_up (va_up S (463 + 3 * (S 5)) v) (463 + 3 * (S 5) + 1) i) (463 + 3 * (S 5) + 2) 0) 5 + 1)) 6 ((va_up (va_up (va_up (va_up S (463 + 3 * (S 5)) v) (463 + 3 * (S 5) + 1) i) (463 + 3 * (S 5) + 2) 0) 5 ((va_up (va_up (va_up S (463 + 3 * (S 5)) v) (463 + 3 * (S 5) + 1) i) (463 + 3 * (S 5) + 2) 0) 5 + 1)) 6 + 1)) (9 + 10 * v + 8) + 1)) 5) - 1)) (by omega)) co_Mo_recorded im_Mo_recorded se_Mo_recorded in_Mo gc_Mo_recorded ml_Mo_88 ⟨Nat.le_of_ble_eq_true rfl, Nat.le_of_ble_eq_true rfl⟩ hK ((((((hR_2.1.ch hc_6 (by omega)).ch hc_9 (by omega)).ch hc_12 (by omega)).ch hc_15 (by omega)).ch hc_18 (by omega)).ch hc_21 (by omega)) rfl ⟨((((((hR_2.1.ch hc_6 (by omega)).ch hc_9 (by omega)).ch hc_12 (by omega)).ch hc_15 (by omega)).ch hc_18 (by omega)).ch hc_21 (by omega)), hA_20, ((((((hR_2.2.2.1.ch hc_6 (by omega)).ch hc_9 (by omega)).ch hc_12 (by omega)).ch hc_15 (by omega)).ch hc_18 (by omega)).ch hc_21 (by omega)), ((((((hR_2.2.2.2.1.ch hc_6 (by omega)).ch hc_9 (by omega)).ch hc_12 (by omega)).ch hc_15 (by omega)).ch hc_18 (by omega)).ch hc_21 (by omega)), ((((((hR_2.2.2.2.2.1.ch hc_6 (by omega)).ch hc_9 (by omega)).ch hc_12 (by omega)).ch hc_15 (by omega)).ch hc_18 (by omega)).ch hc_21 (by omega)), ((((((hR_2.2.2.2.2.2.1.ch hc_6 (by omega)).ch hc_9 (by omega)).ch hc_12 (by omega)).ch hc_15 (by omega)).ch hc_18 (by omega)).ch hc_21 (by omega)), ((((((hR_2.2.2.2.2.2.2.1.ch hc_6 (by omega)).ch hc_9 (by omega)).ch hc_12 (by omega)).ch hc_15 (by omega)).ch hc_18 (by omega)).ch hc_21 (by omega)), ((((((hR_2.2.2.2.2.2.2.2.ch hc_6 (by omega)).ch hc_9 (by omega)).ch hc_12 (by omega)).ch hc_15 (by omega)).ch hc_18 (by omega)).ch hc_21 (by omega))⟩ rfl hl.1 rfl (Nat.le_of_ble_eq_true rfl) d_Mo_storm_125 ⟨Nat.le_of_ble_eq_true rfl, Nat.le_of_ble_eq_true rfl⟩ (g_wi (free := gRg o (o + 8)) hL (fun _ h => h) (fun H_22 locs hL ⟨hR_23, hf_24⟩ => ?_))
        refine g_iret C0 hlk hr d_Mo_storm_128 hL ?_
        exact ⟨rdI (by rw [mxStorm, c_6, if_pos rfl, nI_clamp hi31, hv]; show (if S 5 = 16 then _ else _ : Int32 × MS).1 = _; rw [if_neg c_34]; rfl), (by rw [mxStorm, c_6, if_pos rfl, nI_clamp hi31, hv]; show MAtX G o (if S 5 = 16 then _ else _ : Int32 × MS).2 _; rw [if_neg c_34, mRec]; exact ⟨hR_23.1, hR_23.2.1, hR_23.2.2.1, hR_23.2.2.2.1, hR_23.2.2.2.2.1, hR_23.2.2.2.2.2.1, hR_23.2.2.2.2.2.2.1, hR_23.2.2.2.2.2.2.2⟩), ((((((((gFr.rf.tr hf_3).tr (gFr.ch hc_6 (by omega) (by omega))).tr (gFr.ch hc_9 (by omega) (by omega))).tr (gFr.ch hc_12 (by omega) (by omega))).tr (gFr.ch hc_15 (by omega) (by omega))).tr (gFr.ch hc_18 (by omega) (by omega))).tr (gFr.ch hc_21 (by omega) (by omega))).tr hf_24)⟩
      · skip
        refine lv_bipush (v := -4) hx hb d_Mo_storm_37 (by decide +kernel) ?_
        refine g_iret C0 hlk hr d_Mo_storm_39 (t_nil (free := gRg o (o + 8))) ?_
        exact ⟨rdI (by rw [mxStorm, c_6, if_pos rfl, nI_clamp hi31, hv]; show (if S 5 = 16 then _ else _ : Int32 × MS).1 = _; rw [if_pos c_34]), (by rw [mxStorm, c_6, if_pos rfl, nI_clamp hi31, hv]; show MAtX G o (if S 5 = 16 then _ else _ : Int32 × MS).2 _; rw [if_pos c_34]; exact hP), gFr.rf⟩
    · skip
      have c_20 : mNx S i = none := (oI6_n (fun v h => Nat.lt_of_lt_of_le (mNx_lt hM hi h) (by omega))).mp c_20
      refine lv_bipush (v := -5) hx hb d_Mo_storm_23 (by decide +kernel) ?_
      refine g_iret C0 hlk hr d_Mo_storm_25 (t_nil (free := gRg o (o + 8))) ?_
      exact ⟨rdI (by rw [mxStorm, c_6, if_pos rfl, nI_clamp hi31, c_20] <;> rfl), (by rw [mxStorm, c_6, if_pos rfl, nI_clamp hi31, c_20]; exact ⟨hP.1, hP.2.1, hP.2.2.1, hP.2.2.2.1, hP.2.2.2.2.1, hP.2.2.2.2.2.1, hP.2.2.2.2.2.2.1, hP.2.2.2.2.2.2.2⟩), gFr.rf⟩
  · skip
    have c_6 : inR a 2 = false := (inD_c (h := 1) (by decide)).symm.trans c_6
    refine lv_iconst (v := -1) hx hb d_Mo_storm_9 (by decide +kernel) ?_
    refine g_iret C0 hlk hr d_Mo_storm_10 (t_nil (free := gRg o (o + 8))) ?_
    exact ⟨rdI (by rw [mxStorm, c_6] <;> rfl), (by rw [mxStorm, c_6]; exact ⟨hP.1, hP.2.1, hP.2.2.1, hP.2.2.2.1, hP.2.2.2.2.1, hP.2.2.2.2.2.1, hP.2.2.2.2.2.2.1, hP.2.2.2.2.2.2.2⟩), gFr.rf⟩
