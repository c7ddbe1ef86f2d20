set_option maxHeartbeats 4000000 in
set_option maxRecDepth 100000 in
theorem k_St_learn (l : Launch) (G : gT) (b : Nat) (Y : ST) (v : Nat) (hv : v < 2 ^ 31) (hY : SOk Y) : gM l y_St_learn c_St_learn 3 (some .int) 3 64 0 0 G [.ref b, .int (nI v)] (fun H => StAt G b Y H) (wi (.int (nI (lrnN Y v))) (fun H H1 => StAt G b (lrn Y v) H1 ∧ gFr b (b + 36) H H1)) (gRg b (b + 36)) := by
  refine g_enter "GaleNames$State" (by decide +kernel) rfl (Nat.le_of_ble_eq_true rfl) ?_
  intro p e s m args below meth c C0 hlk hr hnm hP hK ls hl
  have hx := C0.1
  have hb := C0.2.1
  have hl : lv_has ls 3 [(0, .ref b), (1, .int (nI v))] := hl
  have h1 := (hP.2.2 1 (by decide)).2.2.1
  have hpos := rAdd_pos (cap := 40) (R := Y.2 1) (v := v) (by decide) h1
  refine lv_aload_n hx hb d_St_learn_0 rfl (lv_at hl 0 rfl) ?_
  refine g_get C0 hK il_St hP.1 rfl 2 (by decide) fl_St_20 rfl d_St_learn_1 ?_
  refine lv_iload_n hx hb d_St_learn_4 rfl (lv_at hl 1 rfl) ?_
  refine g_V C0 (k_Ro_placeOf l G (b + 3) 40 (Y.2 1) v (by omega) (hY.b (by decide))) co_Ro_placeOf im_Ro_placeOf se_Ro_placeOf in_Ro gc_Ro_placeOf ml_St_102 ⟨Nat.le_of_ble_eq_true rfl, Nat.le_of_ble_eq_true rfl⟩ hK (hP.2.2 1 (by decide)).1 rfl (hP.2.2 1 (by decide)) rfl hl.1 rfl (Nat.le_of_ble_eq_true rfl) d_St_learn_5 ⟨Nat.le_of_ble_eq_true rfl, Nat.le_of_ble_eq_true rfl⟩ (g_r rfl ?_)
  refine lv_istore_n (lv' := [(2, .int (oI (-1) (rPl (Y.2 1) v))), (0, .ref b), (1, .int (nI v))]) hx hb d_St_learn_8 rfl hl (by decide) rfl (fun ls hl => ?_)
  refine lv_iload_n hx hb d_St_learn_9 rfl (lv_at hl 0 rfl) ?_
  refine lv_iconst (v := -1) hx hb d_St_learn_10 (by decide +kernel) ?_
  refine lv_icmp_eq (tgt := 16) hx hb d_St_learn_11 (by decide) (fun c_11 => ?_) (fun c_11 => ?_)
  · skip
    have c_11 : rPl (Y.2 1) v = none := (oI_m (fun i h => Nat.lt_trans (fF_s h).1 (hP.2.2 1 (by decide)).lt)).mp c_11
    refine lv_aload_n hx hb d_St_learn_16 rfl (lv_at hl 1 rfl) ?_
    refine g_get C0 hK il_St hP.1 rfl 2 (by decide) fl_St_20 rfl d_St_learn_17 ?_
    refine lv_iload_n hx hb d_St_learn_20 rfl (lv_at hl 2 rfl) ?_
    refine g_V C0 (k_Ro_add l G (b + 3) 40 (Y.2 1) v) co_Ro_add im_Ro_add se_Ro_add in_Ro gc_Ro_add ml_St_54 ⟨Nat.le_of_ble_eq_true rfl, Nat.le_of_ble_eq_true rfl⟩ hK (hP.2.2 1 (by decide)).1 rfl (hP.2.2 1 (by decide)) rfl hl.1 rfl (Nat.le_of_ble_eq_true rfl) d_St_learn_21 ⟨Nat.le_of_ble_eq_true rfl, Nat.le_of_ble_eq_true rfl⟩ (g_wv (free := gRg b (b + 36)) (t_nil (free := gRg b (b + 36))) (gRg.mono (by omega) (by omega)) (fun H_1 locs hL ⟨hR_2, hf_3⟩ => ?_))
    have hS_2 := hP.up 1 (by decide) hR_2 hf_3
    refine lv_aload_n hx hb d_St_learn_24 rfl (lv_at hl 1 rfl) ?_
    refine g_get C0 hK il_St hS_2.1 rfl 3 (by decide) fl_St_23 rfl d_St_learn_25 ?_
    refine lv_iconst (v := nI 0) hx hb d_St_learn_28 (by decide +kernel) ?_
    refine g_V C0 (k_Ro_add l G (b + 5) 40 (Y.2 2) 0) co_Ro_add im_Ro_add se_Ro_add in_Ro gc_Ro_add ml_St_54 ⟨Nat.le_of_ble_eq_true rfl, Nat.le_of_ble_eq_true rfl⟩ hK (hS_2.2.2 2 (by decide)).1 rfl (hS_2.2.2 2 (by decide)) rfl hl.1 rfl (Nat.le_of_ble_eq_true rfl) d_St_learn_29 ⟨Nat.le_of_ble_eq_true rfl, Nat.le_of_ble_eq_true rfl⟩ (g_wv (free := gRg b (b + 36)) hL (gRg.mono (by omega) (by omega)) (fun H_4 locs hL ⟨hR_5, hf_6⟩ => ?_))
    have hS_5 := hS_2.up 2 (by decide) hR_5 hf_6
    refine lv_aload_n hx hb d_St_learn_32 rfl (lv_at hl 1 rfl) ?_
    refine g_get C0 hK il_St hS_5.1 rfl 4 (by decide) fl_St_26 rfl d_St_learn_33 ?_
    refine lv_iconst (v := nI 0) hx hb d_St_learn_36 (by decide +kernel) ?_
    refine g_V C0 (k_Ro_add l G (b + 7) 40 (Y.2 3) 0) co_Ro_add im_Ro_add se_Ro_add in_Ro gc_Ro_add ml_St_54 ⟨Nat.le_of_ble_eq_true rfl, Nat.le_of_ble_eq_true rfl⟩ hK (hS_5.2.2 3 (by decide)).1 rfl (hS_5.2.2 3 (by decide)) rfl hl.1 rfl (Nat.le_of_ble_eq_true rfl) d_St_learn_37 ⟨Nat.le_of_ble_eq_true rfl, Nat.le_of_ble_eq_true rfl⟩ (g_wv (free := gRg b (b + 36)) hL (gRg.mono (by omega) (by omega)) (fun H_7 locs hL ⟨hR_8, hf_9⟩ => ?_))
    have hS_8 := hS_5.up 3 (by decide) hR_8 hf_9
    refine lv_aload_n hx hb d_St_learn_40 rfl (lv_at hl 1 rfl) ?_
    refine g_get C0 hK il_St hS_8.1 rfl 5 (by decide) fl_St_29 rfl d_St_learn_41 ?_
    refine lv_iconst (v := nI 0) hx hb d_St_learn_44 (by decide +kernel) ?_
    refine g_V C0 (k_Ro_add l G (b + 9) 40 (Y.2 4) 0) co_Ro_add im_Ro_add se_Ro_add in_Ro gc_Ro_add ml_St_54 ⟨Nat.le_of_ble_eq_true rfl, Nat.le_of_ble_eq_true rfl⟩ hK (hS_8.2.2 4 (by decide)).1 rfl (hS_8.2.2 4 (by decide)) rfl hl.1 rfl (Nat.le_of_ble_eq_true rfl) d_St_learn_45 ⟨Nat.le_of_ble_eq_true rfl, Nat.le_of_ble_eq_true rfl⟩ (g_wv (free := gRg b (b + 36)) hL (gRg.mono (by omega) (by omega)) (fun H_10 locs hL ⟨hR_11, hf_12⟩ => ?_))
    have hS_11 := hS_8.up 4 (by decide) hR_11 hf_12
    refine lv_aload_n hx hb d_St_learn_48 rfl (lv_at hl 1 rfl) ?_
    refine g_get C0 hK il_St hS_11.1 rfl 2 (by decide) fl_St_20 rfl d_St_learn_49 ?_
    refine g_V C0 (k_Ro_size l G (b + 3) 40 (rAdd 40 (Y.2 1) v) ) co_Ro_size im_Ro_size se_Ro_size in_Ro gc_Ro_size ml_St_84 ⟨Nat.le_of_ble_eq_true rfl, Nat.le_of_ble_eq_true rfl⟩ hK (hS_11.2.2 1 (by decide)).1 rfl (hS_11.2.2 1 (by decide)) rfl hl.1 rfl (Nat.le_of_ble_eq_true rfl) d_St_learn_52 ⟨Nat.le_of_ble_eq_true rfl, Nat.le_of_ble_eq_true rfl⟩ (g_r rfl ?_)
    refine lv_iconst (v := nI 1) hx hb d_St_learn_55 (by decide +kernel) ?_
    refine g_isub C0 (z := ((rAdd 40 (Y.2 1) v).1) - 1) d_St_learn_56 (by omega) ?_
    refine g_iret C0 hlk hr d_St_learn_57 hL ?_
    exact ⟨rdI (by rw [(lrn_n c_11).2]), (by rw [(lrn_n c_11).1]; exact hS_11), ((((gFr.rf.tr (hf_3.mono (by omega) (by omega))).tr (hf_6.mono (by omega) (by omega))).tr (hf_9.mono (by omega) (by omega))).tr (hf_12.mono (by omega) (by omega)))⟩
  · skip
    obtain ⟨i, hi⟩ : ∃ i, rPl (Y.2 1) v = some i := oI_some c_11
    rw [hi] at hl
    have hl : lv_has ls 3 [(2, .int (nI i)), (0, .ref b), (1, .int (nI v))] := hl
    refine lv_iload_n hx hb d_St_learn_14 rfl (lv_at hl 0 rfl) ?_
    refine g_iret C0 hlk hr d_St_learn_15 (t_nil (free := gRg b (b + 36))) ?_
    exact ⟨rdI (by rw [(lrn_s hi).2]), by rw [(lrn_s hi).1]; exact hP, gFr.rf⟩

set_option maxHeartbeats 4000000 in
set_option maxRecDepth 100000 in
theorem k_St_addStorm (l : Launch) (G : gT) (b : Nat) (Y : ST) (v ct : Nat) (hv : v < 2 ^ 31) : gM l y_St_addStorm c_St_addStorm 3 (some .int) 3 65 0 0 G [.ref b, .int (nI v), .int (nI ct)] (fun H => StAt G b Y H) (wi (.int (nI ((rAdd 16 (Y.2 11) v).1 - 1))) (fun H H1 => StAt G b (adS Y v ct) H1 ∧ gFr b (b + 36) H H1)) (gRg b (b + 36)) := by
  refine g_enter "GaleNames$State" (by decide +kernel) rfl (Nat.le_of_ble_eq_true rfl) ?_
  intro p e s m args below meth c C0 hlk hr hnm hP hK ls hl
  have hx := C0.1
  have hb := C0.2.1
  have hl : lv_has ls 3 [(0, .ref b), (1, .int (nI v)), (2, .int (nI ct))] := hl
  have h1 := (hP.2.2 11 (by decide)).2.2.1
  have hpos := rAdd_pos (cap := 16) (R := Y.2 11) (v := v) (by decide) h1
  refine lv_aload_n hx hb d_St_addStorm_0 rfl (lv_at hl 0 rfl) ?_
  refine g_get C0 hK il_St hP.1 rfl 7 (by decide) fl_St_36 rfl d_St_addStorm_1 ?_
  refine lv_iload_n hx hb d_St_addStorm_4 rfl (lv_at hl 1 rfl) ?_
  refine g_V C0 (k_Ro_add l G (b + 12) 16 (Y.2 11) v) co_Ro_add im_Ro_add se_Ro_add in_Ro gc_Ro_add ml_St_54 ⟨Nat.le_of_ble_eq_true rfl, Nat.le_of_ble_eq_true rfl⟩ hK (hP.2.2 11 (by decide)).1 rfl (hP.2.2 11 (by decide)) rfl hl.1 rfl (Nat.le_of_ble_eq_true rfl) d_St_addStorm_5 ⟨Nat.le_of_ble_eq_true rfl, Nat.le_of_ble_eq_true rfl⟩ (g_wv (free := gRg b (b + 36)) (t_nil (free := gRg b (b + 36))) (gRg.mono (by omega) (by omega)) (fun H_1 locs hL ⟨hR_2, hf_3⟩ => ?_))
  have hS_2 := hP.up 11 (by decide) hR_2 hf_3
  refine lv_aload_n hx hb d_St_addStorm_8 rfl (lv_at hl 0 rfl) ?_
  refine g_get C0 hK il_St hS_2.1 rfl 8 (by decide) fl_St_39 rfl d_St_addStorm_9 ?_
  refine lv_iload_n hx hb d_St_addStorm_12 rfl (lv_at hl 2 rfl) ?_
  refine g_V C0 (k_Ro_add l G (b + 14) 16 (Y.2 12) ct) co_Ro_add im_Ro_add se_Ro_add in_Ro gc_Ro_add ml_St_54 ⟨Nat.le_of_ble_eq_true rfl, Nat.le_of_ble_eq_true rfl⟩ hK (hS_2.2.2 12 (by decide)).1 rfl (hS_2.2.2 12 (by decide)) rfl hl.1 rfl (Nat.le_of_ble_eq_true rfl) d_St_addStorm_13 ⟨Nat.le_of_ble_eq_true rfl, Nat.le_of_ble_eq_true rfl⟩ (g_wv (free := gRg b (b + 36)) hL (gRg.mono (by omega) (by omega)) (fun H_4 locs hL ⟨hR_5, hf_6⟩ => ?_))
  have hS_5 := hS_2.up 12 (by decide) hR_5 hf_6
  refine lv_aload_n hx hb d_St_addStorm_16 rfl (lv_at hl 0 rfl) ?_
  refine g_get C0 hK il_St hS_5.1 rfl 9 (by decide) fl_St_42 rfl d_St_addStorm_17 ?_
  refine lv_iconst (v := nI 0) hx hb d_St_addStorm_20 (by decide +kernel) ?_
  refine g_V C0 (k_Ro_add l G (b + 16) 16 (Y.2 13) 0) co_Ro_add im_Ro_add se_Ro_add in_Ro gc_Ro_add ml_St_54 ⟨Nat.le_of_ble_eq_true rfl, Nat.le_of_ble_eq_true rfl⟩ hK (hS_5.2.2 13 (by decide)).1 rfl (hS_5.2.2 13 (by decide)) rfl hl.1 rfl (Nat.le_of_ble_eq_true rfl) d_St_addStorm_21 ⟨Nat.le_of_ble_eq_true rfl, Nat.le_of_ble_eq_true rfl⟩ (g_wv (free := gRg b (b + 36)) hL (gRg.mono (by omega) (by omega)) (fun H_7 locs hL ⟨hR_8, hf_9⟩ => ?_))
  have hS_8 := hS_5.up 13 (by decide) hR_8 hf_9
  refine lv_aload_n hx hb d_St_addStorm_24 rfl (lv_at hl 0 rfl) ?_
  refine g_get C0 hK il_St hS_8.1 rfl 4 (by decide) fl_St_26 rfl d_St_addStorm_25 ?_
  refine lv_iload_n hx hb d_St_addStorm_28 rfl (lv_at hl 1 rfl) ?_
  refine lv_iconst (v := nI 1) hx hb d_St_addStorm_29 (by decide +kernel) ?_
  refine g_V C0 (k_Ro_raise l G (b + 7) 40 (Y.2 3) v (nI 1) (rA (Y.2 3) v + 1) (by omega) (fun _ => nI_add _ _)) co_Ro_raise im_Ro_raise se_Ro_raise in_Ro gc_Ro_raise ml_St_124 ⟨Nat.le_of_ble_eq_true rfl, Nat.le_of_ble_eq_true rfl⟩ hK (hS_8.2.2 3 (by decide)).1 rfl (hS_8.2.2 3 (by decide)) rfl hl.1 rfl (Nat.le_of_ble_eq_true rfl) d_St_addStorm_30 ⟨Nat.le_of_ble_eq_true rfl, Nat.le_of_ble_eq_true rfl⟩ (g_wv (free := gRg b (b + 36)) hL (gRg.mono (by omega) (by omega)) (fun H_10 locs hL ⟨hR_11, hf_12⟩ => ?_))
  have hS_11 := hS_8.up 3 (by decide) hR_11 hf_12
  refine lv_aload_n hx hb d_St_addStorm_33 rfl (lv_at hl 0 rfl) ?_
  refine g_get C0 hK il_St hS_11.1 rfl 7 (by decide) fl_St_36 rfl d_St_addStorm_34 ?_
  refine g_V C0 (k_Ro_size l G (b + 12) 16 (rAdd 16 (Y.2 11) v) ) co_Ro_size im_Ro_size se_Ro_size in_Ro gc_Ro_size ml_St_84 ⟨Nat.le_of_ble_eq_true rfl, Nat.le_of_ble_eq_true rfl⟩ hK (hS_11.2.2 11 (by decide)).1 rfl (hS_11.2.2 11 (by decide)) rfl hl.1 rfl (Nat.le_of_ble_eq_true rfl) d_St_addStorm_37 ⟨Nat.le_of_ble_eq_true rfl, Nat.le_of_ble_eq_true rfl⟩ (g_r rfl ?_)
  refine lv_iconst (v := nI 1) hx hb d_St_addStorm_40 (by decide +kernel) ?_
  refine g_isub C0 (z := ((rAdd 16 (Y.2 11) v).1) - 1) d_St_addStorm_41 (by omega) ?_
  refine g_iret C0 hlk hr d_St_addStorm_42 hL ?_
  exact ⟨rfl, hS_11, ((((gFr.rf.tr (hf_3.mono (by omega) (by omega))).tr (hf_6.mono (by omega) (by omega))).tr (hf_9.mono (by omega) (by omega))).tr (hf_12.mono (by omega) (by omega)))⟩

set_option maxHeartbeats 4000000 in
set_option maxRecDepth 100000 in
theorem k_St_addNamesake (l : Launch) (G : gT) (b : Nat) (Y : ST) (v : Nat) : gM l y_St_addNamesake c_St_addNamesake 2 (some .int) 1 21 0 0 G [.ref b, .int (nI v)] (fun H => StAt G b Y H) (wi (.int (nI ((rAdd 10 (Y.2 14) v).1 - 1))) (fun H H1 => StAt G b (adK Y v) H1 ∧ gFr b (b + 36) H H1)) (gRg b (b + 36)) := by
  refine g_enter "GaleNames$State" (by decide +kernel) rfl (Nat.le_of_ble_eq_true rfl) ?_
  intro p e s m args below meth c C0 hlk hr hnm hP hK ls hl
  have hx := C0.1
  have hb := C0.2.1
  have hl : lv_has ls 2 [(0, .ref b), (1, .int (nI v))] := hl
  have h1 := (hP.2.2 14 (by decide)).2.2.1
  have hpos := rAdd_pos (cap := 10) (R := Y.2 14) (v := v) (by decide) h1
  refine lv_aload_n hx hb d_St_addNamesake_0 rfl (lv_at hl 0 rfl) ?_
  refine g_get C0 hK il_St hP.1 rfl 10 (by decide) fl_St_45 rfl d_St_addNamesake_1 ?_
  refine lv_iload_n hx hb d_St_addNamesake_4 rfl (lv_at hl 1 rfl) ?_
  refine g_V C0 (k_Ro_add l G (b + 18) 10 (Y.2 14) v) co_Ro_add im_Ro_add se_Ro_add in_Ro gc_Ro_add ml_St_54 ⟨Nat.le_of_ble_eq_true rfl, Nat.le_of_ble_eq_true rfl⟩ hK (hP.2.2 14 (by decide)).1 rfl (hP.2.2 14 (by decide)) rfl hl.1 rfl (Nat.le_of_ble_eq_true rfl) d_St_addNamesake_5 ⟨Nat.le_of_ble_eq_true rfl, Nat.le_of_ble_eq_true rfl⟩ (g_wv (free := gRg b (b + 36)) (t_nil (free := gRg b (b + 36))) (gRg.mono (by omega) (by omega)) (fun H_1 locs hL ⟨hR_2, hf_3⟩ => ?_))
  have hS_2 := hP.up 14 (by decide) hR_2 hf_3
  refine lv_aload_n hx hb d_St_addNamesake_8 rfl (lv_at hl 0 rfl) ?_
  refine g_get C0 hK il_St hS_2.1 rfl 11 (by decide) fl_St_48 rfl d_St_addNamesake_9 ?_
  refine lv_iconst (v := nI 0) hx hb d_St_addNamesake_12 (by decide +kernel) ?_
  refine g_V C0 (k_Ro_add l G (b + 20) 10 (Y.2 15) 0) co_Ro_add im_Ro_add se_Ro_add in_Ro gc_Ro_add ml_St_54 ⟨Nat.le_of_ble_eq_true rfl, Nat.le_of_ble_eq_true rfl⟩ hK (hS_2.2.2 15 (by decide)).1 rfl (hS_2.2.2 15 (by decide)) rfl hl.1 rfl (Nat.le_of_ble_eq_true rfl) d_St_addNamesake_13 ⟨Nat.le_of_ble_eq_true rfl, Nat.le_of_ble_eq_true rfl⟩ (g_wv (free := gRg b (b + 36)) hL (gRg.mono (by omega) (by omega)) (fun H_4 locs hL ⟨hR_5, hf_6⟩ => ?_))
  have hS_5 := hS_2.up 15 (by decide) hR_5 hf_6
  refine lv_aload_n hx hb d_St_addNamesake_16 rfl (lv_at hl 0 rfl) ?_
  refine g_get C0 hK il_St hS_5.1 rfl 12 (by decide) fl_St_51 rfl d_St_addNamesake_17 ?_
  refine lv_iconst (v := nI 0) hx hb d_St_addNamesake_20 (by decide +kernel) ?_
  refine g_V C0 (k_Ro_add l G (b + 22) 10 (Y.2 16) 0) co_Ro_add im_Ro_add se_Ro_add in_Ro gc_Ro_add ml_St_54 ⟨Nat.le_of_ble_eq_true rfl, Nat.le_of_ble_eq_true rfl⟩ hK (hS_5.2.2 16 (by decide)).1 rfl (hS_5.2.2 16 (by decide)) rfl hl.1 rfl (Nat.le_of_ble_eq_true rfl) d_St_addNamesake_21 ⟨Nat.le_of_ble_eq_true rfl, Nat.le_of_ble_eq_true rfl⟩ (g_wv (free := gRg b (b + 36)) hL (gRg.mono (by omega) (by omega)) (fun H_7 locs hL ⟨hR_8, hf_9⟩ => ?_))
  have hS_8 := hS_5.up 16 (by decide) hR_8 hf_9
  refine lv_aload_n hx hb d_St_addNamesake_24 rfl (lv_at hl 0 rfl) ?_
  refine g_get C0 hK il_St hS_8.1 rfl 10 (by decide) fl_St_45 rfl d_St_addNamesake_25 ?_
  refine g_V C0 (k_Ro_size l G (b + 18) 10 (rAdd 10 (Y.2 14) v) ) co_Ro_size im_Ro_size se_Ro_size in_Ro gc_Ro_size ml_St_84 ⟨Nat.le_of_ble_eq_true rfl, Nat.le_of_ble_eq_true rfl⟩ hK (hS_8.2.2 14 (by decide)).1 rfl (hS_8.2.2 14 (by decide)) rfl hl.1 rfl (Nat.le_of_ble_eq_true rfl) d_St_addNamesake_28 ⟨Nat.le_of_ble_eq_true rfl, Nat.le_of_ble_eq_true rfl⟩ (g_r rfl ?_)
  refine lv_iconst (v := nI 1) hx hb d_St_addNamesake_31 (by decide +kernel) ?_
  refine g_isub C0 (z := ((rAdd 10 (Y.2 14) v).1) - 1) d_St_addNamesake_32 (by omega) ?_
  refine g_iret C0 hlk hr d_St_addNamesake_33 hL ?_
  exact ⟨rfl, hS_8, (((gFr.rf.tr (hf_3.mono (by omega) (by omega))).tr (hf_6.mono (by omega) (by omega))).tr (hf_9.mono (by omega) (by omega)))⟩

set_option maxHeartbeats 4000000 in
set_option maxRecDepth 100000 in
theorem k_St_beginNextYear (l : Launch) (G : gT) (b : Nat) (Y : ST)  : gM l y_St_beginNextYear c_St_beginNextYear 1 none 1 20 0 0 G [.ref b] (fun H => StAt G b Y H) (wv (fun H H1 => StAt G b (nxY Y) H1 ∧ gFr b (b + 36) H H1)) (gRg b (b + 36)) := by
  refine g_enter "GaleNames$State" (by decide +kernel) rfl (Nat.le_of_ble_eq_true rfl) ?_
  intro p e s m args below meth c C0 hlk hr hnm hP hK ls hl
  have hx := C0.1
  have hb := C0.2.1
  have hl : lv_has ls 1 [(0, .ref b)] := hl
  refine lv_aload_n hx hb d_St_beginNextYear_0 rfl (lv_at hl 0 rfl) ?_
  refine g_get C0 hK il_St hP.1 rfl 7 (by decide) fl_St_36 rfl d_St_beginNextYear_1 ?_
  refine g_V C0 (k_Ro_clear l G (b + 12) 16 (Y.2 11) ) co_Ro_clear im_Ro_clear se_Ro_clear in_Ro gc_Ro_clear ml_St_143 ⟨Nat.le_of_ble_eq_true rfl, Nat.le_of_ble_eq_true rfl⟩ hK (hP.2.2 11 (by decide)).1 rfl (hP.2.2 11 (by decide)) rfl hl.1 rfl (Nat.le_of_ble_eq_true rfl) d_St_beginNextYear_4 ⟨Nat.le_of_ble_eq_true rfl, Nat.le_of_ble_eq_true rfl⟩ (g_wv (free := gRg b (b + 36)) (t_nil (free := gRg b (b + 36))) (gRg.mono (by omega) (by omega)) (fun H_1 locs hL ⟨hR_2, hf_3⟩ => ?_))
  have hS_2 := hP.up 11 (by decide) hR_2 hf_3
  refine lv_aload_n hx hb d_St_beginNextYear_7 rfl (lv_at hl 0 rfl) ?_
  refine g_get C0 hK il_St hS_2.1 rfl 8 (by decide) fl_St_39 rfl d_St_beginNextYear_8 ?_
  refine g_V C0 (k_Ro_clear l G (b + 14) 16 (Y.2 12) ) co_Ro_clear im_Ro_clear se_Ro_clear in_Ro gc_Ro_clear ml_St_143 ⟨Nat.le_of_ble_eq_true rfl, Nat.le_of_ble_eq_true rfl⟩ hK (hS_2.2.2 12 (by decide)).1 rfl (hS_2.2.2 12 (by decide)) rfl hl.1 rfl (Nat.le_of_ble_eq_true rfl) d_St_beginNextYear_11 ⟨Nat.le_of_ble_eq_true rfl, Nat.le_of_ble_eq_true rfl⟩ (g_wv (free := gRg b (b + 36)) hL (gRg.mono (by omega) (by omega)) (fun H_4 locs hL ⟨hR_5, hf_6⟩ => ?_))
  have hS_5 := hS_2.up 12 (by decide) hR_5 hf_6
  refine lv_aload_n hx hb d_St_beginNextYear_14 rfl (lv_at hl 0 rfl) ?_
  refine g_get C0 hK il_St hS_5.1 rfl 9 (by decide) fl_St_42 rfl d_St_beginNextYear_15 ?_
  refine g_V C0 (k_Ro_clear l G (b + 16) 16 (Y.2 13) ) co_Ro_clear im_Ro_clear se_Ro_clear in_Ro gc_Ro_clear ml_St_143 ⟨Nat.le_of_ble_eq_true rfl, Nat.le_of_ble_eq_true rfl⟩ hK (hS_5.2.2 13 (by decide)).1 rfl (hS_5.2.2 13 (by decide)) rfl hl.1 rfl (Nat.le_of_ble_eq_true rfl) d_St_beginNextYear_18 ⟨Nat.le_of_ble_eq_true rfl, Nat.le_of_ble_eq_true rfl⟩ (g_wv (free := gRg b (b + 36)) hL (gRg.mono (by omega) (by omega)) (fun H_7 locs hL ⟨hR_8, hf_9⟩ => ?_))
  have hS_8 := hS_5.up 13 (by decide) hR_8 hf_9
  refine lv_aload_n hx hb d_St_beginNextYear_21 rfl (lv_at hl 0 rfl) ?_
  refine lv_dup hx hb d_St_beginNextYear_22 rfl ?_
  refine g_get C0 hK il_St hS_8.1 rfl 0 (by decide) fl_St_57 rfl d_St_beginNextYear_23 ?_
  refine lv_iconst (v := nI 1) hx hb d_St_beginNextYear_26 (by decide +kernel) ?_
  refine g_iadd C0 (z := Y.1 + 1) d_St_beginNextYear_27 rfl ?_
  refine g_put (free := gRg b (b + 36)) C0 hK il_St tk_St nm_St hS_8.1 rfl 0 (by decide) fl_St_57 rfl rfl rfl (Nat.le_of_ble_eq_true rfl) d_St_beginNextYear_28 hL (gRg.mk (by omega) (by omega)) (fun H_10 locs hL hA_11 hc_12 => ?_)
  have hS_11 := hS_8.yr hA_11 hc_12
  refine g_vret C0 hlk hr d_St_beginNextYear_31 hL ?_
  exact ⟨rfl, hS_11, ((((gFr.rf.tr (hf_3.mono (by omega) (by omega))).tr (hf_6.mono (by omega) (by omega))).tr (hf_9.mono (by omega) (by omega))).tr (gFr.ch hc_12 (by omega) (by omega)))⟩

set_option maxHeartbeats 4000000 in
set_option maxRecDepth 100000 in
theorem k_St_oweApologies (l : Launch) (G : gT) (b : Nat) (Y : ST) (hY : SOk Y) : gM l y_St_oweApologies c_St_oweApologies 2 none 3 65 0 0 G [.ref b] (fun H => StAt G b Y H) (wv (fun H H1 => StAt G b (owS Y (Y.2 14).1) H1 ∧ gFr b (b + 36) H H1)) (gRg b (b + 36)) := by
  refine g_enter "GaleNames$State" (by decide +kernel) rfl (Nat.le_of_ble_eq_true rfl) ?_
  intro p e s m args below meth c C0 hlk hr hnm hP hK ls hl
  have hx := C0.1
  have hb := C0.2.1
  have hl : lv_has ls 2 [(0, .ref b)] := hl
  have hlt := (hP.2.2 14 (by decide)).lt
  have h16 : (Y.2 11).1 ≤ 16 := (hP.2.2 11 (by decide)).2.2.1
  refine lv_iconst (v := nI 0) hx hb d_St_oweApologies_0 (by decide +kernel) ?_
  refine lv_istore_n (lv' := [(1, .int (nI 0)), (0, .ref b)]) hx hb d_St_oweApologies_1 rfl hl (by decide) rfl (fun ls hl => ?_)
  have lp2 : ∀ (fu : Nat) (i : Nat) (H : Heap) (locs : List Loc), ((Y.2 14).1 - i) < fu → i ≤ (Y.2 14).1 → (∀ qq ∈ locs, (gRg b (b + 36)) qq.base) → StAt G b (owS Y i) H → gFr b (b + 36) s.heap H → ∀ ls : Array Slot, lv_has ls 2 [(1, .int (nI i)), (0, .ref b)] → W p l e ({ frames := 3, cells := 0, slots := 0, locals := 65 } : Room) s m args below meth c H locs 0 0 (MQ below (gQ (wv (fun H H1 => StAt G b (owS Y (Y.2 14).1) H1 ∧ gFr b (b + 36) H H1))) args s 0 0 (gRg b (b + 36))) (F0 m 2 ls []) := by
    intro fu
    induction fu with
    | zero => intro i H locs hfu; exact absurd hfu (Nat.not_lt_zero _)
    | succ fu ih2 =>
      intro i H locs hfu hi hL hP hF ls hl
      refine lv_iload_n hx hb d_St_oweApologies_2 rfl (lv_at hl 0 rfl) ?_
      refine lv_aload_n hx hb d_St_oweApologies_3 rfl (lv_at hl 1 rfl) ?_
      refine g_get C0 hK il_St hP.1 rfl 10 (by decide) fl_St_45 rfl d_St_oweApologies_4 ?_
      refine g_V C0 (k_Ro_size l G (b + 18) 10 (Y.2 14) ) co_Ro_size im_Ro_size se_Ro_size in_Ro gc_Ro_size ml_St_84 ⟨Nat.le_of_ble_eq_true rfl, Nat.le_of_ble_eq_true rfl⟩ hK (hP.2.2 14 (by decide)).1 rfl (hP.2.2 14 (by decide)) rfl hl.1 rfl (Nat.le_of_ble_eq_true rfl) d_St_oweApologies_7 ⟨Nat.le_of_ble_eq_true rfl, Nat.le_of_ble_eq_true rfl⟩ (g_r rfl ?_)
      refine g_cge (tgt := 51) C0 d_St_oweApologies_10 (by decide) (by omega) (by omega) (fun c_10 => ?_) (fun c_10 => ?_)
      · skip
        have ei : i = (Y.2 14).1 := by omega
        subst ei
        refine g_vret C0 hlk hr d_St_oweApologies_51 hL ?_
        exact ⟨rfl, hP, hF⟩
      · skip
        refine lv_aload_n hx hb d_St_oweApologies_13 rfl (lv_at hl 1 rfl) ?_
        refine lv_aload_n hx hb d_St_oweApologies_14 rfl (lv_at hl 1 rfl) ?_
        refine g_get C0 hK il_St hP.1 rfl 10 (by decide) fl_St_45 rfl d_St_oweApologies_15 ?_
        refine lv_iload_n hx hb d_St_oweApologies_18 rfl (lv_at hl 0 rfl) ?_
        refine g_V C0 (k_Ro_atN l G (b + 18) 10 (Y.2 14) i (by omega) (by omega)) co_Ro_at im_Ro_at se_Ro_at in_Ro gc_Ro_at ml_St_88 ⟨Nat.le_of_ble_eq_true rfl, Nat.le_of_ble_eq_true rfl⟩ hK (hP.2.2 14 (by decide)).1 rfl (hP.2.2 14 (by decide)) rfl hl.1 rfl (Nat.le_of_ble_eq_true rfl) d_St_oweApologies_19 ⟨Nat.le_of_ble_eq_true rfl, Nat.le_of_ble_eq_true rfl⟩ (g_r rfl ?_)
        refine g_V C0 (k_St_harmOfYear l G b (owS Y i) ((Y.2 14).2 i) (hY.b (k := 14) (by decide) i (by omega)) (hY.b (k := 11) (by decide))) co_St_harmOfYear im_St_harmOfYear se_St_harmOfYear in_St gc_St_harmOfYear ml_St_131 ⟨Nat.le_of_ble_eq_true rfl, Nat.le_of_ble_eq_true rfl⟩ hK hP.1 rfl hP rfl hl.1 rfl (Nat.le_of_ble_eq_true rfl) d_St_oweApologies_22 ⟨Nat.le_of_ble_eq_true rfl, Nat.le_of_ble_eq_true rfl⟩ (g_r rfl ?_)
        refine lv_aload_n hx hb d_St_oweApologies_25 rfl (lv_at hl 1 rfl) ?_
        refine g_get C0 hK il_St hP.1 rfl 1 (by decide) fl_St_14 rfl d_St_oweApologies_26 ?_
        refine lv_iconst (v := nI 1) hx hb d_St_oweApologies_29 (by decide +kernel) ?_
        refine g_V C0 (k_Ro_at l G (b + 1) 3 (Y.2 0) 1 (by omega)) co_Ro_at im_Ro_at se_Ro_at in_Ro gc_Ro_at ml_St_88 ⟨Nat.le_of_ble_eq_true rfl, Nat.le_of_ble_eq_true rfl⟩ hK (hP.2.2 0 (by decide)).1 rfl (hP.2.2 0 (by decide)) rfl hl.1 rfl (Nat.le_of_ble_eq_true rfl) d_St_oweApologies_30 ⟨Nat.le_of_ble_eq_true rfl, Nat.le_of_ble_eq_true rfl⟩ (g_r rfl ?_)
        refine g_clt (tgt := 45) C0 d_St_oweApologies_33 (by decide) (hrY_lt hY h16 _) (rA_lt (hY.b (by decide)) (by decide)) (fun c_33 => ?_) (fun c_33 => ?_)
        · skip
          have c_33 : hrY Y ((Y.2 14).2 i) < rA (Y.2 0) 1 := c_33
          refine lv_iinc (v := (nI (i + 1))) (lv' := [(1, .int (nI (i + 1))), (0, .ref b)]) hx hb d_St_oweApologies_45 hl (k := 0) rfl (gI_inc _) (by decide) rfl (fun ls hl => ?_)
          refine lv_goto (tgt := 2) hx hb d_St_oweApologies_48 (by decide) ?_
          exact ih2 (i + 1) H locs (by omega) (by omega) hL (by rw [← owS_f (Nat.not_le.mpr c_33)]; exact hP) hF ls (lv_sub hl [0, 1] rfl)
        · skip
          have c_33 : rA (Y.2 0) 1 ≤ hrY Y ((Y.2 14).2 i) := c_33
          refine lv_aload_n hx hb d_St_oweApologies_36 rfl (lv_at hl 1 rfl) ?_
          refine g_get C0 hK il_St hP.1 rfl 11 (by decide) fl_St_48 rfl d_St_oweApologies_37 ?_
          refine lv_iload_n hx hb d_St_oweApologies_40 rfl (lv_at hl 0 rfl) ?_
          refine lv_iconst (v := nI 1) hx hb d_St_oweApologies_41 (by decide +kernel) ?_
          refine g_V C0 (k_Ro_raise l G (b + 20) 10 (owR Y i) i (nI 1) (rA (owR Y i) i + 1) (by omega) (fun _ => nI_add _ _)) co_Ro_raise im_Ro_raise se_Ro_raise in_Ro gc_Ro_raise ml_St_124 ⟨Nat.le_of_ble_eq_true rfl, Nat.le_of_ble_eq_true rfl⟩ hK (hP.2.2 15 (by decide)).1 rfl (hP.2.2 15 (by decide)) rfl hl.1 rfl (Nat.le_of_ble_eq_true rfl) d_St_oweApologies_42 ⟨Nat.le_of_ble_eq_true rfl, Nat.le_of_ble_eq_true rfl⟩ (g_wv (free := gRg b (b + 36)) hL (gRg.mono (by omega) (by omega)) (fun H_1 locs hL ⟨hR_2, hf_3⟩ => ?_))
          have hS_2 := hP.up 15 (by decide) hR_2 hf_3
          refine lv_iinc (v := (nI (i + 1))) (lv' := [(1, .int (nI (i + 1))), (0, .ref b)]) hx hb d_St_oweApologies_45 hl (k := 0) rfl (gI_inc _) (by decide) rfl (fun ls hl => ?_)
          refine lv_goto (tgt := 2) hx hb d_St_oweApologies_48 (by decide) ?_
          exact ih2 (i + 1) H_1 locs (by omega) (by omega) hL (by rw [← owS_t c_33]; exact hS_2) (hF.tr (hf_3.mono (by omega) (by omega))) ls (lv_sub hl [0, 1] rfl)
  exact lp2 (((Y.2 14).1 - 0) + 1) 0 s.heap [] (by omega) (by omega) (t_nil (free := gRg b (b + 36))) (by rw [owS_0]; exact hP) gFr.rf ls (lv_sub hl [0, 1] rfl)

set_option maxHeartbeats 4000000 in
set_option maxRecDepth 100000 in
theorem k_St_retire (l : Launch) (G : gT) (b : Nat) (Y : ST) (v : Nat) (hv : v < 2 ^ 31) (hY : SOk Y) : gM l y_St_retire c_St_retire 5 none 3 65 0 0 G [.ref b, .int (nI v)] (fun H => StAt G b Y H) (wv (fun H H1 => StAt G b (rtS Y v) H1 ∧ gFr b (b + 36) H H1)) (gRg b (b + 36)) := by
  refine g_enter "GaleNames$State" (by decide +kernel) rfl (Nat.le_of_ble_eq_true rfl) ?_
  intro p e s m args below meth c C0 hlk hr hnm hP hK ls hl
  have hx := C0.1
  have hb := C0.2.1
  have hl : lv_has ls 5 [(0, .ref b), (1, .int (nI v))] := hl
  refine lv_aload_n hx hb d_St_retire_0 rfl (lv_at hl 0 rfl) ?_
  refine g_get C0 hK il_St hP.1 rfl 3 (by decide) fl_St_23 rfl d_St_retire_1 ?_
  refine lv_iload_n hx hb d_St_retire_4 rfl (lv_at hl 1 rfl) ?_
  refine lv_iconst (v := nI 1) hx hb d_St_retire_5 (by decide +kernel) ?_
  refine g_V C0 (k_Ro_change l G (b + 5) 40 (Y.2 2) v 1 (by omega)) co_Ro_change im_Ro_change se_Ro_change in_Ro gc_Ro_change ml_St_137 ⟨Nat.le_of_ble_eq_true rfl, Nat.le_of_ble_eq_true rfl⟩ hK (hP.2.2 2 (by decide)).1 rfl (hP.2.2 2 (by decide)) rfl hl.1 rfl (Nat.le_of_ble_eq_true rfl) d_St_retire_6 ⟨Nat.le_of_ble_eq_true rfl, Nat.le_of_ble_eq_true rfl⟩ (g_wv (free := gRg b (b + 36)) (t_nil (free := gRg b (b + 36))) (gRg.mono (by omega) (by omega)) (fun H_1 locs hL ⟨hR_2, hf_3⟩ => ?_))
  have hS_2 := hP.up 2 (by decide) hR_2 hf_3
  refine lv_iconst (v := nI 0) hx hb d_St_retire_9 (by decide +kernel) ?_
  refine lv_istore_n (lv' := [(2, .int (nI 0)), (0, .ref b), (1, .int (nI v))]) hx hb d_St_retire_10 rfl hl (by decide) rfl (fun ls hl => ?_)
  have lp11 : ∀ (fu : Nat) (i : Nat) (H : Heap) (locs : List Loc), (2 - i) < fu → i ≤ 2 → (∀ qq ∈ locs, (gRg b (b + 36)) qq.base) → StAt G b (rtP Y v (lix i 0)) H → gFr b (b + 36) s.heap H → ∀ ls : Array Slot, lv_has ls 5 [(2, .int (nI i)), (0, .ref b), (1, .int (nI v))] → W p l e ({ frames := 3, cells := 0, slots := 0, locals := 65 } : Room) s m args below meth c H locs 0 0 (MQ below (gQ (wv (fun H H1 => StAt G b (rtS Y v) H1 ∧ gFr b (b + 36) H H1))) args s 0 0 (gRg b (b + 36))) (F0 m 11 ls []) := by
    intro fu
    induction fu with
    | zero => intro i H locs hfu; exact absurd hfu (Nat.not_lt_zero _)
    | succ fu ih11 =>
      intro i H locs hfu hi hL hP hF ls hl
      refine lv_iload_n hx hb d_St_retire_11 rfl (lv_at hl 0 rfl) ?_
      refine lv_iconst (v := nI 2) hx hb d_St_retire_12 (by decide +kernel) ?_
      refine g_cge (tgt := 59) C0 d_St_retire_13 (by decide) (by omega) (by omega) (fun c_13 => ?_) (fun c_13 => ?_)
      · skip
        have ei : i = 2 := by omega
        subst ei
        refine g_vret C0 hlk hr d_St_retire_59 hL ?_
        exact ⟨rfl, hP, hF⟩
      · skip
        refine lv_iconst (v := nI 0) hx hb d_St_retire_16 (by decide +kernel) ?_
        refine lv_istore_n (lv' := [(3, .int (nI 0)), (2, .int (nI i)), (0, .ref b), (1, .int (nI v))]) hx hb d_St_retire_17 rfl hl (by decide) rfl (fun ls hl => ?_)
        have lp18 : ∀ (fu : Nat) (j : Nat) (H : Heap) (locs : List Loc), (3 - j) < fu → j ≤ 3 → (∀ qq ∈ locs, (gRg b (b + 36)) qq.base) → StAt G b (rtP Y v (lix i j)) H → gFr b (b + 36) s.heap H → ∀ ls : Array Slot, lv_has ls 5 [(3, .int (nI j)), (2, .int (nI i)), (0, .ref b), (1, .int (nI v))] → W p l e ({ frames := 3, cells := 0, slots := 0, locals := 65 } : Room) s m args below meth c H locs 0 0 (MQ below (gQ (wv (fun H H1 => StAt G b (rtS Y v) H1 ∧ gFr b (b + 36) H H1))) args s 0 0 (gRg b (b + 36))) (F0 m 18 ls []) := by
          intro fu
          induction fu with
          | zero => intro j H locs hfu; exact absurd hfu (Nat.not_lt_zero _)
          | succ fu ih18 =>
            intro j H locs hfu hj hL hP hF ls hl
            refine lv_iload_n hx hb d_St_retire_18 rfl (lv_at hl 0 rfl) ?_
            refine lv_iconst (v := nI 3) hx hb d_St_retire_19 (by decide +kernel) ?_
            refine g_cge (tgt := 53) C0 d_St_retire_20 (by decide) (by omega) (by omega) (fun c_20 => ?_) (fun c_20 => ?_)
            · skip
              refine lv_iinc (v := (nI (i + 1))) (lv' := [(2, .int (nI (i + 1))), (3, .int (nI j)), (0, .ref b), (1, .int (nI v))]) hx hb d_St_retire_53 hl (k := 1) rfl (gI_inc _) (by decide) rfl (fun ls hl => ?_)
              refine lv_goto (tgt := 11) hx hb d_St_retire_56 (by decide) ?_
              exact ih11 (i + 1) H locs (by omega) (by omega) hL (by rw [show lix (i + 1) 0 = lix i j by unfold lix; omega]; exact hP) hF ls (lv_sub hl [0, 2, 3] rfl)
            · skip
              have hlix := lix_lt (c := i) (k := j) (by omega) (by omega)
              refine lv_aload_n hx hb d_St_retire_23 rfl (lv_at hl 2 rfl) ?_
              refine lv_iload_n hx hb d_St_retire_24 rfl (lv_at hl 1 rfl) ?_
              refine lv_iload_n hx hb d_St_retire_25 rfl (lv_at hl 0 rfl) ?_
              refine g_V C0 (k_St_listOfN l G b (rtP Y v (lix i j)) i j (by omega) (by omega)) co_St_listOf im_St_listOf se_St_listOf in_St gc_St_listOf ml_St_65 ⟨Nat.le_of_ble_eq_true rfl, Nat.le_of_ble_eq_true rfl⟩ hK hP.1 rfl hP rfl hl.1 rfl (Nat.le_of_ble_eq_true rfl) d_St_retire_26 ⟨Nat.le_of_ble_eq_true rfl, Nat.le_of_ble_eq_true rfl⟩ (g_r rfl ?_)
              refine lv_astore (lv' := [(4, .ref (b + 24 + 2 * lix i j)), (3, .int (nI j)), (2, .int (nI i)), (0, .ref b), (1, .int (nI v))]) hx hb d_St_retire_29 hl (by decide) rfl (fun ls hl => ?_)
              refine lv_aload hx hb d_St_retire_31 (lv_at hl 0 rfl) ?_
              refine lv_ifnull hx hb d_St_retire_33 ?_
              refine lv_aload hx hb d_St_retire_36 (lv_at hl 0 rfl) ?_
              refine lv_aload hx hb d_St_retire_38 (lv_at hl 0 rfl) ?_
              refine lv_iload_n hx hb d_St_retire_40 rfl (lv_at hl 4 rfl) ?_
              refine g_V C0 (k_Ro_placeOf l G (b + 24 + 2 * lix i j) 8 ((rtP Y v (lix i j)).2 (5 + (lix i j))) v (by omega) ((SOk_rt hY v (q := lix i j) (by omega)).b (by omega))) co_Ro_placeOf im_Ro_placeOf se_Ro_placeOf in_Ro gc_Ro_placeOf ml_St_102 ⟨Nat.le_of_ble_eq_true rfl, Nat.le_of_ble_eq_true rfl⟩ hK (hP.ls (lix_lt (by omega) (by omega))).1 rfl (hP.ls (lix_lt (by omega) (by omega))) rfl hl.1 rfl (Nat.le_of_ble_eq_true rfl) d_St_retire_41 ⟨Nat.le_of_ble_eq_true rfl, Nat.le_of_ble_eq_true rfl⟩ (g_r rfl ?_)
              refine g_V C0 (k_Ro_drop l G (b + 24 + 2 * lix i j) 8 ((rtP Y v (lix i j)).2 (5 + (lix i j))) (oI (-1) (rPl ((rtP Y v (lix i j)).2 (5 + (lix i j))) v))) co_Ro_drop im_Ro_drop se_Ro_drop in_Ro gc_Ro_drop ml_St_140 ⟨Nat.le_of_ble_eq_true rfl, Nat.le_of_ble_eq_true rfl⟩ hK (hP.ls (lix_lt (by omega) (by omega))).1 rfl (hP.ls (lix_lt (by omega) (by omega))) rfl hl.1 rfl (Nat.le_of_ble_eq_true rfl) d_St_retire_44 ⟨Nat.le_of_ble_eq_true rfl, Nat.le_of_ble_eq_true rfl⟩ (g_wv (free := gRg b (b + 36)) hL (gRg.mono (by omega) (by omega)) (fun H_4 locs hL ⟨hR_5, hf_6⟩ => ?_))
              have hS_5 := hP.upl (lix_lt (by omega) (by omega)) hR_5 hf_6
              refine lv_iinc (v := (nI (j + 1))) (lv' := [(3, .int (nI (j + 1))), (4, .ref (b + 24 + 2 * lix i j)), (2, .int (nI i)), (0, .ref b), (1, .int (nI v))]) hx hb d_St_retire_47 hl (k := 1) rfl (gI_inc _) (by decide) rfl (fun ls hl => ?_)
              refine lv_goto (tgt := 18) hx hb d_St_retire_50 (by decide) ?_
              exact ih18 (j + 1) H_4 locs (by omega) (by omega) hL (by have h := hS_5; rw [rtP_t (q := lix i j)] at h; exact h) (hF.tr (hf_6.mono (by omega) (by omega))) ls (lv_sub hl [0, 2, 3, 4] rfl)
        exact lp18 ((3 - 0) + 1) 0 H locs (by omega) (by omega) hL hP hF ls (lv_sub hl [0, 1, 2, 3] rfl)
  exact lp11 ((2 - 0) + 1) 0 H_1 locs (by omega) (by omega) hL (by show StAt G b (rtP Y v 0) _; rw [rtP_0]; exact hS_2) (gFr.rf.tr (hf_3.mono (by omega) (by omega))) ls (lv_sub hl [0, 1, 2] rfl)

set_option maxHeartbeats 4000000 in
set_option maxRecDepth 100000 in
theorem k_St_retireHarmed (l : Launch) (G : gT) (b : Nat) (Y : ST) (hY : SOk Y) : gM l y_St_retireHarmed c_St_retireHarmed 3 (some .int) 4 89 0 0 G [.ref b] (fun H => StAt G b Y H) (wi (.int (nI (hdB Y (rA (Y.2 0) 0)))) (fun H H1 => StAt G b (rhS Y (Y.2 1).1) H1 ∧ gFr b (b + 36) H H1)) (gRg b (b + 36)) := by
  refine g_enter "GaleNames$State" (by decide +kernel) rfl (Nat.le_of_ble_eq_true rfl) ?_
  intro p e s m args below meth c C0 hlk hr hnm hP hK ls hl
  have hx := C0.1
  have hb := C0.2.1
  have hl : lv_has ls 3 [(0, .ref b)] := hl
  have hlt := (hP.2.2 1 (by decide)).lt
  have h16 : (Y.2 11).1 ≤ 16 := (hP.2.2 11 (by decide)).2.2.1
  refine lv_iconst (v := nI 0) hx hb d_St_retireHarmed_0 (by decide +kernel) ?_
  refine lv_istore_n (lv' := [(1, .int (nI 0)), (0, .ref b)]) hx hb d_St_retireHarmed_1 rfl hl (by decide) rfl (fun ls hl => ?_)
  refine lv_iconst (v := nI 0) hx hb d_St_retireHarmed_2 (by decide +kernel) ?_
  refine lv_istore_n (lv' := [(2, .int (nI 0)), (1, .int (nI 0)), (0, .ref b)]) hx hb d_St_retireHarmed_3 rfl hl (by decide) rfl (fun ls hl => ?_)
  have lp4 : ∀ (fu : Nat) (i : Nat) (x : Nat) (H : Heap) (locs : List Loc), ((Y.2 1).1 - i) < fu → i ≤ (Y.2 1).1 → x = cN (fun j => decide (rA (Y.2 0) 0 ≤ hrY Y j)) i → (∀ qq ∈ locs, (gRg b (b + 36)) qq.base) → StAt G b (rhS Y i) H → gFr b (b + 36) s.heap H → ∀ ls : Array Slot, lv_has ls 3 [(2, .int (nI i)), (1, .int (nI x)), (0, .ref b)] → W p l e ({ frames := 4, cells := 0, slots := 0, locals := 89 } : Room) s m args below meth c H locs 0 0 (MQ below (gQ (wi (.int (nI (hdB Y (rA (Y.2 0) 0)))) (fun H H1 => StAt G b (rhS Y (Y.2 1).1) H1 ∧ gFr b (b + 36) H H1))) args s 0 0 (gRg b (b + 36))) (F0 m 4 ls []) := by
    intro fu
    induction fu with
    | zero => intro i x H locs hfu; exact absurd hfu (Nat.not_lt_zero _)
    | succ fu ih4 =>
      intro i x H locs hfu hi hx2 hL hP hF ls hl
      have e0 : (rhS Y i).2 0 = Y.2 0 := rhS_o (by decide) (by decide)
      have e1 : (rhS Y i).2 1 = Y.2 1 := rhS_o (by decide) (by decide)
      have e11 : (rhS Y i).2 11 = Y.2 11 := rhS_o (by decide) (by decide)
      have e13 : (rhS Y i).2 13 = Y.2 13 := rhS_o (by decide) (by decide)
      have hYi := SOk_rh hY i
      refine lv_iload_n hx hb d_St_retireHarmed_4 rfl (lv_at hl 0 rfl) ?_
      refine lv_aload_n hx hb d_St_retireHarmed_5 rfl (lv_at hl 2 rfl) ?_
      refine g_get C0 hK il_St hP.1 rfl 2 (by decide) fl_St_20 rfl d_St_retireHarmed_6 ?_
      refine g_V C0 (k_Ro_size l G (b + 3) 40 ((rhS Y i).2 1) ) co_Ro_size im_Ro_size se_Ro_size in_Ro gc_Ro_size ml_St_84 ⟨Nat.le_of_ble_eq_true rfl, Nat.le_of_ble_eq_true rfl⟩ hK (hP.2.2 1 (by decide)).1 rfl (hP.2.2 1 (by decide)) rfl hl.1 rfl (Nat.le_of_ble_eq_true rfl) d_St_retireHarmed_9 ⟨Nat.le_of_ble_eq_true rfl, Nat.le_of_ble_eq_true rfl⟩ (g_r rfl ?_)
      refine g_cge (tgt := 45) C0 d_St_retireHarmed_12 (by decide) (by omega) (by rw [e1]; omega) (fun c_12 => ?_) (fun c_12 => ?_)
      · skip
        rw [e1] at c_12
        have ei : i = (Y.2 1).1 := by omega
        subst ei
        refine lv_iload_n hx hb d_St_retireHarmed_45 rfl (lv_at hl 1 rfl) ?_
        refine g_iret C0 hlk hr d_St_retireHarmed_46 hL ?_
        exact ⟨rdI (by rw [hx2]; rfl), hP, hF⟩
      · skip
        rw [e1] at c_12
        refine lv_aload_n hx hb d_St_retireHarmed_15 rfl (lv_at hl 2 rfl) ?_
        refine lv_iload_n hx hb d_St_retireHarmed_16 rfl (lv_at hl 0 rfl) ?_
        refine g_V C0 (k_St_harmOfYear l G b (rhS Y i) i (by omega) (hYi.b (k := 11) (by decide))) co_St_harmOfYear im_St_harmOfYear se_St_harmOfYear in_St gc_St_harmOfYear ml_St_131 ⟨Nat.le_of_ble_eq_true rfl, Nat.le_of_ble_eq_true rfl⟩ hK hP.1 rfl hP rfl hl.1 rfl (Nat.le_of_ble_eq_true rfl) d_St_retireHarmed_17 ⟨Nat.le_of_ble_eq_true rfl, Nat.le_of_ble_eq_true rfl⟩ (g_r rfl ?_)
        refine lv_aload_n hx hb d_St_retireHarmed_20 rfl (lv_at hl 2 rfl) ?_
        refine g_get C0 hK il_St hP.1 rfl 1 (by decide) fl_St_14 rfl d_St_retireHarmed_21 ?_
        refine lv_iconst (v := nI 0) hx hb d_St_retireHarmed_24 (by decide +kernel) ?_
        refine g_V C0 (k_Ro_at l G (b + 1) 3 ((rhS Y i).2 0) 0 (by omega)) co_Ro_at im_Ro_at se_Ro_at in_Ro gc_Ro_at ml_St_88 ⟨Nat.le_of_ble_eq_true rfl, Nat.le_of_ble_eq_true rfl⟩ hK (hP.2.2 0 (by decide)).1 rfl (hP.2.2 0 (by decide)) rfl hl.1 rfl (Nat.le_of_ble_eq_true rfl) d_St_retireHarmed_25 ⟨Nat.le_of_ble_eq_true rfl, Nat.le_of_ble_eq_true rfl⟩ (g_r rfl ?_)
        refine g_clt (tgt := 39) C0 d_St_retireHarmed_28 (by decide) (by rw [hrY_eq e11 e13]; exact hrY_lt hY h16 _) (rA_lt (hYi.b (by decide)) (by decide)) (fun c_28 => ?_) (fun c_28 => ?_)
        · skip
          rw [hrY_eq e11 e13, e0] at c_28
          refine lv_iinc (v := (nI (i + 1))) (lv' := [(2, .int (nI (i + 1))), (1, .int (nI x)), (0, .ref b)]) hx hb d_St_retireHarmed_39 hl (k := 0) rfl (gI_inc _) (by decide) rfl (fun ls hl => ?_)
          refine lv_goto (tgt := 4) hx hb d_St_retireHarmed_42 (by decide) ?_
          exact ih4 (i + 1) x H locs (by omega) (by omega) (by rw [cN_s, ← hx2]; simp [Nat.not_le.mpr c_28]) hL (by rw [← rhS_f (Nat.not_le.mpr c_28)]; exact hP) hF ls (lv_sub hl [0, 1, 2] rfl)
        · skip
          rw [hrY_eq e11 e13, e0] at c_28
          refine lv_aload_n hx hb d_St_retireHarmed_31 rfl (lv_at hl 2 rfl) ?_
          refine lv_iload_n hx hb d_St_retireHarmed_32 rfl (lv_at hl 0 rfl) ?_
          refine g_V C0 (k_St_retire l G b (rhS Y i) i (by omega) hYi) co_St_retire im_St_retire se_St_retire in_St gc_St_retire ml_St_134 ⟨Nat.le_of_ble_eq_true rfl, Nat.le_of_ble_eq_true rfl⟩ hK hP.1 rfl hP rfl hl.1 rfl (Nat.le_of_ble_eq_true rfl) d_St_retireHarmed_33 ⟨Nat.le_of_ble_eq_true rfl, Nat.le_of_ble_eq_true rfl⟩ (g_wv (free := gRg b (b + 36)) hL (fun _ h => h) (fun H_1 locs hL ⟨hS_2, hf_3⟩ => ?_))
          refine lv_iinc (v := (nI (x + 1))) (lv' := [(1, .int (nI (x + 1))), (2, .int (nI i)), (0, .ref b)]) hx hb d_St_retireHarmed_36 hl (k := 1) rfl (gI_inc _) (by decide) rfl (fun ls hl => ?_)
          refine lv_iinc (v := (nI (i + 1))) (lv' := [(2, .int (nI (i + 1))), (1, .int (nI (x + 1))), (0, .ref b)]) hx hb d_St_retireHarmed_39 hl (k := 1) rfl (gI_inc _) (by decide) rfl (fun ls hl => ?_)
          refine lv_goto (tgt := 4) hx hb d_St_retireHarmed_42 (by decide) ?_
          exact ih4 (i + 1) (x + 1) H_1 locs (by omega) (by omega) (by rw [cN_s, ← hx2]; simp [c_28]) hL (by rw [← rhS_t c_28]; exact hS_2) (hF.tr hf_3) ls (lv_sub hl [0, 1, 2] rfl)
  exact lp4 (((Y.2 1).1 - 0) + 1) 0 0 s.heap [] (by omega) (by omega) rfl (t_nil (free := gRg b (b + 36))) hP gFr.rf ls (lv_sub hl [0, 1, 2] rfl)
