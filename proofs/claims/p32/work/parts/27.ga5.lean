set_option maxHeartbeats 4000000 in
set_option maxRecDepth 100000 in
theorem k_Ga_save (l : Launch) (G : gT) (x : Nat) (X : XS) (a : Int32) (sz : Nat) (hX : XOk X) : gM l y_Ga_save c_Ga_save 2 (some .int) 5 107 36 342 G [.ref x, .int a] (fun H => XAt G x X H ∧ H.size = sz ∧ x + 262 ≤ sz) (wi (.int (cSave X a sz).1) (fun H H1 => XAt G x (cSave X a sz).2 H1 ∧ gFA x H H1)) (gA x) := by
  refine g_enter "GaleNames" (by decide +kernel) rfl (Nat.le_of_ble_eq_true rfl) ?_
  intro p e s m args below meth c C0 hlk hr hnm hP hK ls hl
  have hx := C0.1
  have hb := C0.2.1
  have hl : lv_has ls 2 [(0, .ref x), (1, .int a)] := hl
  refine lv_aload_n hx hb d_Ga_save_0 rfl (lv_at hl 0 rfl) ?_
  refine g_get C0 hK il_Ga hP.1.1 rfl 3 (by decide) fl_Ga_33 rfl d_Ga_save_1 ?_
  refine lv_iload_n hx hb d_Ga_save_4 rfl (lv_at hl 1 rfl) ?_
  refine g_V C0 (k_Sl_has l G (x + 260) X.2.2.2.1 a) co_Sl_has im_Sl_has se_Sl_has in_Sl gc_Sl_has ml_Ga_223 ⟨Nat.le_of_ble_eq_true rfl, Nat.le_of_ble_eq_true rfl⟩ hK hP.1.2.2.2.2.1.1 rfl hP.1.2.2.2.2.1 rfl hl.1 rfl (Nat.le_of_ble_eq_true rfl) d_Ga_save_5 ⟨Nat.le_of_ble_eq_true rfl, Nat.le_of_ble_eq_true rfl⟩ (g_r rfl ?_)
  refine g_zne (tgt := 14) C0 d_Ga_save_8 (by decide) (fun c_8 => ?_) (fun c_8 => ?_)
  · skip
    obtain ⟨i, hi, hi31, rfl⟩ := inR_t c_8
    rcases ho : X.2.2.2.1 i with _ | z
    · skip
      refine lv_aload_n hx hb d_Ga_save_14 rfl (lv_at hl 0 rfl) ?_
      refine g_get C0 hK il_Ga hP.1.1 rfl 3 (by decide) fl_Ga_33 rfl d_Ga_save_15 ?_
      refine lv_iload_n hx hb d_Ga_save_18 rfl (lv_at hl 1 rfl) ?_
      refine lv_aload_n hx hb d_Ga_save_19 rfl (lv_at hl 0 rfl) ?_
      refine g_get C0 hK il_Ga hP.1.1 rfl 0 (by decide) fl_Ga_12 rfl d_Ga_save_20 ?_
      refine g_V C0 (k_Sl_keepN l G (x + 260) X.2.2.2.1 i (x + 1) sz X.1 hi ho (by omega) (by omega)) co_Sl_keep im_Sl_keep se_Sl_keep in_Sl gc_Sl_keep ml_Ga_224 ⟨Nat.le_of_ble_eq_true rfl, Nat.le_of_ble_eq_true rfl⟩ hK hP.1.2.2.2.2.1.1 rfl ⟨hP.1.2.2.2.2.1, hP.1.2.1, hP.2.1⟩ rfl hl.1 rfl (Nat.le_of_ble_eq_true rfl) d_Ga_save_23 ⟨Nat.le_of_ble_eq_true rfl, Nat.le_of_ble_eq_true rfl⟩ (g_wa (free := gA x) (fr := fun q => q = x + 260 + 1 ∨ sz ≤ q) (t_nil (free := gA x)) (gA_kN hP.2.2) (fun H_1 locs hL ⟨hz_2, hs_3, ht_4, hq_5⟩ => ?_))
      have hX2 := x_keepN hP.1 hP.2.1 hP.2.2 hi ho hs_3 ht_4 hq_5
      have hFA : gFA x s.heap H_1 := gFA_N hP.2.1 hz_2 hq_5
      have hst2 : StAt G (x + 1) X.1 H_1 := by have h := hX2.2.1; rw [cSv_1] at h; exact h
      refine lv_aload_n hx hb d_Ga_save_26 rfl (lv_at hl 0 rfl) ?_
      refine g_get C0 hK il_Ga hX2.1 rfl 0 (by decide) fl_Ga_12 rfl d_Ga_save_27 ?_
      refine g_getN C0 hK il_St hst2.1 rfl 2 (by decide) fn_Ga_149 rfl d_Ga_save_30 ?_
      refine g_V C0 (k_Ro_size l G (x + 4) 40 (X.1.2 1) ) co_Ro_size im_Ro_size se_Ro_size in_Ro gc_Ro_size ml_Ga_71 ⟨Nat.le_of_ble_eq_true rfl, Nat.le_of_ble_eq_true rfl⟩ hK (hst2.2.2 1 (by decide)).1 rfl (hst2.2.2 1 (by decide)) rfl hl.1 rfl (Nat.le_of_ble_eq_true rfl) d_Ga_save_33 ⟨Nat.le_of_ble_eq_true rfl, Nat.le_of_ble_eq_true rfl⟩ (g_r rfl ?_)
      refine g_iret C0 hlk hr d_Ga_save_36 hL ?_
      exact s_end (X' := cSv X i sz) (by unfold cSave; rw [c_8, if_pos rfl, nI_clamp hi31]) hX2 hFA
    · skip
      have hz0 := (hP.1.2.2.2.2.2.1 i hi z ho).1
      refine lv_aload_n hx hb d_Ga_save_14 rfl (lv_at hl 0 rfl) ?_
      refine g_get C0 hK il_Ga hP.1.1 rfl 3 (by decide) fl_Ga_33 rfl d_Ga_save_15 ?_
      refine lv_iload_n hx hb d_Ga_save_18 rfl (lv_at hl 1 rfl) ?_
      refine lv_aload_n hx hb d_Ga_save_19 rfl (lv_at hl 0 rfl) ?_
      refine g_get C0 hK il_Ga hP.1.1 rfl 0 (by decide) fl_Ga_12 rfl d_Ga_save_20 ?_
      refine g_V C0 (k_Sl_keepS l G (x + 260) X.2.2.2.1 i (x + 1) z X.1 (X.2.2.2.2 i) hi ho (by omega) (by omega) (by omega)) co_Sl_keep im_Sl_keep se_Sl_keep in_Sl gc_Sl_keep ml_Ga_224 ⟨Nat.le_of_ble_eq_true rfl, Nat.le_of_ble_eq_true rfl⟩ hK hP.1.2.2.2.2.1.1 rfl ⟨hP.1.2.2.2.2.1, hP.1.2.1, (hP.1.2.2.2.2.2.1 i hi z ho).2⟩ rfl hl.1 rfl (Nat.le_of_ble_eq_true rfl) d_Ga_save_23 ⟨Nat.le_of_ble_eq_true rfl, Nat.le_of_ble_eq_true rfl⟩ (g_wa (free := gA x) (fr := fun q => q = x + 260 + 1 ∨ gRg z (z + 36) q) (t_nil (free := gA x)) (gA_kS hz0) (fun H_6 locs hL ⟨hz_7, hs_8, ht_9, hq_10⟩ => ?_))
      have hX2 := x_keepS (z := sz) hP.1 hi ho hs_8 ht_9 hq_10
      have hFA : gFA x s.heap H_6 := gFA_S hz0 hz_7 hq_10
      have hst2 : StAt G (x + 1) X.1 H_6 := by have h := hX2.2.1; rw [cSv_1] at h; exact h
      refine lv_aload_n hx hb d_Ga_save_26 rfl (lv_at hl 0 rfl) ?_
      refine g_get C0 hK il_Ga hX2.1 rfl 0 (by decide) fl_Ga_12 rfl d_Ga_save_27 ?_
      refine g_getN C0 hK il_St hst2.1 rfl 2 (by decide) fn_Ga_149 rfl d_Ga_save_30 ?_
      refine g_V C0 (k_Ro_size l G (x + 4) 40 (X.1.2 1) ) co_Ro_size im_Ro_size se_Ro_size in_Ro gc_Ro_size ml_Ga_71 ⟨Nat.le_of_ble_eq_true rfl, Nat.le_of_ble_eq_true rfl⟩ hK (hst2.2.2 1 (by decide)).1 rfl (hst2.2.2 1 (by decide)) rfl hl.1 rfl (Nat.le_of_ble_eq_true rfl) d_Ga_save_33 ⟨Nat.le_of_ble_eq_true rfl, Nat.le_of_ble_eq_true rfl⟩ (g_r rfl ?_)
      refine g_iret C0 hlk hr d_Ga_save_36 hL ?_
      exact s_end (X' := cSv X i sz) (by unfold cSave; rw [c_8, if_pos rfl, nI_clamp hi31]) hX2 hFA
  · skip
    refine W.widen (k := 36) (n := 342) (by omega) (by omega) ?_
    refine lv_bipush (v := -2) hx hb d_Ga_save_11 (by decide +kernel) ?_
    refine g_iret C0 hlk hr d_Ga_save_13 (t_nil (free := gA x)) ?_
    exact s_end (X' := X) (by unfold cSave; rw [c_8]; rfl) hP.1 gFA.rf

set_option maxHeartbeats 4000000 in
set_option maxRecDepth 100000 in
theorem k_Ga_init (l : Launch) (G : gT) (x : Nat) : gM l y_Ga_init c_Ga_init 1 none 4 77 261 2518 G [.ref x] (fun H => H.size = x + 1 ∧ gE G x (eO 5 [.null, .null, .null, .null]) H) (wv (fun H H1 => H1.size = x + 262 ∧ XAt G x inX H1 ∧ gGr x H H1)) (gAb x) := by
  refine g_enter "GaleNames" (by decide +kernel) rfl (Nat.le_of_ble_eq_true rfl) ?_
  intro p e s m args below meth c C0 hlk hr hnm hP hK ls hl
  have hx := C0.1
  have hb := C0.2.1
  have hl : lv_has ls 1 [(0, .ref x)] := hl
  refine lv_aload_n hx hb d_Ga_init_0 rfl (lv_at hl 0 rfl) ?_
  refine g_oi C0 hl.1 ml_Ga_3 d_Ga_init_1 (Nat.le_of_ble_eq_true rfl) (Nat.le_of_ble_eq_true rfl) ?_
  refine lv_aload_n hx hb d_Ga_init_4 rfl (lv_at hl 0 rfl) ?_
  refine g_new (ci := 4) (fs := [.int 0, .null, .null, .null, .null, .null, .null, .null, .null, .null, .null, .null, .null]) C0 hK il_St t_St tk_St cl_Ga_9 is_St in_St rfl (dv_St) (Nat.le_of_ble_eq_true rfl) (Nat.le_of_ble_eq_true rfl) d_Ga_init_5 hP.1 (fun H_1 hA_2 hz_3 hq_4 => ?_)
  refine W.widen (k := 1) (n := 13) (by omega) (by omega) ?_
  refine lv_dup hx hb d_Ga_init_8 rfl ?_
  refine g_I C0 (k_St_init l G (x + 1)) co_St_init im_St_init rfl in_St gc_St_init ml_Ga_11 ⟨Nat.le_of_ble_eq_true rfl, Nat.le_of_ble_eq_true rfl⟩ hK ⟨hz_3, hA_2⟩ rfl hl.1 rfl (Nat.le_of_ble_eq_true rfl) d_Ga_init_9 ⟨Nat.le_of_ble_eq_true rfl, Nat.le_of_ble_eq_true rfl⟩ (g_wa (free := gAb x) (t_nil (free := gAb x)) (fun q h => gAb.mk (Nat.le_trans (by omega) h)) (fun H_5 locs hL ⟨hz_6, hR_7, hg_8⟩ => ?_))
  refine W.widen (k := 36) (n := 342) (by omega) (by omega) ?_
  refine g_putF (free := gAb x) C0 hK il_Ga tk_Ga nm_Ga ((hP.2.nw hq_4 (by omega)).gr hg_8 (by omega)) rfl 0 (by decide) fl_Ga_12 rfl hnm rfl rfl rfl (Nat.le_of_ble_eq_true rfl) d_Ga_init_12 hL (gAb.mk (by omega)) (fun H_9 locs hL hA_10 hc_11 => ?_)
  have hA_10 : gE G x (eO 5 [.ref (x + 1), .null, .null, .null]) H_9 := hA_10
  refine lv_aload_n hx hb d_Ga_init_15 rfl (lv_at hl 0 rfl) ?_
  refine g_new (ci := 1) (fs := [.null, .null]) C0 hK il_Pa t_Pa tk_Pa cl_Ga_16 is_Pa in_Pa rfl (dv_Pa) (Nat.le_of_ble_eq_true rfl) (Nat.le_of_ble_eq_true rfl) d_Ga_init_16 (hc_11.1.trans hz_6) (fun H_12 hA_13 hz_14 hq_15 => ?_)
  refine W.widen (k := 37) (n := 344) (by omega) (by omega) ?_
  refine lv_dup hx hb d_Ga_init_19 rfl ?_
  refine g_IN C0 (k_Pa_init l G (x + 37)) co_Pa_init im_Pa_init rfl in_Pa gc_Pa_init mn_Ga_18 ⟨Nat.le_of_ble_eq_true rfl, Nat.le_of_ble_eq_true rfl⟩ hK ⟨hz_14, hA_13⟩ rfl hl.1 rfl (Nat.le_of_ble_eq_true rfl) d_Ga_init_20 ⟨Nat.le_of_ble_eq_true rfl, Nat.le_of_ble_eq_true rfl⟩ (g_wa (free := gAb x) hL (fun q h => gAb.mk (Nat.le_trans (by omega) h)) (fun H_16 locs hL ⟨hz_17, hR_18, hg_19⟩ => ?_))
  refine W.widen (k := 41) (n := 455) (by omega) (by omega) ?_
  refine g_putF (free := gAb x) C0 hK il_Ga tk_Ga nm_Ga ((hA_10.nw hq_15 (by omega)).gr hg_19 (by omega)) rfl 1 (by decide) fl_Ga_19 rfl hnm rfl rfl rfl (Nat.le_of_ble_eq_true rfl) d_Ga_init_23 hL (gAb.mk (by omega)) (fun H_20 locs hL hA_21 hc_22 => ?_)
  have hA_21 : gE G x (eO 5 [.ref (x + 1), .ref (x + 37), .null, .null]) H_20 := hA_21
  refine lv_aload_n hx hb d_Ga_init_26 rfl (lv_at hl 0 rfl) ?_
  refine g_new (ci := 0) (fs := [.null, .int 0]) C0 hK il_Hi t_Hi tk_Hi cl_Ga_23 is_Hi in_Hi rfl (dv_Hi) (Nat.le_of_ble_eq_true rfl) (Nat.le_of_ble_eq_true rfl) d_Ga_init_27 (hc_22.1.trans hz_17) (fun H_23 hA_24 hz_25 hq_26 => ?_)
  refine W.widen (k := 42) (n := 457) (by omega) (by omega) ?_
  refine lv_dup hx hb d_Ga_init_30 rfl ?_
  refine g_I C0 (k_Hi_init l G (x + 42)) co_Hi_init im_Hi_init rfl in_Hi gc_Hi_init ml_Ga_25 ⟨Nat.le_of_ble_eq_true rfl, Nat.le_of_ble_eq_true rfl⟩ hK ⟨hz_25, hA_24⟩ rfl hl.1 rfl (Nat.le_of_ble_eq_true rfl) d_Ga_init_31 ⟨Nat.le_of_ble_eq_true rfl, Nat.le_of_ble_eq_true rfl⟩ (g_wa (free := gAb x) hL (fun q h => gAb.mk (Nat.le_trans (by omega) h)) (fun H_27 locs hL ⟨hz_28, hR_29, hg_30⟩ => ?_))
  refine W.widen (k := 259) (n := 2515) (by omega) (by omega) ?_
  refine g_putF (free := gAb x) C0 hK il_Ga tk_Ga nm_Ga ((hA_21.nw hq_26 (by omega)).gr hg_30 (by omega)) rfl 2 (by decide) fl_Ga_26 rfl hnm rfl rfl rfl (Nat.le_of_ble_eq_true rfl) d_Ga_init_34 hL (gAb.mk (by omega)) (fun H_31 locs hL hA_32 hc_33 => ?_)
  have hA_32 : gE G x (eO 5 [.ref (x + 1), .ref (x + 37), .ref (x + 42), .null]) H_31 := hA_32
  refine lv_aload_n hx hb d_Ga_init_37 rfl (lv_at hl 0 rfl) ?_
  refine g_new (ci := 3) (fs := [.null]) C0 hK il_Sl t_Sl tk_Sl cl_Ga_30 is_Sl in_Sl rfl (dv_Sl) (Nat.le_of_ble_eq_true rfl) (Nat.le_of_ble_eq_true rfl) d_Ga_init_38 (hc_33.1.trans hz_28) (fun H_34 hA_35 hz_36 hq_37 => ?_)
  refine W.widen (k := 260) (n := 2516) (by omega) (by omega) ?_
  refine lv_dup hx hb d_Ga_init_41 rfl ?_
  refine g_IN C0 (k_Sl_init l G (x + 260)) co_Sl_init im_Sl_init rfl in_Sl gc_Sl_init mn_Ga_32 ⟨Nat.le_of_ble_eq_true rfl, Nat.le_of_ble_eq_true rfl⟩ hK ⟨hz_36, hA_35⟩ rfl hl.1 rfl (Nat.le_of_ble_eq_true rfl) d_Ga_init_42 ⟨Nat.le_of_ble_eq_true rfl, Nat.le_of_ble_eq_true rfl⟩ (g_wa (free := gAb x) hL (fun q h => gAb.mk (Nat.le_trans (by omega) h)) (fun H_38 locs hL ⟨hz_39, hR_40, hg_41⟩ => ?_))
  refine W.widen (k := 261) (n := 2518) (by omega) (by omega) ?_
  refine g_putF (free := gAb x) C0 hK il_Ga tk_Ga nm_Ga ((hA_32.nw hq_37 (by omega)).gr hg_41 (by omega)) rfl 3 (by decide) fl_Ga_33 rfl hnm rfl rfl rfl (Nat.le_of_ble_eq_true rfl) d_Ga_init_45 hL (gAb.mk (by omega)) (fun H_42 locs hL hA_43 hc_44 => ?_)
  have hA_43 : gE G x (eO 5 [.ref (x + 1), .ref (x + 37), .ref (x + 42), .ref (x + 260)]) H_42 := hA_43
  refine g_vret C0 hlk hr d_Ga_init_48 hL ?_
  exact ⟨rfl, (hc_44.1.trans hz_39), ⟨hA_43, ((((((((((hR_7.ch hc_11 (by omega)).nw hq_15 (by omega)).gr hg_19 (by omega)).ch hc_22 (by omega)).nw hq_26 (by omega)).gr hg_30 (by omega)).ch hc_33 (by omega)).nw hq_37 (by omega)).gr hg_41 (by omega)).ch hc_44 (by omega)), (((((((hR_18.ch hc_22 (by omega)).nw hq_26 (by omega)).gr hg_30 (by omega)).ch hc_33 (by omega)).nw hq_37 (by omega)).gr hg_41 (by omega)).ch hc_44 (by omega)), ((((hR_29.ch hc_33 (by omega)).nw hq_37 (by omega)).gr hg_41 (by omega)).ch hc_44 (by omega)), (hR_40.ch hc_44 (by omega)), fun i _ z hz => absurd hz (by simp [inX]), fun z _ hz => absurd hz (by simp [inX])⟩, ((((((((((((gGr.rf.tr (gGr.nw hz_3 hP.1 hq_4 (by omega))).tr (hg_8.mono (by omega))).tr (gGr.ch hc_11 (by omega))).tr (gGr.nw hz_14 (hc_11.1.trans hz_6) hq_15 (by omega))).tr (hg_19.mono (by omega))).tr (gGr.ch hc_22 (by omega))).tr (gGr.nw hz_25 (hc_22.1.trans hz_17) hq_26 (by omega))).tr (hg_30.mono (by omega))).tr (gGr.ch hc_33 (by omega))).tr (gGr.nw hz_36 (hc_33.1.trans hz_28) hq_37 (by omega))).tr (hg_41.mono (by omega))).tr (gGr.ch hc_44 (by omega)))⟩
