set_option maxHeartbeats 4000000 in
set_option maxRecDepth 100000 in
theorem k_Sl_init (l : Launch) (G : gT) (v : Nat) : gM l y_Sl_init c_Sl_init 1 none 1 12 1 2 G [.ref v] (fun H => H.size = v + 1 ∧ gE G v (eO 3 [.null]) H) (wv (fun H H1 => H1.size = v + 2 ∧ SlAt G v (fun _ => none) H1 ∧ gGr v H H1)) (gAb v) := by
  refine g_enter "GaleNames$Slots" (by decide +kernel) rfl (Nat.le_of_ble_eq_true rfl) ?_
  intro p e s m args below meth c C0 hlk hr hnm hP hK ls hl
  have hx := C0.1
  have hb := C0.2.1
  have hl : lv_has ls 1 [(0, .ref v)] := hl
  refine lv_aload_n hx hb d_Sl_init_0 rfl (lv_at hl 0 rfl) ?_
  refine g_oi C0 hl.1 ml_Sl_3 d_Sl_init_1 (Nat.le_of_ble_eq_true rfl) (Nat.le_of_ble_eq_true rfl) ?_
  refine lv_aload_n hx hb d_Sl_init_4 rfl (lv_at hl 0 rfl) ?_
  refine lv_iconst (v := nI 2) hx hb d_Sl_init_5 (by decide +kernel) ?_
  refine g_newqSt C0 hK cl_Sl_9 (by omega) (Nat.le_of_ble_eq_true rfl) (Nat.le_of_ble_eq_true rfl) d_Sl_init_6 hP.1 (fun H_1 hA_2 hz_3 hq_4 => ?_)
  refine W.widen (k := 1) (n := 2) (by omega) (by omega) ?_
  refine g_putF (free := gAb v) C0 hK il_Sl tk_Sl nm_Sl (hP.2.nw hq_4 (by omega)) rfl 0 (by decide) fl_Sl_11 rfl hnm rfl rfl rfl (Nat.le_of_ble_eq_true rfl) d_Sl_init_9 (t_nil (free := gAb v)) (gAb.mk (by omega)) (fun H_5 locs hL hA_6 hc_7 => ?_)
  have hA_6 : gE G v (eO 3 [.ref (v + 1)]) H_5 := hA_6
  refine g_vret C0 hlk hr d_Sl_init_12 hL ?_
  exact ⟨rfl, (hc_7.1.trans hz_3), ⟨hA_6, (hA_2.ch hc_7 (by omega))⟩, ((gGr.rf.tr (gGr.nw hz_3 hP.1 hq_4 (by omega))).tr (gGr.ch hc_7 (by omega)))⟩

set_option maxHeartbeats 4000000 in
set_option maxRecDepth 100000 in
theorem k_Pa_init (l : Launch) (G : gT) (q : Nat) : gM l y_Pa_init c_Pa_init 1 none 2 35 4 111 G [.ref q] (fun H => H.size = q + 1 ∧ gE G q (eO 1 [.null, .null]) H) (wv (fun H H1 => H1.size = q + 5 ∧ PadAt G q (0, fun _ => 0) (0, fun _ => 0) H1 ∧ gGr q H H1)) (gAb q) := by
  refine g_enter "GaleNames$Pad" (by decide +kernel) rfl (Nat.le_of_ble_eq_true rfl) ?_
  intro p e s m args below meth c C0 hlk hr hnm hP hK ls hl
  have hx := C0.1
  have hb := C0.2.1
  have hl : lv_has ls 1 [(0, .ref q)] := hl
  refine lv_aload_n hx hb d_Pa_init_0 rfl (lv_at hl 0 rfl) ?_
  refine g_oi C0 hl.1 ml_Pa_3 d_Pa_init_1 (Nat.le_of_ble_eq_true rfl) (Nat.le_of_ble_eq_true rfl) ?_
  refine lv_aload_n hx hb d_Pa_init_4 rfl (lv_at hl 0 rfl) ?_
  refine g_new (ci := 2) (fs := [.null, .int 0]) C0 hK il_Ro t_Ro tk_Ro cl_Pa_9 is_Ro in_Ro rfl (dv_Ro) (Nat.le_of_ble_eq_true rfl) (Nat.le_of_ble_eq_true rfl) d_Pa_init_5 hP.1 (fun H_1 hA_2 hz_3 hq_4 => ?_)
  refine W.widen (k := 1) (n := 2) (by omega) (by omega) ?_
  refine lv_dup hx hb d_Pa_init_8 rfl ?_
  refine lv_bipush (v := nI 80) hx hb d_Pa_init_9 (by decide +kernel) ?_
  refine g_I C0 (k_Ro_init l G (q + 1) 80 (by omega)) co_Ro_init im_Ro_init rfl in_Ro gc_Ro_init ml_Pa_11 ⟨Nat.le_of_ble_eq_true rfl, Nat.le_of_ble_eq_true rfl⟩ hK ⟨hz_3, hA_2⟩ rfl hl.1 rfl (Nat.le_of_ble_eq_true rfl) d_Pa_init_11 ⟨Nat.le_of_ble_eq_true rfl, Nat.le_of_ble_eq_true rfl⟩ (g_wa (free := gAb q) (t_nil (free := gAb q)) (fun q h => gAb.mk (Nat.le_trans (by omega) h)) (fun H_5 locs hL ⟨hz_6, hR_7, hg_8⟩ => ?_))
  refine W.widen (k := 2) (n := 82) (by omega) (by omega) ?_
  refine g_putF (free := gAb q) C0 hK il_Pa tk_Pa nm_Pa ((hP.2.nw hq_4 (by omega)).gr hg_8 (by omega)) rfl 0 (by decide) fl_Pa_14 rfl hnm rfl rfl rfl (Nat.le_of_ble_eq_true rfl) d_Pa_init_14 hL (gAb.mk (by omega)) (fun H_9 locs hL hA_10 hc_11 => ?_)
  have hA_10 : gE G q (eO 1 [.ref (q + 1), .null]) H_9 := hA_10
  refine lv_aload_n hx hb d_Pa_init_17 rfl (lv_at hl 0 rfl) ?_
  refine g_new (ci := 2) (fs := [.null, .int 0]) C0 hK il_Ro t_Ro tk_Ro cl_Pa_9 is_Ro in_Ro rfl (dv_Ro) (Nat.le_of_ble_eq_true rfl) (Nat.le_of_ble_eq_true rfl) d_Pa_init_18 (hc_11.1.trans hz_6) (fun H_12 hA_13 hz_14 hq_15 => ?_)
  refine W.widen (k := 3) (n := 84) (by omega) (by omega) ?_
  refine lv_dup hx hb d_Pa_init_21 rfl ?_
  refine lv_bipush (v := nI 27) hx hb d_Pa_init_22 (by decide +kernel) ?_
  refine g_I C0 (k_Ro_init l G (q + 3) 27 (by omega)) co_Ro_init im_Ro_init rfl in_Ro gc_Ro_init ml_Pa_11 ⟨Nat.le_of_ble_eq_true rfl, Nat.le_of_ble_eq_true rfl⟩ hK ⟨hz_14, hA_13⟩ rfl hl.1 rfl (Nat.le_of_ble_eq_true rfl) d_Pa_init_24 ⟨Nat.le_of_ble_eq_true rfl, Nat.le_of_ble_eq_true rfl⟩ (g_wa (free := gAb q) hL (fun q h => gAb.mk (Nat.le_trans (by omega) h)) (fun H_16 locs hL ⟨hz_17, hR_18, hg_19⟩ => ?_))
  refine W.widen (k := 4) (n := 111) (by omega) (by omega) ?_
  refine g_putF (free := gAb q) C0 hK il_Pa tk_Pa nm_Pa ((hA_10.nw hq_15 (by omega)).gr hg_19 (by omega)) rfl 1 (by decide) fl_Pa_20 rfl hnm rfl rfl rfl (Nat.le_of_ble_eq_true rfl) d_Pa_init_27 hL (gAb.mk (by omega)) (fun H_20 locs hL hA_21 hc_22 => ?_)
  have hA_21 : gE G q (eO 1 [.ref (q + 1), .ref (q + 3)]) H_20 := hA_21
  refine g_vret C0 hlk hr d_Pa_init_30 hL ?_
  exact ⟨rfl, (hc_22.1.trans hz_17), ⟨hA_21, ((((hR_7.ch hc_11 (by omega)).nw hq_15 (by omega)).gr hg_19 (by omega)).ch hc_22 (by omega)), (hR_18.ch hc_22 (by omega))⟩, ((((((gGr.rf.tr (gGr.nw hz_3 hP.1 hq_4 (by omega))).tr (hg_8.mono (by omega))).tr (gGr.ch hc_11 (by omega))).tr (gGr.nw hz_14 (hc_11.1.trans hz_6) hq_15 (by omega))).tr (hg_19.mono (by omega))).tr (gGr.ch hc_22 (by omega)))⟩

set_option maxHeartbeats 4000000 in
set_option maxRecDepth 100000 in
theorem k_Hi_init (l : Launch) (G : gT) (h : Nat) : gM l y_Hi_init c_Hi_init 2 none 3 56 217 2058 G [.ref h] (fun H => H.size = h + 1 ∧ gE G h (eO 0 [.null, .int 0]) H) (wv (fun H H1 => H1.size = h + 218 ∧ HAt G h 0 id (fun _ => inS) H1 ∧ gGr h H H1)) (gAb h) := by
  refine g_enter "GaleNames$History" (by decide +kernel) rfl (Nat.le_of_ble_eq_true rfl) ?_
  intro p e s m args below meth c C0 hlk hr hnm hP hK ls hl
  have hx := C0.1
  have hb := C0.2.1
  have hl : lv_has ls 2 [(0, .ref h)] := hl
  refine lv_aload_n hx hb d_Hi_init_0 rfl (lv_at hl 0 rfl) ?_
  refine g_oi C0 hl.1 ml_Hi_3 d_Hi_init_1 (Nat.le_of_ble_eq_true rfl) (Nat.le_of_ble_eq_true rfl) ?_
  refine lv_aload_n hx hb d_Hi_init_4 rfl (lv_at hl 0 rfl) ?_
  refine lv_bipush (v := nI 6) hx hb d_Hi_init_5 (by decide +kernel) ?_
  refine g_newqSt C0 hK cl_Hi_9 (by omega) (Nat.le_of_ble_eq_true rfl) (Nat.le_of_ble_eq_true rfl) d_Hi_init_7 hP.1 (fun H_1 hA_2 hz_3 hq_4 => ?_)
  refine W.widen (k := 1) (n := 6) (by omega) (by omega) ?_
  refine g_putF (free := gAb h) C0 hK il_Hi tk_Hi nm_Hi (hP.2.nw hq_4 (by omega)) rfl 0 (by decide) fl_Hi_11 rfl hnm rfl rfl rfl (Nat.le_of_ble_eq_true rfl) d_Hi_init_10 (t_nil (free := gAb h)) (gAb.mk (by omega)) (fun H_5 locs hL hA_6 hc_7 => ?_)
  have hA_6 : gE G h (eO 0 [.ref (h + 1), .int (nI 0)]) H_5 := hA_6
  refine lv_iconst (v := nI 0) hx hb d_Hi_init_13 (by decide +kernel) ?_
  refine lv_istore_n (lv' := [(1, .int (nI 0)), (0, .ref h)]) hx hb d_Hi_init_14 rfl hl (by decide) rfl (fun ls hl => ?_)
  refine lv_iload_n hx hb d_Hi_init_15 rfl (lv_at hl 0 rfl) ?_
  refine lv_aload_n hx hb d_Hi_init_16 rfl (lv_at hl 1 rfl) ?_
  refine g_get C0 hK il_Hi hA_6 rfl 0 (by decide) fl_Hi_11 rfl d_Hi_init_17 ?_
  refine g_alen C0 hK 4 (hA_2.ch hc_7 (by omega)) rfl d_Hi_init_20 ?_
  refine g_cge (tgt := 43) C0 d_Hi_init_21 (by decide) (by omega) (by omega) (fun c_21 => ?_) (fun c_21 => ?_)
  · omega
  · skip
    refine lv_aload_n hx hb d_Hi_init_24 rfl (lv_at hl 1 rfl) ?_
    refine g_get C0 hK il_Hi hA_6 rfl 0 (by decide) fl_Hi_11 rfl d_Hi_init_25 ?_
    refine lv_iload_n hx hb d_Hi_init_28 rfl (lv_at hl 0 rfl) ?_
    refine g_new (ci := 4) (fs := [.int 0, .null, .null, .null, .null, .null, .null, .null, .null, .null, .null, .null, .null]) C0 hK il_St t_St tk_St cl_Hi_9 is_St in_St rfl (dv_St) (Nat.le_of_ble_eq_true rfl) (Nat.le_of_ble_eq_true rfl) d_Hi_init_29 (hc_7.1.trans hz_3) (fun H_8 hA_9 hz_10 hq_11 => ?_)
    refine W.widen (k := 2) (n := 19) (by omega) (by omega) ?_
    refine lv_dup hx hb d_Hi_init_32 rfl ?_
    refine g_I C0 (k_St_init l G (h + 2)) co_St_init im_St_init rfl in_St gc_St_init ml_Hi_17 ⟨Nat.le_of_ble_eq_true rfl, Nat.le_of_ble_eq_true rfl⟩ hK ⟨hz_10, hA_9⟩ rfl hl.1 rfl (Nat.le_of_ble_eq_true rfl) d_Hi_init_33 ⟨Nat.le_of_ble_eq_true rfl, Nat.le_of_ble_eq_true rfl⟩ (g_wa (free := gAb h) hL (fun q h => gAb.mk (Nat.le_trans (by omega) h)) (fun H_12 locs hL ⟨hz_13, hR_14, hg_15⟩ => ?_))
    refine W.widen (k := 37) (n := 348) (by omega) (by omega) ?_
    refine g_aast (free := gAb h) C0 hK 4 (((hA_2.ch hc_7 (by omega)).nw hq_11 (by omega)).gr hg_15 (by omega)) rfl hR_14.1 rfl (by omega) (by omega) d_Hi_init_36 hL (gAb.mk (by omega)) (fun H_16 locs hL hA_17 hc_18 => ?_)
    refine lv_iinc (v := (nI 1)) (lv' := [(1, .int (nI 1)), (0, .ref h)]) hx hb d_Hi_init_37 hl (k := 0) rfl (gI_inc _) (by decide) rfl (fun ls hl => ?_)
    refine lv_goto (tgt := 15) hx hb d_Hi_init_40 (by decide) ?_
    refine lv_iload_n hx hb d_Hi_init_15 rfl (lv_at hl 0 rfl) ?_
    refine lv_aload_n hx hb d_Hi_init_16 rfl (lv_at hl 1 rfl) ?_
    refine g_get C0 hK il_Hi (((hA_6.nw hq_11 (by omega)).gr hg_15 (by omega)).ch hc_18 (by omega)) rfl 0 (by decide) fl_Hi_11 rfl d_Hi_init_17 ?_
    refine g_alen C0 hK 4 hA_17 rfl d_Hi_init_20 ?_
    refine g_cge (tgt := 43) C0 d_Hi_init_21 (by decide) (by omega) (by omega) (fun c_21 => ?_) (fun c_21 => ?_)
    · omega
    · skip
      refine lv_aload_n hx hb d_Hi_init_24 rfl (lv_at hl 1 rfl) ?_
      refine g_get C0 hK il_Hi (((hA_6.nw hq_11 (by omega)).gr hg_15 (by omega)).ch hc_18 (by omega)) rfl 0 (by decide) fl_Hi_11 rfl d_Hi_init_25 ?_
      refine lv_iload_n hx hb d_Hi_init_28 rfl (lv_at hl 0 rfl) ?_
      refine g_new (ci := 4) (fs := [.int 0, .null, .null, .null, .null, .null, .null, .null, .null, .null, .null, .null, .null]) C0 hK il_St t_St tk_St cl_Hi_9 is_St in_St rfl (dv_St) (Nat.le_of_ble_eq_true rfl) (Nat.le_of_ble_eq_true rfl) d_Hi_init_29 (hc_18.1.trans hz_13) (fun H_19 hA_20 hz_21 hq_22 => ?_)
      refine W.widen (k := 38) (n := 361) (by omega) (by omega) ?_
      refine lv_dup hx hb d_Hi_init_32 rfl ?_
      refine g_I C0 (k_St_init l G (h + 38)) co_St_init im_St_init rfl in_St gc_St_init ml_Hi_17 ⟨Nat.le_of_ble_eq_true rfl, Nat.le_of_ble_eq_true rfl⟩ hK ⟨hz_21, hA_20⟩ rfl hl.1 rfl (Nat.le_of_ble_eq_true rfl) d_Hi_init_33 ⟨Nat.le_of_ble_eq_true rfl, Nat.le_of_ble_eq_true rfl⟩ (g_wa (free := gAb h) hL (fun q h => gAb.mk (Nat.le_trans (by omega) h)) (fun H_23 locs hL ⟨hz_24, hR_25, hg_26⟩ => ?_))
      refine W.widen (k := 73) (n := 690) (by omega) (by omega) ?_
      refine g_aast (free := gAb h) C0 hK 4 ((hA_17.nw hq_22 (by omega)).gr hg_26 (by omega)) rfl hR_25.1 rfl (by omega) (by omega) d_Hi_init_36 hL (gAb.mk (by omega)) (fun H_27 locs hL hA_28 hc_29 => ?_)
      refine lv_iinc (v := (nI 2)) (lv' := [(1, .int (nI 2)), (0, .ref h)]) hx hb d_Hi_init_37 hl (k := 0) rfl (gI_inc _) (by decide) rfl (fun ls hl => ?_)
      refine lv_goto (tgt := 15) hx hb d_Hi_init_40 (by decide) ?_
      refine lv_iload_n hx hb d_Hi_init_15 rfl (lv_at hl 0 rfl) ?_
      refine lv_aload_n hx hb d_Hi_init_16 rfl (lv_at hl 1 rfl) ?_
      refine g_get C0 hK il_Hi ((((((hA_6.nw hq_11 (by omega)).gr hg_15 (by omega)).ch hc_18 (by omega)).nw hq_22 (by omega)).gr hg_26 (by omega)).ch hc_29 (by omega)) rfl 0 (by decide) fl_Hi_11 rfl d_Hi_init_17 ?_
      refine g_alen C0 hK 4 hA_28 rfl d_Hi_init_20 ?_
      refine g_cge (tgt := 43) C0 d_Hi_init_21 (by decide) (by omega) (by omega) (fun c_21 => ?_) (fun c_21 => ?_)
      · omega
      · skip
        refine lv_aload_n hx hb d_Hi_init_24 rfl (lv_at hl 1 rfl) ?_
        refine g_get C0 hK il_Hi ((((((hA_6.nw hq_11 (by omega)).gr hg_15 (by omega)).ch hc_18 (by omega)).nw hq_22 (by omega)).gr hg_26 (by omega)).ch hc_29 (by omega)) rfl 0 (by decide) fl_Hi_11 rfl d_Hi_init_25 ?_
        refine lv_iload_n hx hb d_Hi_init_28 rfl (lv_at hl 0 rfl) ?_
        refine g_new (ci := 4) (fs := [.int 0, .null, .null, .null, .null, .null, .null, .null, .null, .null, .null, .null, .null]) C0 hK il_St t_St tk_St cl_Hi_9 is_St in_St rfl (dv_St) (Nat.le_of_ble_eq_true rfl) (Nat.le_of_ble_eq_true rfl) d_Hi_init_29 (hc_29.1.trans hz_24) (fun H_30 hA_31 hz_32 hq_33 => ?_)
        refine W.widen (k := 74) (n := 703) (by omega) (by omega) ?_
        refine lv_dup hx hb d_Hi_init_32 rfl ?_
        refine g_I C0 (k_St_init l G (h + 74)) co_St_init im_St_init rfl in_St gc_St_init ml_Hi_17 ⟨Nat.le_of_ble_eq_true rfl, Nat.le_of_ble_eq_true rfl⟩ hK ⟨hz_32, hA_31⟩ rfl hl.1 rfl (Nat.le_of_ble_eq_true rfl) d_Hi_init_33 ⟨Nat.le_of_ble_eq_true rfl, Nat.le_of_ble_eq_true rfl⟩ (g_wa (free := gAb h) hL (fun q h => gAb.mk (Nat.le_trans (by omega) h)) (fun H_34 locs hL ⟨hz_35, hR_36, hg_37⟩ => ?_))
        refine W.widen (k := 109) (n := 1032) (by omega) (by omega) ?_
        refine g_aast (free := gAb h) C0 hK 4 ((hA_28.nw hq_33 (by omega)).gr hg_37 (by omega)) rfl hR_36.1 rfl (by omega) (by omega) d_Hi_init_36 hL (gAb.mk (by omega)) (fun H_38 locs hL hA_39 hc_40 => ?_)
        refine lv_iinc (v := (nI 3)) (lv' := [(1, .int (nI 3)), (0, .ref h)]) hx hb d_Hi_init_37 hl (k := 0) rfl (gI_inc _) (by decide) rfl (fun ls hl => ?_)
        refine lv_goto (tgt := 15) hx hb d_Hi_init_40 (by decide) ?_
        refine lv_iload_n hx hb d_Hi_init_15 rfl (lv_at hl 0 rfl) ?_
        refine lv_aload_n hx hb d_Hi_init_16 rfl (lv_at hl 1 rfl) ?_
        refine g_get C0 hK il_Hi (((((((((hA_6.nw hq_11 (by omega)).gr hg_15 (by omega)).ch hc_18 (by omega)).nw hq_22 (by omega)).gr hg_26 (by omega)).ch hc_29 (by omega)).nw hq_33 (by omega)).gr hg_37 (by omega)).ch hc_40 (by omega)) rfl 0 (by decide) fl_Hi_11 rfl d_Hi_init_17 ?_
        refine g_alen C0 hK 4 hA_39 rfl d_Hi_init_20 ?_
        refine g_cge (tgt := 43) C0 d_Hi_init_21 (by decide) (by omega) (by omega) (fun c_21 => ?_) (fun c_21 => ?_)
        · omega
        · skip
          refine lv_aload_n hx hb d_Hi_init_24 rfl (lv_at hl 1 rfl) ?_
          refine g_get C0 hK il_Hi (((((((((hA_6.nw hq_11 (by omega)).gr hg_15 (by omega)).ch hc_18 (by omega)).nw hq_22 (by omega)).gr hg_26 (by omega)).ch hc_29 (by omega)).nw hq_33 (by omega)).gr hg_37 (by omega)).ch hc_40 (by omega)) rfl 0 (by decide) fl_Hi_11 rfl d_Hi_init_25 ?_
          refine lv_iload_n hx hb d_Hi_init_28 rfl (lv_at hl 0 rfl) ?_
          refine g_new (ci := 4) (fs := [.int 0, .null, .null, .null, .null, .null, .null, .null, .null, .null, .null, .null, .null]) C0 hK il_St t_St tk_St cl_Hi_9 is_St in_St rfl (dv_St) (Nat.le_of_ble_eq_true rfl) (Nat.le_of_ble_eq_true rfl) d_Hi_init_29 (hc_40.1.trans hz_35) (fun H_41 hA_42 hz_43 hq_44 => ?_)
          refine W.widen (k := 110) (n := 1045) (by omega) (by omega) ?_
          refine lv_dup hx hb d_Hi_init_32 rfl ?_
          refine g_I C0 (k_St_init l G (h + 110)) co_St_init im_St_init rfl in_St gc_St_init ml_Hi_17 ⟨Nat.le_of_ble_eq_true rfl, Nat.le_of_ble_eq_true rfl⟩ hK ⟨hz_43, hA_42⟩ rfl hl.1 rfl (Nat.le_of_ble_eq_true rfl) d_Hi_init_33 ⟨Nat.le_of_ble_eq_true rfl, Nat.le_of_ble_eq_true rfl⟩ (g_wa (free := gAb h) hL (fun q h => gAb.mk (Nat.le_trans (by omega) h)) (fun H_45 locs hL ⟨hz_46, hR_47, hg_48⟩ => ?_))
          refine W.widen (k := 145) (n := 1374) (by omega) (by omega) ?_
          refine g_aast (free := gAb h) C0 hK 4 ((hA_39.nw hq_44 (by omega)).gr hg_48 (by omega)) rfl hR_47.1 rfl (by omega) (by omega) d_Hi_init_36 hL (gAb.mk (by omega)) (fun H_49 locs hL hA_50 hc_51 => ?_)
          refine lv_iinc (v := (nI 4)) (lv' := [(1, .int (nI 4)), (0, .ref h)]) hx hb d_Hi_init_37 hl (k := 0) rfl (gI_inc _) (by decide) rfl (fun ls hl => ?_)
          refine lv_goto (tgt := 15) hx hb d_Hi_init_40 (by decide) ?_
          refine lv_iload_n hx hb d_Hi_init_15 rfl (lv_at hl 0 rfl) ?_
          refine lv_aload_n hx hb d_Hi_init_16 rfl (lv_at hl 1 rfl) ?_
          refine g_get C0 hK il_Hi ((((((((((((hA_6.nw hq_11 (by omega)).gr hg_15 (by omega)).ch hc_18 (by omega)).nw hq_22 (by omega)).gr hg_26 (by omega)).ch hc_29 (by omega)).nw hq_33 (by omega)).gr hg_37 (by omega)).ch hc_40 (by omega)).nw hq_44 (by omega)).gr hg_48 (by omega)).ch hc_51 (by omega)) rfl 0 (by decide) fl_Hi_11 rfl d_Hi_init_17 ?_
          refine g_alen C0 hK 4 hA_50 rfl d_Hi_init_20 ?_
          refine g_cge (tgt := 43) C0 d_Hi_init_21 (by decide) (by omega) (by omega) (fun c_21 => ?_) (fun c_21 => ?_)
          · omega
          · skip
            refine lv_aload_n hx hb d_Hi_init_24 rfl (lv_at hl 1 rfl) ?_
            refine g_get C0 hK il_Hi ((((((((((((hA_6.nw hq_11 (by omega)).gr hg_15 (by omega)).ch hc_18 (by omega)).nw hq_22 (by omega)).gr hg_26 (by omega)).ch hc_29 (by omega)).nw hq_33 (by omega)).gr hg_37 (by omega)).ch hc_40 (by omega)).nw hq_44 (by omega)).gr hg_48 (by omega)).ch hc_51 (by omega)) rfl 0 (by decide) fl_Hi_11 rfl d_Hi_init_25 ?_
            refine lv_iload_n hx hb d_Hi_init_28 rfl (lv_at hl 0 rfl) ?_
            refine g_new (ci := 4) (fs := [.int 0, .null, .null, .null, .null, .null, .null, .null, .null, .null, .null, .null, .null]) C0 hK il_St t_St tk_St cl_Hi_9 is_St in_St rfl (dv_St) (Nat.le_of_ble_eq_true rfl) (Nat.le_of_ble_eq_true rfl) d_Hi_init_29 (hc_51.1.trans hz_46) (fun H_52 hA_53 hz_54 hq_55 => ?_)
            refine W.widen (k := 146) (n := 1387) (by omega) (by omega) ?_
            refine lv_dup hx hb d_Hi_init_32 rfl ?_
            refine g_I C0 (k_St_init l G (h + 146)) co_St_init im_St_init rfl in_St gc_St_init ml_Hi_17 ⟨Nat.le_of_ble_eq_true rfl, Nat.le_of_ble_eq_true rfl⟩ hK ⟨hz_54, hA_53⟩ rfl hl.1 rfl (Nat.le_of_ble_eq_true rfl) d_Hi_init_33 ⟨Nat.le_of_ble_eq_true rfl, Nat.le_of_ble_eq_true rfl⟩ (g_wa (free := gAb h) hL (fun q h => gAb.mk (Nat.le_trans (by omega) h)) (fun H_56 locs hL ⟨hz_57, hR_58, hg_59⟩ => ?_))
            refine W.widen (k := 181) (n := 1716) (by omega) (by omega) ?_
            refine g_aast (free := gAb h) C0 hK 4 ((hA_50.nw hq_55 (by omega)).gr hg_59 (by omega)) rfl hR_58.1 rfl (by omega) (by omega) d_Hi_init_36 hL (gAb.mk (by omega)) (fun H_60 locs hL hA_61 hc_62 => ?_)
            refine lv_iinc (v := (nI 5)) (lv' := [(1, .int (nI 5)), (0, .ref h)]) hx hb d_Hi_init_37 hl (k := 0) rfl (gI_inc _) (by decide) rfl (fun ls hl => ?_)
            refine lv_goto (tgt := 15) hx hb d_Hi_init_40 (by decide) ?_
            refine lv_iload_n hx hb d_Hi_init_15 rfl (lv_at hl 0 rfl) ?_
            refine lv_aload_n hx hb d_Hi_init_16 rfl (lv_at hl 1 rfl) ?_
            refine g_get C0 hK il_Hi (((((((((((((((hA_6.nw hq_11 (by omega)).gr hg_15 (by omega)).ch hc_18 (by omega)).nw hq_22 (by omega)).gr hg_26 (by omega)).ch hc_29 (by omega)).nw hq_33 (by omega)).gr hg_37 (by omega)).ch hc_40 (by omega)).nw hq_44 (by omega)).gr hg_48 (by omega)).ch hc_51 (by omega)).nw hq_55 (by omega)).gr hg_59 (by omega)).ch hc_62 (by omega)) rfl 0 (by decide) fl_Hi_11 rfl d_Hi_init_17 ?_
            refine g_alen C0 hK 4 hA_61 rfl d_Hi_init_20 ?_
            refine g_cge (tgt := 43) C0 d_Hi_init_21 (by decide) (by omega) (by omega) (fun c_21 => ?_) (fun c_21 => ?_)
            · omega
            · skip
              refine lv_aload_n hx hb d_Hi_init_24 rfl (lv_at hl 1 rfl) ?_
              refine g_get C0 hK il_Hi (((((((((((((((hA_6.nw hq_11 (by omega)).gr hg_15 (by omega)).ch hc_18 (by omega)).nw hq_22 (by omega)).gr hg_26 (by omega)).ch hc_29 (by omega)).nw hq_33 (by omega)).gr hg_37 (by omega)).ch hc_40 (by omega)).nw hq_44 (by omega)).gr hg_48 (by omega)).ch hc_51 (by omega)).nw hq_55 (by omega)).gr hg_59 (by omega)).ch hc_62 (by omega)) rfl 0 (by decide) fl_Hi_11 rfl d_Hi_init_25 ?_
              refine lv_iload_n hx hb d_Hi_init_28 rfl (lv_at hl 0 rfl) ?_
              refine g_new (ci := 4) (fs := [.int 0, .null, .null, .null, .null, .null, .null, .null, .null, .null, .null, .null, .null]) C0 hK il_St t_St tk_St cl_Hi_9 is_St in_St rfl (dv_St) (Nat.le_of_ble_eq_true rfl) (Nat.le_of_ble_eq_true rfl) d_Hi_init_29 (hc_62.1.trans hz_57) (fun H_63 hA_64 hz_65 hq_66 => ?_)
              refine W.widen (k := 182) (n := 1729) (by omega) (by omega) ?_
              refine lv_dup hx hb d_Hi_init_32 rfl ?_
              refine g_I C0 (k_St_init l G (h + 182)) co_St_init im_St_init rfl in_St gc_St_init ml_Hi_17 ⟨Nat.le_of_ble_eq_true rfl, Nat.le_of_ble_eq_true rfl⟩ hK ⟨hz_65, hA_64⟩ rfl hl.1 rfl (Nat.le_of_ble_eq_true rfl) d_Hi_init_33 ⟨Nat.le_of_ble_eq_true rfl, Nat.le_of_ble_eq_true rfl⟩ (g_wa (free := gAb h) hL (fun q h => gAb.mk (Nat.le_trans (by omega) h)) (fun H_67 locs hL ⟨hz_68, hR_69, hg_70⟩ => ?_))
              refine W.widen (k := 217) (n := 2058) (by omega) (by omega) ?_
              refine g_aast (free := gAb h) C0 hK 4 ((hA_61.nw hq_66 (by omega)).gr hg_70 (by omega)) rfl hR_69.1 rfl (by omega) (by omega) d_Hi_init_36 hL (gAb.mk (by omega)) (fun H_71 locs hL hA_72 hc_73 => ?_)
              refine lv_iinc (v := (nI 6)) (lv' := [(1, .int (nI 6)), (0, .ref h)]) hx hb d_Hi_init_37 hl (k := 0) rfl (gI_inc _) (by decide) rfl (fun ls hl => ?_)
              refine lv_goto (tgt := 15) hx hb d_Hi_init_40 (by decide) ?_
              refine lv_iload_n hx hb d_Hi_init_15 rfl (lv_at hl 0 rfl) ?_
              refine lv_aload_n hx hb d_Hi_init_16 rfl (lv_at hl 1 rfl) ?_
              refine g_get C0 hK il_Hi ((((((((((((((((((hA_6.nw hq_11 (by omega)).gr hg_15 (by omega)).ch hc_18 (by omega)).nw hq_22 (by omega)).gr hg_26 (by omega)).ch hc_29 (by omega)).nw hq_33 (by omega)).gr hg_37 (by omega)).ch hc_40 (by omega)).nw hq_44 (by omega)).gr hg_48 (by omega)).ch hc_51 (by omega)).nw hq_55 (by omega)).gr hg_59 (by omega)).ch hc_62 (by omega)).nw hq_66 (by omega)).gr hg_70 (by omega)).ch hc_73 (by omega)) rfl 0 (by decide) fl_Hi_11 rfl d_Hi_init_17 ?_
              refine g_alen C0 hK 4 hA_72 rfl d_Hi_init_20 ?_
              refine g_cge (tgt := 43) C0 d_Hi_init_21 (by decide) (by omega) (by omega) (fun c_21 => ?_) (fun c_21 => ?_)
              · skip
                refine g_vret C0 hlk hr d_Hi_init_43 hL ?_
                exact ⟨rfl, (hc_73.1.trans hz_68), ⟨((((((((((((((((((hA_6.nw hq_11 (by omega)).gr hg_15 (by omega)).ch hc_18 (by omega)).nw hq_22 (by omega)).gr hg_26 (by omega)).ch hc_29 (by omega)).nw hq_33 (by omega)).gr hg_37 (by omega)).ch hc_40 (by omega)).nw hq_44 (by omega)).gr hg_48 (by omega)).ch hc_51 (by omega)).nw hq_55 (by omega)).gr hg_59 (by omega)).ch hc_62 (by omega)).nw hq_66 (by omega)).gr hg_70 (by omega)).ch hc_73 (by omega)), gE_q hA_72 (his6 h), all6 ((((((((((((((((hR_14.ch hc_18 (by omega)).nw hq_22 (by omega)).gr hg_26 (by omega)).ch hc_29 (by omega)).nw hq_33 (by omega)).gr hg_37 (by omega)).ch hc_40 (by omega)).nw hq_44 (by omega)).gr hg_48 (by omega)).ch hc_51 (by omega)).nw hq_55 (by omega)).gr hg_59 (by omega)).ch hc_62 (by omega)).nw hq_66 (by omega)).gr hg_70 (by omega)).ch hc_73 (by omega)) (((((((((((((hR_25.ch hc_29 (by omega)).nw hq_33 (by omega)).gr hg_37 (by omega)).ch hc_40 (by omega)).nw hq_44 (by omega)).gr hg_48 (by omega)).ch hc_51 (by omega)).nw hq_55 (by omega)).gr hg_59 (by omega)).ch hc_62 (by omega)).nw hq_66 (by omega)).gr hg_70 (by omega)).ch hc_73 (by omega)) ((((((((((hR_36.ch hc_40 (by omega)).nw hq_44 (by omega)).gr hg_48 (by omega)).ch hc_51 (by omega)).nw hq_55 (by omega)).gr hg_59 (by omega)).ch hc_62 (by omega)).nw hq_66 (by omega)).gr hg_70 (by omega)).ch hc_73 (by omega)) (((((((hR_47.ch hc_51 (by omega)).nw hq_55 (by omega)).gr hg_59 (by omega)).ch hc_62 (by omega)).nw hq_66 (by omega)).gr hg_70 (by omega)).ch hc_73 (by omega)) ((((hR_58.ch hc_62 (by omega)).nw hq_66 (by omega)).gr hg_70 (by omega)).ch hc_73 (by omega)) (hR_69.ch hc_73 (by omega)), Nat.zero_le 6, fun k hk => hk, fun i _ j _ e => e⟩, ((((((((((((((((((((gGr.rf.tr (gGr.nw hz_3 hP.1 hq_4 (by omega))).tr (gGr.ch hc_7 (by omega))).tr (gGr.nw hz_10 (hc_7.1.trans hz_3) hq_11 (by omega))).tr (hg_15.mono (by omega))).tr (gGr.ch hc_18 (by omega))).tr (gGr.nw hz_21 (hc_18.1.trans hz_13) hq_22 (by omega))).tr (hg_26.mono (by omega))).tr (gGr.ch hc_29 (by omega))).tr (gGr.nw hz_32 (hc_29.1.trans hz_24) hq_33 (by omega))).tr (hg_37.mono (by omega))).tr (gGr.ch hc_40 (by omega))).tr (gGr.nw hz_43 (hc_40.1.trans hz_35) hq_44 (by omega))).tr (hg_48.mono (by omega))).tr (gGr.ch hc_51 (by omega))).tr (gGr.nw hz_54 (hc_51.1.trans hz_46) hq_55 (by omega))).tr (hg_59.mono (by omega))).tr (gGr.ch hc_62 (by omega))).tr (gGr.nw hz_65 (hc_62.1.trans hz_57) hq_66 (by omega))).tr (hg_70.mono (by omega))).tr (gGr.ch hc_73 (by omega)))⟩
              · omega
