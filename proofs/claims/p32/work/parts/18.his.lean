set_option maxHeartbeats 4000000 in
set_option maxRecDepth 100000 in
theorem k_Hi_size (l : Launch) (G : gT) (h n : Nat) (π : Nat → Nat) (Z : Nat → ST)  : gM l y_Hi_size c_Hi_size 1 (some .int) 0 0 0 0 G [.ref h] (fun H => HAt G h n π Z H) (rd (.int (nI n))) noF := by
  refine g_enter "GaleNames$History" (by decide +kernel) rfl (Nat.le_of_ble_eq_true rfl) ?_
  intro p e s m args below meth c C0 hlk hr hnm hP hK ls hl
  have hx := C0.1
  have hb := C0.2.1
  have hl : lv_has ls 1 [(0, .ref h)] := hl
  refine lv_aload_n hx hb d_Hi_size_0 rfl (lv_at hl 0 rfl) ?_
  refine g_get C0 hK il_Hi hP.1 rfl 1 (by decide) fl_Hi_18 rfl d_Hi_size_1 ?_
  refine g_iret C0 hlk hr d_Hi_size_4 (t_nil (free := noF)) ?_
  exact ⟨rfl, rfl⟩

set_option maxHeartbeats 4000000 in
set_option maxRecDepth 100000 in
theorem k_Hi_stateAt (l : Launch) (G : gT) (h n : Nat) (π : Nat → Nat) (Z : Nat → ST) (i : Nat) (hi : i < 6) : gM l y_Hi_stateAt c_Hi_stateAt 2 (some (.object "GaleNames$State")) 0 0 0 0 G [.ref h, .int (nI i)] (fun H => HAt G h n π Z H) (rd (.ref (h + 2 + 36 * π i))) noF := by
  refine g_enter "GaleNames$History" (by decide +kernel) rfl (Nat.le_of_ble_eq_true rfl) ?_
  intro p e s m args below meth c C0 hlk hr hnm hP hK ls hl
  have hx := C0.1
  have hb := C0.2.1
  have hl : lv_has ls 2 [(0, .ref h), (1, .int (nI i))] := hl
  refine lv_iload_n hx hb d_Hi_stateAt_0 rfl (lv_at hl 1 rfl) ?_
  refine lv_if_lt (tgt := 22) hx hb d_Hi_stateAt_1 (by decide) (fun c_1 => ?_) (fun c_1 => ?_)
  · exact absurd c_1 (nI_pos (by omega))
  · skip
    refine lv_iload_n hx hb d_Hi_stateAt_4 rfl (lv_at hl 1 rfl) ?_
    refine lv_aload_n hx hb d_Hi_stateAt_5 rfl (lv_at hl 0 rfl) ?_
    refine g_get C0 hK il_Hi hP.1 rfl 0 (by decide) fl_Hi_11 rfl d_Hi_stateAt_6 ?_
    refine g_alen C0 hK 4 hP.2.1 rfl d_Hi_stateAt_9 ?_
    refine g_cge (tgt := 22) C0 d_Hi_stateAt_10 (by decide) (by omega) (by omega) (fun c_10 => ?_) (fun c_10 => ?_)
    · omega
    · skip
      refine lv_aload_n hx hb d_Hi_stateAt_13 rfl (lv_at hl 0 rfl) ?_
      refine g_get C0 hK il_Hi hP.1 rfl 0 (by decide) fl_Hi_11 rfl d_Hi_stateAt_14 ?_
      refine lv_iload_n hx hb d_Hi_stateAt_17 rfl (lv_at hl 1 rfl) ?_
      refine g_aald C0 hK 4 hP.2.1 rfl (by omega) (by omega) d_Hi_stateAt_18 ?_
      refine lv_goto (tgt := 23) hx hb d_Hi_stateAt_19 (by decide) ?_
      refine g_aret C0 hlk hr (Or.inr ⟨_, rfl⟩) d_Hi_stateAt_23 (t_nil (free := noF)) ?_
      exact ⟨rfl, rfl⟩

set_option maxHeartbeats 4000000 in
set_option maxRecDepth 100000 in
theorem k_Hi_dropOldest (l : Launch) (G : gT) (h n : Nat) (π : Nat → Nat) (Z : Nat → ST) (hn : 1 ≤ n) : gM l y_Hi_dropOldest c_Hi_dropOldest 3 none 1 21 0 0 G [.ref h] (fun H => HAt G h n π Z H) (wv (fun H H1 => HAt G h (n - 1) (rot π) (rot Z) H1 ∧ gFr h (h + 218) H H1)) (gRg h (h + 218)) := by
  refine g_enter "GaleNames$History" (by decide +kernel) rfl (Nat.le_of_ble_eq_true rfl) ?_
  intro p e s m args below meth c C0 hlk hr hnm hP hK ls hl
  have hx := C0.1
  have hb := C0.2.1
  have hl : lv_has ls 3 [(0, .ref h)] := hl
  obtain ⟨-, -, -, h4, h5, h6⟩ := id hP
  have hp0 := h5 0 (by decide)
  have hp1 := h5 1 (by decide)
  have hp2 := h5 2 (by decide)
  have hp3 := h5 3 (by decide)
  have hp4 := h5 4 (by decide)
  have hp5 := h5 5 (by decide)
  refine lv_aload_n hx hb d_Hi_dropOldest_0 rfl (lv_at hl 0 rfl) ?_
  refine lv_iconst (v := nI 0) hx hb d_Hi_dropOldest_1 (by decide +kernel) ?_
  refine g_V C0 (k_Hi_stateAt l G h n π Z 0 (by omega)) co_Hi_stateAt im_Hi_stateAt se_Hi_stateAt in_Hi gc_Hi_stateAt ml_Hi_25 ⟨Nat.le_of_ble_eq_true rfl, Nat.le_of_ble_eq_true rfl⟩ hK hP.1 rfl hP rfl hl.1 rfl (Nat.le_of_ble_eq_true rfl) d_Hi_dropOldest_2 ⟨Nat.le_of_ble_eq_true rfl, Nat.le_of_ble_eq_true rfl⟩ (g_r rfl ?_)
  refine lv_astore_n (lv' := [(1, .ref (h + 2 + 36 * π 0)), (0, .ref h)]) hx hb d_Hi_dropOldest_5 rfl hl (by decide) rfl (fun ls hl => ?_)
  refine lv_iconst (v := nI 1) hx hb d_Hi_dropOldest_6 (by decide +kernel) ?_
  refine lv_istore_n (lv' := [(2, .int (nI 1)), (1, .ref (h + 2 + 36 * π 0)), (0, .ref h)]) hx hb d_Hi_dropOldest_7 rfl hl (by decide) rfl (fun ls hl => ?_)
  refine lv_iload_n hx hb d_Hi_dropOldest_8 rfl (lv_at hl 0 rfl) ?_
  refine lv_aload_n hx hb d_Hi_dropOldest_9 rfl (lv_at hl 2 rfl) ?_
  refine g_get C0 hK il_Hi hP.1 rfl 0 (by decide) fl_Hi_11 rfl d_Hi_dropOldest_10 ?_
  refine g_alen C0 hK 4 hP.2.1 rfl d_Hi_dropOldest_13 ?_
  refine g_cge (tgt := 37) C0 d_Hi_dropOldest_14 (by decide) (by omega) (by omega) (fun c_14 => ?_) (fun c_14 => ?_)
  · omega
  · skip
    refine lv_aload_n hx hb d_Hi_dropOldest_17 rfl (lv_at hl 2 rfl) ?_
    refine g_get C0 hK il_Hi hP.1 rfl 0 (by decide) fl_Hi_11 rfl d_Hi_dropOldest_18 ?_
    refine lv_iload_n hx hb d_Hi_dropOldest_21 rfl (lv_at hl 0 rfl) ?_
    refine lv_iconst (v := nI 1) hx hb d_Hi_dropOldest_22 (by decide +kernel) ?_
    refine g_isub C0 (z := 0) d_Hi_dropOldest_23 (by omega) ?_
    refine lv_aload_n hx hb d_Hi_dropOldest_24 rfl (lv_at hl 2 rfl) ?_
    refine g_get C0 hK il_Hi hP.1 rfl 0 (by decide) fl_Hi_11 rfl d_Hi_dropOldest_25 ?_
    refine lv_iload_n hx hb d_Hi_dropOldest_28 rfl (lv_at hl 0 rfl) ?_
    refine g_aald C0 hK 4 hP.2.1 rfl (by omega) (by omega) d_Hi_dropOldest_29 ?_
    refine g_aast (free := gRg h (h + 218)) C0 hK 4 hP.2.1 rfl (hP.2.2.1 1 (by omega)).1 rfl (by omega) (by omega) d_Hi_dropOldest_30 (t_nil (free := gRg h (h + 218))) (gRg.mk (by omega) (by omega)) (fun H_1 locs hL hA_2 hc_3 => ?_)
    refine lv_iinc (v := (nI 2)) (lv' := [(2, .int (nI 2)), (1, .ref (h + 2 + 36 * π 0)), (0, .ref h)]) hx hb d_Hi_dropOldest_31 hl (k := 0) rfl (gI_inc _) (by decide) rfl (fun ls hl => ?_)
    refine lv_goto (tgt := 8) hx hb d_Hi_dropOldest_34 (by decide) ?_
    refine lv_iload_n hx hb d_Hi_dropOldest_8 rfl (lv_at hl 0 rfl) ?_
    refine lv_aload_n hx hb d_Hi_dropOldest_9 rfl (lv_at hl 2 rfl) ?_
    refine g_get C0 hK il_Hi (hP.1.ch hc_3 (by omega)) rfl 0 (by decide) fl_Hi_11 rfl d_Hi_dropOldest_10 ?_
    refine g_alen C0 hK 4 hA_2 rfl d_Hi_dropOldest_13 ?_
    refine g_cge (tgt := 37) C0 d_Hi_dropOldest_14 (by decide) (by omega) (by omega) (fun c_14 => ?_) (fun c_14 => ?_)
    · omega
    · skip
      refine lv_aload_n hx hb d_Hi_dropOldest_17 rfl (lv_at hl 2 rfl) ?_
      refine g_get C0 hK il_Hi (hP.1.ch hc_3 (by omega)) rfl 0 (by decide) fl_Hi_11 rfl d_Hi_dropOldest_18 ?_
      refine lv_iload_n hx hb d_Hi_dropOldest_21 rfl (lv_at hl 0 rfl) ?_
      refine lv_iconst (v := nI 1) hx hb d_Hi_dropOldest_22 (by decide +kernel) ?_
      refine g_isub C0 (z := 1) d_Hi_dropOldest_23 (by omega) ?_
      refine lv_aload_n hx hb d_Hi_dropOldest_24 rfl (lv_at hl 2 rfl) ?_
      refine g_get C0 hK il_Hi (hP.1.ch hc_3 (by omega)) rfl 0 (by decide) fl_Hi_11 rfl d_Hi_dropOldest_25 ?_
      refine lv_iload_n hx hb d_Hi_dropOldest_28 rfl (lv_at hl 0 rfl) ?_
      refine g_aald C0 hK 4 hA_2 rfl (by omega) (by omega) d_Hi_dropOldest_29 ?_
      refine g_aast (free := gRg h (h + 218)) C0 hK 4 hA_2 rfl (hP.2.2.1 2 (by omega) |>.ch hc_3 (by omega)).1 rfl (by omega) (by omega) d_Hi_dropOldest_30 hL (gRg.mk (by omega) (by omega)) (fun H_4 locs hL hA_5 hc_6 => ?_)
      refine lv_iinc (v := (nI 3)) (lv' := [(2, .int (nI 3)), (1, .ref (h + 2 + 36 * π 0)), (0, .ref h)]) hx hb d_Hi_dropOldest_31 hl (k := 0) rfl (gI_inc _) (by decide) rfl (fun ls hl => ?_)
      refine lv_goto (tgt := 8) hx hb d_Hi_dropOldest_34 (by decide) ?_
      refine lv_iload_n hx hb d_Hi_dropOldest_8 rfl (lv_at hl 0 rfl) ?_
      refine lv_aload_n hx hb d_Hi_dropOldest_9 rfl (lv_at hl 2 rfl) ?_
      refine g_get C0 hK il_Hi ((hP.1.ch hc_3 (by omega)).ch hc_6 (by omega)) rfl 0 (by decide) fl_Hi_11 rfl d_Hi_dropOldest_10 ?_
      refine g_alen C0 hK 4 hA_5 rfl d_Hi_dropOldest_13 ?_
      refine g_cge (tgt := 37) C0 d_Hi_dropOldest_14 (by decide) (by omega) (by omega) (fun c_14 => ?_) (fun c_14 => ?_)
      · omega
      · skip
        refine lv_aload_n hx hb d_Hi_dropOldest_17 rfl (lv_at hl 2 rfl) ?_
        refine g_get C0 hK il_Hi ((hP.1.ch hc_3 (by omega)).ch hc_6 (by omega)) rfl 0 (by decide) fl_Hi_11 rfl d_Hi_dropOldest_18 ?_
        refine lv_iload_n hx hb d_Hi_dropOldest_21 rfl (lv_at hl 0 rfl) ?_
        refine lv_iconst (v := nI 1) hx hb d_Hi_dropOldest_22 (by decide +kernel) ?_
        refine g_isub C0 (z := 2) d_Hi_dropOldest_23 (by omega) ?_
        refine lv_aload_n hx hb d_Hi_dropOldest_24 rfl (lv_at hl 2 rfl) ?_
        refine g_get C0 hK il_Hi ((hP.1.ch hc_3 (by omega)).ch hc_6 (by omega)) rfl 0 (by decide) fl_Hi_11 rfl d_Hi_dropOldest_25 ?_
        refine lv_iload_n hx hb d_Hi_dropOldest_28 rfl (lv_at hl 0 rfl) ?_
        refine g_aald C0 hK 4 hA_5 rfl (by omega) (by omega) d_Hi_dropOldest_29 ?_
        refine g_aast (free := gRg h (h + 218)) C0 hK 4 hA_5 rfl (hP.2.2.1 3 (by omega) |>.ch hc_3 (by omega) |>.ch hc_6 (by omega)).1 rfl (by omega) (by omega) d_Hi_dropOldest_30 hL (gRg.mk (by omega) (by omega)) (fun H_7 locs hL hA_8 hc_9 => ?_)
        refine lv_iinc (v := (nI 4)) (lv' := [(2, .int (nI 4)), (1, .ref (h + 2 + 36 * π 0)), (0, .ref h)]) hx hb d_Hi_dropOldest_31 hl (k := 0) rfl (gI_inc _) (by decide) rfl (fun ls hl => ?_)
        refine lv_goto (tgt := 8) hx hb d_Hi_dropOldest_34 (by decide) ?_
        refine lv_iload_n hx hb d_Hi_dropOldest_8 rfl (lv_at hl 0 rfl) ?_
        refine lv_aload_n hx hb d_Hi_dropOldest_9 rfl (lv_at hl 2 rfl) ?_
        refine g_get C0 hK il_Hi (((hP.1.ch hc_3 (by omega)).ch hc_6 (by omega)).ch hc_9 (by omega)) rfl 0 (by decide) fl_Hi_11 rfl d_Hi_dropOldest_10 ?_
        refine g_alen C0 hK 4 hA_8 rfl d_Hi_dropOldest_13 ?_
        refine g_cge (tgt := 37) C0 d_Hi_dropOldest_14 (by decide) (by omega) (by omega) (fun c_14 => ?_) (fun c_14 => ?_)
        · omega
        · skip
          refine lv_aload_n hx hb d_Hi_dropOldest_17 rfl (lv_at hl 2 rfl) ?_
          refine g_get C0 hK il_Hi (((hP.1.ch hc_3 (by omega)).ch hc_6 (by omega)).ch hc_9 (by omega)) rfl 0 (by decide) fl_Hi_11 rfl d_Hi_dropOldest_18 ?_
          refine lv_iload_n hx hb d_Hi_dropOldest_21 rfl (lv_at hl 0 rfl) ?_
          refine lv_iconst (v := nI 1) hx hb d_Hi_dropOldest_22 (by decide +kernel) ?_
          refine g_isub C0 (z := 3) d_Hi_dropOldest_23 (by omega) ?_
          refine lv_aload_n hx hb d_Hi_dropOldest_24 rfl (lv_at hl 2 rfl) ?_
          refine g_get C0 hK il_Hi (((hP.1.ch hc_3 (by omega)).ch hc_6 (by omega)).ch hc_9 (by omega)) rfl 0 (by decide) fl_Hi_11 rfl d_Hi_dropOldest_25 ?_
          refine lv_iload_n hx hb d_Hi_dropOldest_28 rfl (lv_at hl 0 rfl) ?_
          refine g_aald C0 hK 4 hA_8 rfl (by omega) (by omega) d_Hi_dropOldest_29 ?_
          refine g_aast (free := gRg h (h + 218)) C0 hK 4 hA_8 rfl (hP.2.2.1 4 (by omega) |>.ch hc_3 (by omega) |>.ch hc_6 (by omega) |>.ch hc_9 (by omega)).1 rfl (by omega) (by omega) d_Hi_dropOldest_30 hL (gRg.mk (by omega) (by omega)) (fun H_10 locs hL hA_11 hc_12 => ?_)
          refine lv_iinc (v := (nI 5)) (lv' := [(2, .int (nI 5)), (1, .ref (h + 2 + 36 * π 0)), (0, .ref h)]) hx hb d_Hi_dropOldest_31 hl (k := 0) rfl (gI_inc _) (by decide) rfl (fun ls hl => ?_)
          refine lv_goto (tgt := 8) hx hb d_Hi_dropOldest_34 (by decide) ?_
          refine lv_iload_n hx hb d_Hi_dropOldest_8 rfl (lv_at hl 0 rfl) ?_
          refine lv_aload_n hx hb d_Hi_dropOldest_9 rfl (lv_at hl 2 rfl) ?_
          refine g_get C0 hK il_Hi ((((hP.1.ch hc_3 (by omega)).ch hc_6 (by omega)).ch hc_9 (by omega)).ch hc_12 (by omega)) rfl 0 (by decide) fl_Hi_11 rfl d_Hi_dropOldest_10 ?_
          refine g_alen C0 hK 4 hA_11 rfl d_Hi_dropOldest_13 ?_
          refine g_cge (tgt := 37) C0 d_Hi_dropOldest_14 (by decide) (by omega) (by omega) (fun c_14 => ?_) (fun c_14 => ?_)
          · omega
          · skip
            refine lv_aload_n hx hb d_Hi_dropOldest_17 rfl (lv_at hl 2 rfl) ?_
            refine g_get C0 hK il_Hi ((((hP.1.ch hc_3 (by omega)).ch hc_6 (by omega)).ch hc_9 (by omega)).ch hc_12 (by omega)) rfl 0 (by decide) fl_Hi_11 rfl d_Hi_dropOldest_18 ?_
            refine lv_iload_n hx hb d_Hi_dropOldest_21 rfl (lv_at hl 0 rfl) ?_
            refine lv_iconst (v := nI 1) hx hb d_Hi_dropOldest_22 (by decide +kernel) ?_
            refine g_isub C0 (z := 4) d_Hi_dropOldest_23 (by omega) ?_
            refine lv_aload_n hx hb d_Hi_dropOldest_24 rfl (lv_at hl 2 rfl) ?_
            refine g_get C0 hK il_Hi ((((hP.1.ch hc_3 (by omega)).ch hc_6 (by omega)).ch hc_9 (by omega)).ch hc_12 (by omega)) rfl 0 (by decide) fl_Hi_11 rfl d_Hi_dropOldest_25 ?_
            refine lv_iload_n hx hb d_Hi_dropOldest_28 rfl (lv_at hl 0 rfl) ?_
            refine g_aald C0 hK 4 hA_11 rfl (by omega) (by omega) d_Hi_dropOldest_29 ?_
            refine g_aast (free := gRg h (h + 218)) C0 hK 4 hA_11 rfl (hP.2.2.1 5 (by omega) |>.ch hc_3 (by omega) |>.ch hc_6 (by omega) |>.ch hc_9 (by omega) |>.ch hc_12 (by omega)).1 rfl (by omega) (by omega) d_Hi_dropOldest_30 hL (gRg.mk (by omega) (by omega)) (fun H_13 locs hL hA_14 hc_15 => ?_)
            refine lv_iinc (v := (nI 6)) (lv' := [(2, .int (nI 6)), (1, .ref (h + 2 + 36 * π 0)), (0, .ref h)]) hx hb d_Hi_dropOldest_31 hl (k := 0) rfl (gI_inc _) (by decide) rfl (fun ls hl => ?_)
            refine lv_goto (tgt := 8) hx hb d_Hi_dropOldest_34 (by decide) ?_
            refine lv_iload_n hx hb d_Hi_dropOldest_8 rfl (lv_at hl 0 rfl) ?_
            refine lv_aload_n hx hb d_Hi_dropOldest_9 rfl (lv_at hl 2 rfl) ?_
            refine g_get C0 hK il_Hi (((((hP.1.ch hc_3 (by omega)).ch hc_6 (by omega)).ch hc_9 (by omega)).ch hc_12 (by omega)).ch hc_15 (by omega)) rfl 0 (by decide) fl_Hi_11 rfl d_Hi_dropOldest_10 ?_
            refine g_alen C0 hK 4 hA_14 rfl d_Hi_dropOldest_13 ?_
            refine g_cge (tgt := 37) C0 d_Hi_dropOldest_14 (by decide) (by omega) (by omega) (fun c_14 => ?_) (fun c_14 => ?_)
            · skip
              refine lv_aload_n hx hb d_Hi_dropOldest_37 rfl (lv_at hl 1 rfl) ?_
              refine lv_ifnull hx hb d_Hi_dropOldest_38 ?_
              refine lv_aload_n hx hb d_Hi_dropOldest_41 rfl (lv_at hl 2 rfl) ?_
              refine g_get C0 hK il_Hi (((((hP.1.ch hc_3 (by omega)).ch hc_6 (by omega)).ch hc_9 (by omega)).ch hc_12 (by omega)).ch hc_15 (by omega)) rfl 0 (by decide) fl_Hi_11 rfl d_Hi_dropOldest_42 ?_
              refine lv_aload_n hx hb d_Hi_dropOldest_45 rfl (lv_at hl 2 rfl) ?_
              refine g_get C0 hK il_Hi (((((hP.1.ch hc_3 (by omega)).ch hc_6 (by omega)).ch hc_9 (by omega)).ch hc_12 (by omega)).ch hc_15 (by omega)) rfl 0 (by decide) fl_Hi_11 rfl d_Hi_dropOldest_46 ?_
              refine g_alen C0 hK 4 hA_14 rfl d_Hi_dropOldest_49 ?_
              refine lv_iconst (v := nI 1) hx hb d_Hi_dropOldest_50 (by decide +kernel) ?_
              refine g_isub C0 (z := 5) d_Hi_dropOldest_51 (by omega) ?_
              refine lv_aload_n hx hb d_Hi_dropOldest_52 rfl (lv_at hl 1 rfl) ?_
              refine g_aast (free := gRg h (h + 218)) C0 hK 4 hA_14 rfl (hP.2.2.1 0 (by omega) |>.ch hc_3 (by omega) |>.ch hc_6 (by omega) |>.ch hc_9 (by omega) |>.ch hc_12 (by omega) |>.ch hc_15 (by omega)).1 rfl (by omega) (by omega) d_Hi_dropOldest_53 hL (gRg.mk (by omega) (by omega)) (fun H_16 locs hL hA_17 hc_18 => ?_)
              refine lv_aload_n hx hb d_Hi_dropOldest_54 rfl (lv_at hl 2 rfl) ?_
              refine lv_dup hx hb d_Hi_dropOldest_55 rfl ?_
              refine g_get C0 hK il_Hi ((((((hP.1.ch hc_3 (by omega)).ch hc_6 (by omega)).ch hc_9 (by omega)).ch hc_12 (by omega)).ch hc_15 (by omega)).ch hc_18 (by omega)) rfl 1 (by decide) fl_Hi_18 rfl d_Hi_dropOldest_56 ?_
              refine lv_iconst (v := nI 1) hx hb d_Hi_dropOldest_59 (by decide +kernel) ?_
              refine g_isub C0 (z := n - 1) d_Hi_dropOldest_60 (by omega) ?_
              refine g_put (free := gRg h (h + 218)) C0 hK il_Hi tk_Hi nm_Hi ((((((hP.1.ch hc_3 (by omega)).ch hc_6 (by omega)).ch hc_9 (by omega)).ch hc_12 (by omega)).ch hc_15 (by omega)).ch hc_18 (by omega)) rfl 1 (by decide) fl_Hi_18 rfl rfl rfl (Nat.le_of_ble_eq_true rfl) d_Hi_dropOldest_61 hL (gRg.mk (by omega) (by omega)) (fun H_19 locs hL hA_20 hc_21 => ?_)
              have hA_20 : gE G h (eO 0 [.ref (h + 1), .int (nI (n - 1))]) H_19 := hA_20
              refine g_vret C0 hlk hr d_Hi_dropOldest_64 hL ?_
              exact ⟨rfl, ⟨hA_20, gE_q (hA_17.ch hc_21 (by omega)) (rot6h h π), (fun k hk => (rot_st hP.2.2.1 k hk) |>.ch hc_3 (by have := rot_lt h5 k hk; omega) |>.ch hc_6 (by have := rot_lt h5 k hk; omega) |>.ch hc_9 (by have := rot_lt h5 k hk; omega) |>.ch hc_12 (by have := rot_lt h5 k hk; omega) |>.ch hc_15 (by have := rot_lt h5 k hk; omega) |>.ch hc_18 (by have := rot_lt h5 k hk; omega) |>.ch hc_21 (by have := rot_lt h5 k hk; omega)), (by omega), rot_lt h5, rot_inj h6⟩, (((((((gFr.rf.tr (gFr.ch hc_3 (by omega) (by omega))).tr (gFr.ch hc_6 (by omega) (by omega))).tr (gFr.ch hc_9 (by omega) (by omega))).tr (gFr.ch hc_12 (by omega) (by omega))).tr (gFr.ch hc_15 (by omega) (by omega))).tr (gFr.ch hc_18 (by omega) (by omega))).tr (gFr.ch hc_21 (by omega) (by omega)))⟩
            · omega

set_option maxHeartbeats 4000000 in
set_option maxRecDepth 100000 in
theorem k_Hi_record (l : Launch) (G : gT) (h n : Nat) (π : Nat → Nat) (Z : Nat → ST) (b : Nat) (Y : ST) (hb : b + 36 ≤ h ∨ h + 218 ≤ b) : gM l y_Hi_record c_Hi_record 3 none 4 84 0 0 G [.ref h, .ref b] (fun H => HAt G h n π Z H ∧ StAt G b Y H) (wv (fun H H1 => HAt G h (hrN n + 1) (hrP n π) (hrZ n Z Y) H1 ∧ gFr h (h + 218) H H1)) (gRg h (h + 218)) := by
  refine g_enter "GaleNames$History" (by decide +kernel) rfl (Nat.le_of_ble_eq_true rfl) ?_
  intro p e s m args below meth c C0 hlk hr hnm hP hK ls hl
  have hx := C0.1
  have hb := C0.2.1
  have hl : lv_has ls 3 [(0, .ref h), (1, .ref b)] := hl
  obtain ⟨-, -, -, h4, -, -⟩ := id hP.1
  refine lv_aload_n hx hb d_Hi_record_0 rfl (lv_at hl 0 rfl) ?_
  refine g_get C0 hK il_Hi hP.1.1 rfl 1 (by decide) fl_Hi_18 rfl d_Hi_record_1 ?_
  refine lv_aload_n hx hb d_Hi_record_4 rfl (lv_at hl 0 rfl) ?_
  refine g_get C0 hK il_Hi hP.1.1 rfl 0 (by decide) fl_Hi_11 rfl d_Hi_record_5 ?_
  refine g_alen C0 hK 4 hP.1.2.1 rfl d_Hi_record_8 ?_
  refine g_clt (tgt := 16) C0 d_Hi_record_9 (by decide) (by omega) (by omega) (fun c_9 => ?_) (fun c_9 => ?_)
  · skip
    refine lv_aload_n hx hb d_Hi_record_16 rfl (lv_at hl 0 rfl) ?_
    refine lv_aload_n hx hb d_Hi_record_17 rfl (lv_at hl 0 rfl) ?_
    refine g_get C0 hK il_Hi hP.1.1 rfl 1 (by decide) fl_Hi_18 rfl d_Hi_record_18 ?_
    refine g_V C0 (k_Hi_stateAt l G h n π Z n (by omega)) co_Hi_stateAt im_Hi_stateAt se_Hi_stateAt in_Hi gc_Hi_stateAt ml_Hi_25 ⟨Nat.le_of_ble_eq_true rfl, Nat.le_of_ble_eq_true rfl⟩ hK hP.1.1 rfl hP.1 rfl hl.1 rfl (Nat.le_of_ble_eq_true rfl) d_Hi_record_21 ⟨Nat.le_of_ble_eq_true rfl, Nat.le_of_ble_eq_true rfl⟩ (g_r rfl ?_)
    refine lv_astore_n (lv' := [(2, .ref (h + 2 + 36 * π n)), (0, .ref h), (1, .ref b)]) hx hb d_Hi_record_24 rfl hl (by decide) rfl (fun ls hl => ?_)
    refine lv_aload_n hx hb d_Hi_record_25 rfl (lv_at hl 0 rfl) ?_
    refine lv_ifnonnull (tgt := 30) hx hb d_Hi_record_26 (by decide) ?_
    refine lv_aload_n hx hb d_Hi_record_30 rfl (lv_at hl 0 rfl) ?_
    refine lv_aload_n hx hb d_Hi_record_31 rfl (lv_at hl 2 rfl) ?_
    have hpi := hP.1.2.2.2.2.1 n (by omega)
    refine g_V C0 (k_St_copy l G (h + 2 + 36 * π n) (Z n) b Y (by omega)) co_St_copy im_St_copy se_St_copy in_St gc_St_copy ml_Hi_29 ⟨Nat.le_of_ble_eq_true rfl, Nat.le_of_ble_eq_true rfl⟩ hK (hP.1.2.2.1 n (by omega)).1 rfl ⟨hP.1.2.2.1 n (by omega), hP.2⟩ rfl hl.1 rfl (Nat.le_of_ble_eq_true rfl) d_Hi_record_32 ⟨Nat.le_of_ble_eq_true rfl, Nat.le_of_ble_eq_true rfl⟩ (g_wv (free := gRg h (h + 218)) (t_nil (free := gRg h (h + 218))) (gRg.mono (by omega) (by omega)) (fun H_1 locs hL ⟨hR_2, hf_3⟩ => ?_))
    have hS_2 := hP.1.st (k := n) (by omega) hR_2 hf_3
    refine lv_aload_n hx hb d_Hi_record_35 rfl (lv_at hl 1 rfl) ?_
    refine lv_dup hx hb d_Hi_record_36 rfl ?_
    refine g_get C0 hK il_Hi hS_2.1 rfl 1 (by decide) fl_Hi_18 rfl d_Hi_record_37 ?_
    refine lv_iconst (v := nI 1) hx hb d_Hi_record_40 (by decide +kernel) ?_
    refine g_iadd C0 (z := n + 1) d_Hi_record_41 rfl ?_
    refine g_put (free := gRg h (h + 218)) C0 hK il_Hi tk_Hi nm_Hi hS_2.1 rfl 1 (by decide) fl_Hi_18 rfl rfl rfl (Nat.le_of_ble_eq_true rfl) d_Hi_record_42 hL (gRg.mk (by omega) (by omega)) (fun H_4 locs hL hA_5 hc_6 => ?_)
    have hS_5 := hS_2.sz (m := n + 1) hA_5 hc_6 (by omega)
    refine g_vret C0 hlk hr d_Hi_record_45 hL ?_
    exact ⟨rfl, (by rw [hrN_t c_9, hrP_t c_9, hrZ_t c_9]; exact hS_5), ((gFr.rf.tr (hf_3.mono (by omega) (by omega))).tr (gFr.ch hc_6 (by omega) (by omega)))⟩
  · skip
    have en : n = 6 := by omega
    subst en
    refine lv_aload_n hx hb d_Hi_record_12 rfl (lv_at hl 0 rfl) ?_
    refine g_V C0 (k_Hi_dropOldest l G h 6 π Z (by omega)) co_Hi_dropOldest im_Hi_dropOldest se_Hi_dropOldest in_Hi gc_Hi_dropOldest ml_Hi_22 ⟨Nat.le_of_ble_eq_true rfl, Nat.le_of_ble_eq_true rfl⟩ hK hP.1.1 rfl hP.1 rfl hl.1 rfl (Nat.le_of_ble_eq_true rfl) d_Hi_record_13 ⟨Nat.le_of_ble_eq_true rfl, Nat.le_of_ble_eq_true rfl⟩ (g_wv (free := gRg h (h + 218)) (t_nil (free := gRg h (h + 218))) (fun _ h => h) (fun H_7 locs hL ⟨hR_8, hf_9⟩ => ?_))
    refine lv_aload_n hx hb d_Hi_record_16 rfl (lv_at hl 0 rfl) ?_
    refine lv_aload_n hx hb d_Hi_record_17 rfl (lv_at hl 0 rfl) ?_
    refine g_get C0 hK il_Hi hR_8.1 rfl 1 (by decide) fl_Hi_18 rfl d_Hi_record_18 ?_
    refine g_V C0 (k_Hi_stateAt l G h 5 (rot π) (rot Z) 5 (by omega)) co_Hi_stateAt im_Hi_stateAt se_Hi_stateAt in_Hi gc_Hi_stateAt ml_Hi_25 ⟨Nat.le_of_ble_eq_true rfl, Nat.le_of_ble_eq_true rfl⟩ hK hR_8.1 rfl hR_8 rfl hl.1 rfl (Nat.le_of_ble_eq_true rfl) d_Hi_record_21 ⟨Nat.le_of_ble_eq_true rfl, Nat.le_of_ble_eq_true rfl⟩ (g_r rfl ?_)
    refine lv_astore_n (lv' := [(2, .ref (h + 2 + 36 * (rot π) 5)), (0, .ref h), (1, .ref b)]) hx hb d_Hi_record_24 rfl hl (by decide) rfl (fun ls hl => ?_)
    refine lv_aload_n hx hb d_Hi_record_25 rfl (lv_at hl 0 rfl) ?_
    refine lv_ifnonnull (tgt := 30) hx hb d_Hi_record_26 (by decide) ?_
    refine lv_aload_n hx hb d_Hi_record_30 rfl (lv_at hl 0 rfl) ?_
    refine lv_aload_n hx hb d_Hi_record_31 rfl (lv_at hl 2 rfl) ?_
    have hpi := hR_8.2.2.2.2.1 5 (by omega)
    refine g_V C0 (k_St_copy l G (h + 2 + 36 * (rot π) 5) (rot Z 5) b Y (by omega)) co_St_copy im_St_copy se_St_copy in_St gc_St_copy ml_Hi_29 ⟨Nat.le_of_ble_eq_true rfl, Nat.le_of_ble_eq_true rfl⟩ hK (hR_8.2.2.1 5 (by omega)).1 rfl ⟨hR_8.2.2.1 5 (by omega), (hP.2.fr hf_9 (by omega))⟩ rfl hl.1 rfl (Nat.le_of_ble_eq_true rfl) d_Hi_record_32 ⟨Nat.le_of_ble_eq_true rfl, Nat.le_of_ble_eq_true rfl⟩ (g_wv (free := gRg h (h + 218)) hL (gRg.mono (by omega) (by omega)) (fun H_10 locs hL ⟨hR_11, hf_12⟩ => ?_))
    have hS_11 := hR_8.st (k := 5) (by omega) hR_11 hf_12
    refine lv_aload_n hx hb d_Hi_record_35 rfl (lv_at hl 1 rfl) ?_
    refine lv_dup hx hb d_Hi_record_36 rfl ?_
    refine g_get C0 hK il_Hi hS_11.1 rfl 1 (by decide) fl_Hi_18 rfl d_Hi_record_37 ?_
    refine lv_iconst (v := nI 1) hx hb d_Hi_record_40 (by decide +kernel) ?_
    refine g_iadd C0 (z := 6) d_Hi_record_41 rfl ?_
    refine g_put (free := gRg h (h + 218)) C0 hK il_Hi tk_Hi nm_Hi hS_11.1 rfl 1 (by decide) fl_Hi_18 rfl rfl rfl (Nat.le_of_ble_eq_true rfl) d_Hi_record_42 hL (gRg.mk (by omega) (by omega)) (fun H_13 locs hL hA_14 hc_15 => ?_)
    have hS_14 := hS_11.sz (m := 6) hA_14 hc_15 (by omega)
    refine g_vret C0 hlk hr d_Hi_record_45 hL ?_
    exact ⟨rfl, (by rw [hrN_f c_9, hrP_f c_9, hrZ_f c_9]; exact hS_14), (((gFr.rf.tr hf_9).tr (hf_12.mono (by omega) (by omega))).tr (gFr.ch hc_15 (by omega) (by omega)))⟩

set_option maxHeartbeats 4000000 in
set_option maxRecDepth 100000 in
theorem k_Hi_takeLatest0 (l : Launch) (G : gT) (h n : Nat) (π : Nat → Nat) (Z : Nat → ST) (hn : n = 0) : gM l y_Hi_takeLatest c_Hi_takeLatest 1 (some (.object "GaleNames$State")) 0 0 0 0 G [.ref h] (fun H => HAt G h n π Z H) (rd .null) noF := by
  refine g_enter "GaleNames$History" (by decide +kernel) rfl (Nat.le_of_ble_eq_true rfl) ?_
  intro p e s m args below meth c C0 hlk hr hnm hP hK ls hl
  have hx := C0.1
  have hb := C0.2.1
  have hl : lv_has ls 1 [(0, .ref h)] := hl
  refine lv_aload_n hx hb d_Hi_takeLatest_0 rfl (lv_at hl 0 rfl) ?_
  refine g_get C0 hK il_Hi hP.1 rfl 1 (by decide) fl_Hi_18 rfl d_Hi_takeLatest_1 ?_
  refine lv_iconst (v := nI 1) hx hb d_Hi_takeLatest_4 (by decide +kernel) ?_
  refine g_cge (tgt := 10) C0 d_Hi_takeLatest_5 (by decide) (by omega) (by omega) (fun c_5 => ?_) (fun c_5 => ?_)
  · omega
  · skip
    refine lv_null hx hb d_Hi_takeLatest_8 ?_
    refine g_aret C0 hlk hr (Or.inl rfl) d_Hi_takeLatest_9 (t_nil (free := noF)) ?_
    exact ⟨rfl, rfl⟩

set_option maxHeartbeats 4000000 in
set_option maxRecDepth 100000 in
theorem k_Hi_takeLatest (l : Launch) (G : gT) (h n : Nat) (π : Nat → Nat) (Z : Nat → ST) (hn : 1 ≤ n) : gM l y_Hi_takeLatest c_Hi_takeLatest 1 (some (.object "GaleNames$State")) 1 21 0 0 G [.ref h] (fun H => HAt G h n π Z H) (wi (.ref (h + 2 + 36 * π (n - 1))) (fun H H1 => HAt G h (n - 1) π Z H1 ∧ gFr h (h + 218) H H1)) (gRg h (h + 218)) := by
  refine g_enter "GaleNames$History" (by decide +kernel) rfl (Nat.le_of_ble_eq_true rfl) ?_
  intro p e s m args below meth c C0 hlk hr hnm hP hK ls hl
  have hx := C0.1
  have hb := C0.2.1
  have hl : lv_has ls 1 [(0, .ref h)] := hl
  obtain ⟨-, -, -, h4, -, -⟩ := id hP
  refine lv_aload_n hx hb d_Hi_takeLatest_0 rfl (lv_at hl 0 rfl) ?_
  refine g_get C0 hK il_Hi hP.1 rfl 1 (by decide) fl_Hi_18 rfl d_Hi_takeLatest_1 ?_
  refine lv_iconst (v := nI 1) hx hb d_Hi_takeLatest_4 (by decide +kernel) ?_
  refine g_cge (tgt := 10) C0 d_Hi_takeLatest_5 (by decide) (by omega) (by omega) (fun c_5 => ?_) (fun c_5 => ?_)
  · skip
    refine lv_aload_n hx hb d_Hi_takeLatest_10 rfl (lv_at hl 0 rfl) ?_
    refine lv_dup hx hb d_Hi_takeLatest_11 rfl ?_
    refine g_get C0 hK il_Hi hP.1 rfl 1 (by decide) fl_Hi_18 rfl d_Hi_takeLatest_12 ?_
    refine lv_iconst (v := nI 1) hx hb d_Hi_takeLatest_15 (by decide +kernel) ?_
    refine g_isub C0 (z := n - 1) d_Hi_takeLatest_16 (by omega) ?_
    refine g_put (free := gRg h (h + 218)) C0 hK il_Hi tk_Hi nm_Hi hP.1 rfl 1 (by decide) fl_Hi_18 rfl rfl rfl (Nat.le_of_ble_eq_true rfl) d_Hi_takeLatest_17 (t_nil (free := gRg h (h + 218))) (gRg.mk (by omega) (by omega)) (fun H_1 locs hL hA_2 hc_3 => ?_)
    have hS_2 := hP.sz (m := n - 1) hA_2 hc_3 (by omega)
    refine lv_aload_n hx hb d_Hi_takeLatest_20 rfl (lv_at hl 0 rfl) ?_
    refine lv_aload_n hx hb d_Hi_takeLatest_21 rfl (lv_at hl 0 rfl) ?_
    refine g_get C0 hK il_Hi hS_2.1 rfl 1 (by decide) fl_Hi_18 rfl d_Hi_takeLatest_22 ?_
    refine g_V C0 (k_Hi_stateAt l G h (n - 1) π Z (n - 1) (by omega)) co_Hi_stateAt im_Hi_stateAt se_Hi_stateAt in_Hi gc_Hi_stateAt ml_Hi_25 ⟨Nat.le_of_ble_eq_true rfl, Nat.le_of_ble_eq_true rfl⟩ hK hS_2.1 rfl hS_2 rfl hl.1 rfl (Nat.le_of_ble_eq_true rfl) d_Hi_takeLatest_25 ⟨Nat.le_of_ble_eq_true rfl, Nat.le_of_ble_eq_true rfl⟩ (g_r rfl ?_)
    refine g_aret C0 hlk hr (Or.inr ⟨_, rfl⟩) d_Hi_takeLatest_28 hL ?_
    exact ⟨rfl, hS_2, (gFr.rf.tr (gFr.ch hc_3 (by omega) (by omega)))⟩
  · omega
