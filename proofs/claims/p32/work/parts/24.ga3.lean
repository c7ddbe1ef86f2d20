set_option maxHeartbeats 4000000 in
set_option maxRecDepth 100000 in
theorem k_Ga_set (l : Launch) (G : gT) (x : Nat) (X : XS) (a v : Int32) (hX : XOk X) : gM l y_Ga_set c_Ga_set 5 (some .int) 5 106 0 0 G [.ref x, .int a, .int v] (fun H => XAt G x X H) (wi (.int (cSet X a v).1) (fun H H1 => XAt G x (cSet X a v).2 H1 ∧ gFr x (x + 262) H H1)) (gRg x (x + 262)) := by
  refine g_enter "GaleNames" (by decide +kernel) rfl (Nat.le_of_ble_eq_true rfl) ?_
  intro p e s m args below meth c C0 hlk hr hnm hP hK ls hl
  have hx := C0.1
  have hb := C0.2.1
  have hl : lv_has ls 5 [(0, .ref x), (1, .int a), (2, .int v)] := hl
  have hsv : SvAt G x X.2.2.2.1 X.2.2.2.2 s.heap := hP.2.2.2.2.2.1
  refine lv_iload_n hx hb d_Ga_set_0 rfl (lv_at hl 1 rfl) ?_
  refine lv_if_lt (tgt := 9) hx hb d_Ga_set_1 (by decide) (fun c_1 => ?_) (fun c_1 => ?_)
  · skip
    refine lv_bipush (v := -2) hx hb d_Ga_set_9 (by decide +kernel) ?_
    refine g_iret C0 hlk hr d_Ga_set_11 (t_nil (free := gRg x (x + 262))) ?_
    exact x_end (X' := ((X.1, (X.2.1.1, X.2.1.2), (X.2.2.1.1, X.2.2.1.2.1, X.2.2.1.2.2), X.2.2.2) : XS)) (by unfold cSet; rw [inD_lo c_1, Bool.false_and]; rfl) ⟨hP.1, hP.2.1, ⟨hP.2.2.1.1, hP.2.2.1.2.1, hP.2.2.1.2.2⟩, hP.2.2.2.1, hP.2.2.2.2.1, hsv, hP.2.2.2.2.2.2⟩ gFr.rf
  · skip
    refine lv_iload_n hx hb d_Ga_set_4 rfl (lv_at hl 1 rfl) ?_
    refine lv_iconst (v := nI 2) hx hb d_Ga_set_5 (by decide +kernel) ?_
    refine lv_icmp_le (tgt := 12) hx hb d_Ga_set_6 (by decide) (fun c_6 => ?_) (fun c_6 => ?_)
    · skip
      obtain ⟨i, hi1, hi2, rfl⟩ := inD_ex (lo := 0) (hi := 2) c_1 c_6 (by decide) (by decide)
      refine lv_iload_n hx hb d_Ga_set_12 rfl (lv_at hl 1 rfl) ?_
      refine lv_iconst (v := nI 2) hx hb d_Ga_set_13 (by decide +kernel) ?_
      refine g_cne (tgt := 22) C0 d_Ga_set_14 (by decide) (by omega) (by omega) (fun c_14 => ?_) (fun c_14 => ?_)
      · skip
        have hh := hiS_n c_14 (by omega)
        refine lv_bipush (v := nI 99) hx hb d_Ga_set_22 (by decide +kernel) ?_
        refine lv_istore_n (lv' := [(3, .int (nI 99)), (0, .ref x), (1, .int (nI i)), (2, .int v)]) hx hb d_Ga_set_24 rfl hl (by decide) rfl (fun ls hl => ?_)
        refine lv_iload_n hx hb d_Ga_set_25 rfl (lv_at hl 3 rfl) ?_
        refine lv_iconst (v := nI 1) hx hb d_Ga_set_26 (by decide +kernel) ?_
        refine lv_icmp_lt (tgt := 35) hx hb d_Ga_set_27 (by decide) (fun c_27 => ?_) (fun c_27 => ?_)
        · skip
          refine lv_bipush (v := -2) hx hb d_Ga_set_35 (by decide +kernel) ?_
          refine g_iret C0 hlk hr d_Ga_set_37 (t_nil (free := gRg x (x + 262))) ?_
          exact x_end (X' := ((X.1, (X.2.1.1, X.2.1.2), (X.2.2.1.1, X.2.2.1.2.1, X.2.2.1.2.2), X.2.2.2) : XS)) (by unfold cSet; rw [hh, inD_lo c_27, Bool.and_false]; rfl) ⟨hP.1, hP.2.1, ⟨hP.2.2.1.1, hP.2.2.1.2.1, hP.2.2.1.2.2⟩, hP.2.2.2.1, hP.2.2.2.2.1, hsv, hP.2.2.2.2.2.2⟩ gFr.rf
        · skip
          refine lv_iload_n hx hb d_Ga_set_30 rfl (lv_at hl 3 rfl) ?_
          refine lv_iload_n hx hb d_Ga_set_31 rfl (lv_at hl 0 rfl) ?_
          refine lv_icmp_le (tgt := 38) hx hb d_Ga_set_32 (by decide) (fun c_32 => ?_) (fun c_32 => ?_)
          · skip
            obtain ⟨w, hw1, hw2, rfl⟩ := inD_ex (lo := 1) (hi := 99) c_27 c_32 (by decide) (by decide)
            refine lv_aload_n hx hb d_Ga_set_38 rfl (lv_at hl 1 rfl) ?_
            refine g_get C0 hK il_Ga hP.1 rfl 2 (by decide) fl_Ga_26 rfl d_Ga_set_39 ?_
            refine lv_aload_n hx hb d_Ga_set_42 rfl (lv_at hl 1 rfl) ?_
            refine g_get C0 hK il_Ga hP.1 rfl 0 (by decide) fl_Ga_12 rfl d_Ga_set_43 ?_
            refine g_V C0 (k_Hi_record l G (x + 42) X.2.2.1.1 X.2.2.1.2.1 X.2.2.1.2.2 (x + 1) X.1 (by omega)) co_Hi_record im_Hi_record se_Hi_record in_Hi gc_Hi_record ml_Ga_37 ⟨Nat.le_of_ble_eq_true rfl, Nat.le_of_ble_eq_true rfl⟩ hK hP.2.2.2.1.1 rfl ⟨hP.2.2.2.1, hP.2.1⟩ rfl hl.1 rfl (Nat.le_of_ble_eq_true rfl) d_Ga_set_46 ⟨Nat.le_of_ble_eq_true rfl, Nat.le_of_ble_eq_true rfl⟩ (g_wv (free := gRg x (x + 262)) (t_nil (free := gRg x (x + 262))) (gRg.mono (by omega) (by omega)) (fun H_1 locs hL ⟨hR_2, hf_3⟩ => ?_))
            refine lv_aload_n hx hb d_Ga_set_49 rfl (lv_at hl 1 rfl) ?_
            refine g_get C0 hK il_Ga (hP.1.fr hf_3 (by omega)) rfl 0 (by decide) fl_Ga_12 rfl d_Ga_set_50 ?_
            refine g_getN C0 hK il_St (hP.2.1.fr hf_3 (by omega)).1 rfl 1 (by decide) fn_Ga_41 rfl d_Ga_set_53 ?_
            refine lv_iload_n hx hb d_Ga_set_56 rfl (lv_at hl 2 rfl) ?_
            refine g_V C0 (k_Ro_at l G (x + 2) 3 (X.1.2 0) i (by omega)) co_Ro_at im_Ro_at se_Ro_at in_Ro gc_Ro_at ml_Ga_45 ⟨Nat.le_of_ble_eq_true rfl, Nat.le_of_ble_eq_true rfl⟩ hK ((hP.2.1.fr hf_3 (by omega)).2.2 0 (by decide)).1 rfl ((hP.2.1.fr hf_3 (by omega)).2.2 0 (by decide)) rfl hl.1 rfl (Nat.le_of_ble_eq_true rfl) d_Ga_set_57 ⟨Nat.le_of_ble_eq_true rfl, Nat.le_of_ble_eq_true rfl⟩ (g_r rfl ?_)
            refine lv_istore (lv' := [(4, .int (nI (rA (X.1.2 0) i))), (3, .int (nI 99)), (0, .ref x), (1, .int (nI i)), (2, .int (nI w))]) hx hb d_Ga_set_60 hl (by decide) rfl (fun ls hl => ?_)
            refine lv_aload_n hx hb d_Ga_set_62 rfl (lv_at hl 2 rfl) ?_
            refine g_get C0 hK il_Ga (hP.1.fr hf_3 (by omega)) rfl 0 (by decide) fl_Ga_12 rfl d_Ga_set_63 ?_
            refine g_getN C0 hK il_St (hP.2.1.fr hf_3 (by omega)).1 rfl 1 (by decide) fn_Ga_41 rfl d_Ga_set_66 ?_
            refine lv_iload_n hx hb d_Ga_set_69 rfl (lv_at hl 3 rfl) ?_
            refine lv_iload_n hx hb d_Ga_set_70 rfl (lv_at hl 4 rfl) ?_
            refine g_V C0 (k_Ro_change l G (x + 2) 3 (X.1.2 0) i w (by omega)) co_Ro_change im_Ro_change se_Ro_change in_Ro gc_Ro_change ml_Ga_51 ⟨Nat.le_of_ble_eq_true rfl, Nat.le_of_ble_eq_true rfl⟩ hK ((hP.2.1.fr hf_3 (by omega)).2.2 0 (by decide)).1 rfl ((hP.2.1.fr hf_3 (by omega)).2.2 0 (by decide)) rfl hl.1 rfl (Nat.le_of_ble_eq_true rfl) d_Ga_set_71 ⟨Nat.le_of_ble_eq_true rfl, Nat.le_of_ble_eq_true rfl⟩ (g_wv (free := gRg x (x + 262)) hL (gRg.mono (by omega) (by omega)) (fun H_4 locs hL ⟨hR_5, hf_6⟩ => ?_))
            have hS_5 := (hP.2.1.fr hf_3 (by omega)).up 0 (by decide) hR_5 hf_6
            refine lv_iload hx hb d_Ga_set_74 (lv_at hl 0 rfl) ?_
            refine g_iret C0 hlk hr d_Ga_set_76 hL ?_
            exact x_end (X' := (((X.1.1, va_up X.1.2 0 (rCh (X.1.2 0) i w)), (X.2.1.1, X.2.1.2), (hrN X.2.2.1.1 + 1, hrP X.2.2.1.1 X.2.2.1.2.1, hrZ X.2.2.1.1 X.2.2.1.2.2 X.1), X.2.2.2) : XS)) (by unfold cSet; rw [hh, inD_t hi1 hi2 (by decide), inD_t hw1 hw2 (by decide), Bool.and_self, if_pos rfl, nI_clamp (by omega), nI_clamp (by omega)]; rfl) ⟨((hP.1.fr hf_3 (by omega)).fr hf_6 (by omega)), hS_5, ⟨((hP.2.2.1.1.fr hf_3 (by omega)).fr hf_6 (by omega)), ((hP.2.2.1.2.1.fr hf_3 (by omega)).fr hf_6 (by omega)), ((hP.2.2.1.2.2.fr hf_3 (by omega)).fr hf_6 (by omega))⟩, (hR_2.fr hf_6 (by omega)), ((hP.2.2.2.2.1.fr hf_3 (by omega)).fr hf_6 (by omega)), ((hsv.fr hf_3 (by omega)).fr hf_6 (by omega)), hP.2.2.2.2.2.2⟩ ((gFr.rf.tr (hf_3.mono (by omega) (by omega))).tr (hf_6.mono (by omega) (by omega)))
          · skip
            refine lv_bipush (v := -2) hx hb d_Ga_set_35 (by decide +kernel) ?_
            refine g_iret C0 hlk hr d_Ga_set_37 (t_nil (free := gRg x (x + 262))) ?_
            exact x_end (X' := ((X.1, (X.2.1.1, X.2.1.2), (X.2.2.1.1, X.2.2.1.2.1, X.2.2.1.2.2), X.2.2.2) : XS)) (by unfold cSet; rw [hh, inD_hi c_32, Bool.and_false]; rfl) ⟨hP.1, hP.2.1, ⟨hP.2.2.1.1, hP.2.2.1.2.1, hP.2.2.1.2.2⟩, hP.2.2.2.1, hP.2.2.2.2.1, hsv, hP.2.2.2.2.2.2⟩ gFr.rf
      · skip
        have hh := hiS_2 c_14
        refine lv_bipush (v := nI 6) hx hb d_Ga_set_17 (by decide +kernel) ?_
        refine lv_goto (tgt := 24) hx hb d_Ga_set_19 (by decide) ?_
        refine lv_istore_n (lv' := [(3, .int (nI 6)), (0, .ref x), (1, .int (nI i)), (2, .int v)]) hx hb d_Ga_set_24 rfl hl (by decide) rfl (fun ls hl => ?_)
        refine lv_iload_n hx hb d_Ga_set_25 rfl (lv_at hl 3 rfl) ?_
        refine lv_iconst (v := nI 1) hx hb d_Ga_set_26 (by decide +kernel) ?_
        refine lv_icmp_lt (tgt := 35) hx hb d_Ga_set_27 (by decide) (fun c_27 => ?_) (fun c_27 => ?_)
        · skip
          refine lv_bipush (v := -2) hx hb d_Ga_set_35 (by decide +kernel) ?_
          refine g_iret C0 hlk hr d_Ga_set_37 (t_nil (free := gRg x (x + 262))) ?_
          exact x_end (X' := ((X.1, (X.2.1.1, X.2.1.2), (X.2.2.1.1, X.2.2.1.2.1, X.2.2.1.2.2), X.2.2.2) : XS)) (by unfold cSet; rw [hh, inD_lo c_27, Bool.and_false]; rfl) ⟨hP.1, hP.2.1, ⟨hP.2.2.1.1, hP.2.2.1.2.1, hP.2.2.1.2.2⟩, hP.2.2.2.1, hP.2.2.2.2.1, hsv, hP.2.2.2.2.2.2⟩ gFr.rf
        · skip
          refine lv_iload_n hx hb d_Ga_set_30 rfl (lv_at hl 3 rfl) ?_
          refine lv_iload_n hx hb d_Ga_set_31 rfl (lv_at hl 0 rfl) ?_
          refine lv_icmp_le (tgt := 38) hx hb d_Ga_set_32 (by decide) (fun c_32 => ?_) (fun c_32 => ?_)
          · skip
            obtain ⟨w, hw1, hw2, rfl⟩ := inD_ex (lo := 1) (hi := 6) c_27 c_32 (by decide) (by decide)
            refine lv_aload_n hx hb d_Ga_set_38 rfl (lv_at hl 1 rfl) ?_
            refine g_get C0 hK il_Ga hP.1 rfl 2 (by decide) fl_Ga_26 rfl d_Ga_set_39 ?_
            refine lv_aload_n hx hb d_Ga_set_42 rfl (lv_at hl 1 rfl) ?_
            refine g_get C0 hK il_Ga hP.1 rfl 0 (by decide) fl_Ga_12 rfl d_Ga_set_43 ?_
            refine g_V C0 (k_Hi_record l G (x + 42) X.2.2.1.1 X.2.2.1.2.1 X.2.2.1.2.2 (x + 1) X.1 (by omega)) co_Hi_record im_Hi_record se_Hi_record in_Hi gc_Hi_record ml_Ga_37 ⟨Nat.le_of_ble_eq_true rfl, Nat.le_of_ble_eq_true rfl⟩ hK hP.2.2.2.1.1 rfl ⟨hP.2.2.2.1, hP.2.1⟩ rfl hl.1 rfl (Nat.le_of_ble_eq_true rfl) d_Ga_set_46 ⟨Nat.le_of_ble_eq_true rfl, Nat.le_of_ble_eq_true rfl⟩ (g_wv (free := gRg x (x + 262)) (t_nil (free := gRg x (x + 262))) (gRg.mono (by omega) (by omega)) (fun H_7 locs hL ⟨hR_8, hf_9⟩ => ?_))
            refine lv_aload_n hx hb d_Ga_set_49 rfl (lv_at hl 1 rfl) ?_
            refine g_get C0 hK il_Ga (hP.1.fr hf_9 (by omega)) rfl 0 (by decide) fl_Ga_12 rfl d_Ga_set_50 ?_
            refine g_getN C0 hK il_St (hP.2.1.fr hf_9 (by omega)).1 rfl 1 (by decide) fn_Ga_41 rfl d_Ga_set_53 ?_
            refine lv_iload_n hx hb d_Ga_set_56 rfl (lv_at hl 2 rfl) ?_
            refine g_V C0 (k_Ro_at l G (x + 2) 3 (X.1.2 0) i (by omega)) co_Ro_at im_Ro_at se_Ro_at in_Ro gc_Ro_at ml_Ga_45 ⟨Nat.le_of_ble_eq_true rfl, Nat.le_of_ble_eq_true rfl⟩ hK ((hP.2.1.fr hf_9 (by omega)).2.2 0 (by decide)).1 rfl ((hP.2.1.fr hf_9 (by omega)).2.2 0 (by decide)) rfl hl.1 rfl (Nat.le_of_ble_eq_true rfl) d_Ga_set_57 ⟨Nat.le_of_ble_eq_true rfl, Nat.le_of_ble_eq_true rfl⟩ (g_r rfl ?_)
            refine lv_istore (lv' := [(4, .int (nI (rA (X.1.2 0) i))), (3, .int (nI 6)), (0, .ref x), (1, .int (nI i)), (2, .int (nI w))]) hx hb d_Ga_set_60 hl (by decide) rfl (fun ls hl => ?_)
            refine lv_aload_n hx hb d_Ga_set_62 rfl (lv_at hl 2 rfl) ?_
            refine g_get C0 hK il_Ga (hP.1.fr hf_9 (by omega)) rfl 0 (by decide) fl_Ga_12 rfl d_Ga_set_63 ?_
            refine g_getN C0 hK il_St (hP.2.1.fr hf_9 (by omega)).1 rfl 1 (by decide) fn_Ga_41 rfl d_Ga_set_66 ?_
            refine lv_iload_n hx hb d_Ga_set_69 rfl (lv_at hl 3 rfl) ?_
            refine lv_iload_n hx hb d_Ga_set_70 rfl (lv_at hl 4 rfl) ?_
            refine g_V C0 (k_Ro_change l G (x + 2) 3 (X.1.2 0) i w (by omega)) co_Ro_change im_Ro_change se_Ro_change in_Ro gc_Ro_change ml_Ga_51 ⟨Nat.le_of_ble_eq_true rfl, Nat.le_of_ble_eq_true rfl⟩ hK ((hP.2.1.fr hf_9 (by omega)).2.2 0 (by decide)).1 rfl ((hP.2.1.fr hf_9 (by omega)).2.2 0 (by decide)) rfl hl.1 rfl (Nat.le_of_ble_eq_true rfl) d_Ga_set_71 ⟨Nat.le_of_ble_eq_true rfl, Nat.le_of_ble_eq_true rfl⟩ (g_wv (free := gRg x (x + 262)) hL (gRg.mono (by omega) (by omega)) (fun H_10 locs hL ⟨hR_11, hf_12⟩ => ?_))
            have hS_11 := (hP.2.1.fr hf_9 (by omega)).up 0 (by decide) hR_11 hf_12
            refine lv_iload hx hb d_Ga_set_74 (lv_at hl 0 rfl) ?_
            refine g_iret C0 hlk hr d_Ga_set_76 hL ?_
            exact x_end (X' := (((X.1.1, va_up X.1.2 0 (rCh (X.1.2 0) i w)), (X.2.1.1, X.2.1.2), (hrN X.2.2.1.1 + 1, hrP X.2.2.1.1 X.2.2.1.2.1, hrZ X.2.2.1.1 X.2.2.1.2.2 X.1), X.2.2.2) : XS)) (by unfold cSet; rw [hh, inD_t hi1 hi2 (by decide), inD_t hw1 hw2 (by decide), Bool.and_self, if_pos rfl, nI_clamp (by omega), nI_clamp (by omega)]; rfl) ⟨((hP.1.fr hf_9 (by omega)).fr hf_12 (by omega)), hS_11, ⟨((hP.2.2.1.1.fr hf_9 (by omega)).fr hf_12 (by omega)), ((hP.2.2.1.2.1.fr hf_9 (by omega)).fr hf_12 (by omega)), ((hP.2.2.1.2.2.fr hf_9 (by omega)).fr hf_12 (by omega))⟩, (hR_8.fr hf_12 (by omega)), ((hP.2.2.2.2.1.fr hf_9 (by omega)).fr hf_12 (by omega)), ((hsv.fr hf_9 (by omega)).fr hf_12 (by omega)), hP.2.2.2.2.2.2⟩ ((gFr.rf.tr (hf_9.mono (by omega) (by omega))).tr (hf_12.mono (by omega) (by omega)))
          · skip
            refine lv_bipush (v := -2) hx hb d_Ga_set_35 (by decide +kernel) ?_
            refine g_iret C0 hlk hr d_Ga_set_37 (t_nil (free := gRg x (x + 262))) ?_
            exact x_end (X' := ((X.1, (X.2.1.1, X.2.1.2), (X.2.2.1.1, X.2.2.1.2.1, X.2.2.1.2.2), X.2.2.2) : XS)) (by unfold cSet; rw [hh, inD_hi c_32, Bool.and_false]; rfl) ⟨hP.1, hP.2.1, ⟨hP.2.2.1.1, hP.2.2.1.2.1, hP.2.2.1.2.2⟩, hP.2.2.2.1, hP.2.2.2.2.1, hsv, hP.2.2.2.2.2.2⟩ gFr.rf
    · skip
      refine lv_bipush (v := -2) hx hb d_Ga_set_9 (by decide +kernel) ?_
      refine g_iret C0 hlk hr d_Ga_set_11 (t_nil (free := gRg x (x + 262))) ?_
      exact x_end (X' := ((X.1, (X.2.1.1, X.2.1.2), (X.2.2.1.1, X.2.2.1.2.1, X.2.2.1.2.2), X.2.2.2) : XS)) (by unfold cSet; rw [inD_hi c_6, Bool.false_and]; rfl) ⟨hP.1, hP.2.1, ⟨hP.2.2.1.1, hP.2.2.1.2.1, hP.2.2.1.2.2⟩, hP.2.2.2.1, hP.2.2.2.2.1, hsv, hP.2.2.2.2.2.2⟩ gFr.rf

set_option maxHeartbeats 4000000 in
set_option maxRecDepth 100000 in
theorem k_Ga_strike (l : Launch) (G : gT) (x : Nat) (X : XS) (a k q : Int32) (hX : XOk X) : gM l y_Ga_strike c_Ga_strike 6 (some .int) 5 106 0 0 G [.ref x, .int a, .int k, .int q] (fun H => XAt G x X H) (wi (.int (cStrike X a k q).1) (fun H H1 => XAt G x (cStrike X a k q).2 H1 ∧ gFr x (x + 262) H H1)) (gRg x (x + 262)) := by
  refine g_enter "GaleNames" (by decide +kernel) rfl (Nat.le_of_ble_eq_true rfl) ?_
  intro p e s m args below meth c C0 hlk hr hnm hP hK ls hl
  have hx := C0.1
  have hb := C0.2.1
  have hl : lv_has ls 6 [(0, .ref x), (1, .int a), (2, .int k), (3, .int q)] := hl
  have hsv : SvAt G x X.2.2.2.1 X.2.2.2.2 s.heap := hP.2.2.2.2.2.1
  rcases hlo : loA (x + 1) a k with _ | z0
  · skip
    refine lv_aload_n hx hb d_Ga_strike_0 rfl (lv_at hl 0 rfl) ?_
    refine g_get C0 hK il_Ga hP.1 rfl 0 (by decide) fl_Ga_12 rfl d_Ga_strike_1 ?_
    refine lv_iload_n hx hb d_Ga_strike_4 rfl (lv_at hl 1 rfl) ?_
    refine lv_iload_n hx hb d_Ga_strike_5 rfl (lv_at hl 2 rfl) ?_
    refine g_V C0 (k_St_listOfX l G (x + 1) X.1 a k hlo) co_St_listOf im_St_listOf se_St_listOf in_St gc_St_listOf ml_Ga_55 ⟨Nat.le_of_ble_eq_true rfl, Nat.le_of_ble_eq_true rfl⟩ hK hP.2.1.1 rfl hP.2.1 rfl hl.1 rfl (Nat.le_of_ble_eq_true rfl) d_Ga_strike_6 ⟨Nat.le_of_ble_eq_true rfl, Nat.le_of_ble_eq_true rfl⟩ (g_r rfl ?_)
    refine lv_astoreN (lv' := [(4, .null), (0, .ref x), (1, .int a), (2, .int k), (3, .int q)]) hx hb d_Ga_strike_9 hl (by decide) rfl (fun ls hl => ?_)
    refine lv_aloadN hx hb d_Ga_strike_11 (lv_at hl 0 rfl) ?_
    refine lv_ifnullN (tgt := 25) hx hb d_Ga_strike_13 (by decide) ?_
    refine lv_iconst (v := -1) hx hb d_Ga_strike_25 (by decide +kernel) ?_
    refine g_iret C0 hlk hr d_Ga_strike_26 (t_nil (free := gRg x (x + 262))) ?_
    exact x_end (X' := ((X.1, (X.2.1.1, X.2.1.2), (X.2.2.1.1, X.2.2.1.2.1, X.2.2.1.2.2), X.2.2.2) : XS)) (by unfold cStrike; rw [inL_f hlo, Bool.false_and]; rfl) ⟨hP.1, hP.2.1, ⟨hP.2.2.1.1, hP.2.2.1.2.1, hP.2.2.1.2.2⟩, hP.2.2.2.1, hP.2.2.2.2.1, hsv, hP.2.2.2.2.2.2⟩ gFr.rf
  · skip
    obtain ⟨i, j, hi, hj, rfl, rfl⟩ := inL_t hlo
    have hlx := lix_lt hi hj
    refine lv_aload_n hx hb d_Ga_strike_0 rfl (lv_at hl 0 rfl) ?_
    refine g_get C0 hK il_Ga hP.1 rfl 0 (by decide) fl_Ga_12 rfl d_Ga_strike_1 ?_
    refine lv_iload_n hx hb d_Ga_strike_4 rfl (lv_at hl 1 rfl) ?_
    refine lv_iload_n hx hb d_Ga_strike_5 rfl (lv_at hl 2 rfl) ?_
    refine g_V C0 (k_St_listOfN l G (x + 1) X.1 i j (by omega) (by omega)) co_St_listOf im_St_listOf se_St_listOf in_St gc_St_listOf ml_Ga_55 ⟨Nat.le_of_ble_eq_true rfl, Nat.le_of_ble_eq_true rfl⟩ hK hP.2.1.1 rfl hP.2.1 rfl hl.1 rfl (Nat.le_of_ble_eq_true rfl) d_Ga_strike_6 ⟨Nat.le_of_ble_eq_true rfl, Nat.le_of_ble_eq_true rfl⟩ (g_r rfl ?_)
    refine lv_astore (lv' := [(4, .ref (x + 1 + 24 + 2 * lix i j)), (0, .ref x), (1, .int (nI i)), (2, .int (nI j)), (3, .int q)]) hx hb d_Ga_strike_9 hl (by decide) rfl (fun ls hl => ?_)
    refine lv_aload hx hb d_Ga_strike_11 (lv_at hl 0 rfl) ?_
    refine lv_ifnull hx hb d_Ga_strike_13 ?_
    refine lv_aload hx hb d_Ga_strike_16 (lv_at hl 0 rfl) ?_
    refine lv_iload_n hx hb d_Ga_strike_18 rfl (lv_at hl 4 rfl) ?_
    refine g_V C0 (k_Ro_has l G (x + 1 + 24 + 2 * lix i j) 8 (X.1.2 (5 + (lix i j))) q) co_Ro_has im_Ro_has se_Ro_has in_Ro gc_Ro_has ml_Ga_91 ⟨Nat.le_of_ble_eq_true rfl, Nat.le_of_ble_eq_true rfl⟩ hK (hP.2.1.ls (lix_lt (by omega) (by omega))).1 rfl (hP.2.1.ls (lix_lt (by omega) (by omega))) rfl hl.1 rfl (Nat.le_of_ble_eq_true rfl) d_Ga_strike_19 ⟨Nat.le_of_ble_eq_true rfl, Nat.le_of_ble_eq_true rfl⟩ (g_r rfl ?_)
    refine g_zne (tgt := 27) C0 d_Ga_strike_22 (by decide) (fun c_22 => ?_) (fun c_22 => ?_)
    · skip
      obtain ⟨w, hw, hw31, rfl⟩ := inR_t c_22
      refine lv_aload_n hx hb d_Ga_strike_27 rfl (lv_at hl 1 rfl) ?_
      refine g_get C0 hK il_Ga hP.1 rfl 2 (by decide) fl_Ga_26 rfl d_Ga_strike_28 ?_
      refine lv_aload_n hx hb d_Ga_strike_31 rfl (lv_at hl 1 rfl) ?_
      refine g_get C0 hK il_Ga hP.1 rfl 0 (by decide) fl_Ga_12 rfl d_Ga_strike_32 ?_
      refine g_V C0 (k_Hi_record l G (x + 42) X.2.2.1.1 X.2.2.1.2.1 X.2.2.1.2.2 (x + 1) X.1 (by omega)) co_Hi_record im_Hi_record se_Hi_record in_Hi gc_Hi_record ml_Ga_37 ⟨Nat.le_of_ble_eq_true rfl, Nat.le_of_ble_eq_true rfl⟩ hK hP.2.2.2.1.1 rfl ⟨hP.2.2.2.1, hP.2.1⟩ rfl hl.1 rfl (Nat.le_of_ble_eq_true rfl) d_Ga_strike_35 ⟨Nat.le_of_ble_eq_true rfl, Nat.le_of_ble_eq_true rfl⟩ (g_wv (free := gRg x (x + 262)) (t_nil (free := gRg x (x + 262))) (gRg.mono (by omega) (by omega)) (fun H_1 locs hL ⟨hR_2, hf_3⟩ => ?_))
      refine lv_aload hx hb d_Ga_strike_38 (lv_at hl 0 rfl) ?_
      refine lv_iload_n hx hb d_Ga_strike_40 rfl (lv_at hl 4 rfl) ?_
      refine g_V C0 (k_Ro_at l G (x + 1 + 24 + 2 * lix i j) 8 (X.1.2 (5 + (lix i j))) w (by omega)) co_Ro_at im_Ro_at se_Ro_at in_Ro gc_Ro_at ml_Ga_45 ⟨Nat.le_of_ble_eq_true rfl, Nat.le_of_ble_eq_true rfl⟩ hK ((hP.2.1.fr hf_3 (by omega)).ls (lix_lt (by omega) (by omega))).1 rfl ((hP.2.1.fr hf_3 (by omega)).ls (lix_lt (by omega) (by omega))) rfl hl.1 rfl (Nat.le_of_ble_eq_true rfl) d_Ga_strike_41 ⟨Nat.le_of_ble_eq_true rfl, Nat.le_of_ble_eq_true rfl⟩ (g_r rfl ?_)
      refine lv_istore (lv' := [(5, .int (nI (rA (X.1.2 (5 + (lix i j))) w))), (4, .ref (x + 1 + 24 + 2 * lix i j)), (0, .ref x), (1, .int (nI i)), (2, .int (nI j)), (3, .int (nI w))]) hx hb d_Ga_strike_44 hl (by decide) rfl (fun ls hl => ?_)
      refine lv_aload hx hb d_Ga_strike_46 (lv_at hl 1 rfl) ?_
      refine lv_iload_n hx hb d_Ga_strike_48 rfl (lv_at hl 5 rfl) ?_
      refine g_V C0 (k_Ro_drop l G (x + 1 + 24 + 2 * lix i j) 8 (X.1.2 (5 + (lix i j))) (nI w)) co_Ro_drop im_Ro_drop se_Ro_drop in_Ro gc_Ro_drop ml_Ga_95 ⟨Nat.le_of_ble_eq_true rfl, Nat.le_of_ble_eq_true rfl⟩ hK ((hP.2.1.fr hf_3 (by omega)).ls (lix_lt (by omega) (by omega))).1 rfl ((hP.2.1.fr hf_3 (by omega)).ls (lix_lt (by omega) (by omega))) rfl hl.1 rfl (Nat.le_of_ble_eq_true rfl) d_Ga_strike_49 ⟨Nat.le_of_ble_eq_true rfl, Nat.le_of_ble_eq_true rfl⟩ (g_wv (free := gRg x (x + 262)) hL (gRg.mono (by omega) (by omega)) (fun H_4 locs hL ⟨hR_5, hf_6⟩ => ?_))
      have hS_5 := (hP.2.1.fr hf_3 (by omega)).upl (lix_lt (by omega) (by omega)) hR_5 hf_6
      refine lv_iload hx hb d_Ga_strike_52 (lv_at hl 0 rfl) ?_
      refine g_iret C0 hlk hr d_Ga_strike_54 hL ?_
      exact x_end (X' := (((X.1.1, va_up X.1.2 (5 + lix i j) (rDx (X.1.2 (5 + lix i j)) (nI w))), (X.2.1.1, X.2.1.2), (hrN X.2.2.1.1 + 1, hrP X.2.2.1.1 X.2.2.1.2.1, hrZ X.2.2.1.1 X.2.2.1.2.2 X.1), X.2.2.2) : XS)) (by unfold cStrike; rw [inL_nI hi hj, ixL_nI hi hj, c_22, Bool.and_self, if_pos rfl, nI_clamp hw31, ← rDx_n hw31]; rfl) ⟨((hP.1.fr hf_3 (by omega)).fr hf_6 (by omega)), hS_5, ⟨((hP.2.2.1.1.fr hf_3 (by omega)).fr hf_6 (by omega)), ((hP.2.2.1.2.1.fr hf_3 (by omega)).fr hf_6 (by omega)), ((hP.2.2.1.2.2.fr hf_3 (by omega)).fr hf_6 (by omega))⟩, (hR_2.fr hf_6 (by omega)), ((hP.2.2.2.2.1.fr hf_3 (by omega)).fr hf_6 (by omega)), ((hsv.fr hf_3 (by omega)).fr hf_6 (by omega)), hP.2.2.2.2.2.2⟩ ((gFr.rf.tr (hf_3.mono (by omega) (by omega))).tr (hf_6.mono (by omega) (by omega)))
    · skip
      refine lv_iconst (v := -1) hx hb d_Ga_strike_25 (by decide +kernel) ?_
      refine g_iret C0 hlk hr d_Ga_strike_26 (t_nil (free := gRg x (x + 262))) ?_
      exact x_end (X' := ((X.1, (X.2.1.1, X.2.1.2), (X.2.2.1.1, X.2.2.1.2.1, X.2.2.1.2.2), X.2.2.2) : XS)) (by unfold cStrike; rw [inL_nI hi hj, ixL_nI hi hj, c_22]; rfl) ⟨hP.1, hP.2.1, ⟨hP.2.2.1.1, hP.2.2.1.2.1, hP.2.2.1.2.2⟩, hP.2.2.2.1, hP.2.2.2.2.1, hsv, hP.2.2.2.2.2.2⟩ gFr.rf

set_option maxHeartbeats 4000000 in
set_option maxRecDepth 100000 in
theorem k_Ga_storm (l : Launch) (G : gT) (x : Nat) (X : XS) (a : Int32) (hX : XOk X) : gM l y_Ga_storm c_Ga_storm 3 (some .int) 5 106 0 0 G [.ref x, .int a] (fun H => XAt G x X H) (wi (.int (cStorm X a).1) (fun H H1 => XAt G x (cStorm X a).2 H1 ∧ gFr x (x + 262) H H1)) (gRg x (x + 262)) := by
  refine g_enter "GaleNames" (by decide +kernel) rfl (Nat.le_of_ble_eq_true rfl) ?_
  intro p e s m args below meth c C0 hlk hr hnm hP hK ls hl
  have hx := C0.1
  have hb := C0.2.1
  have hl : lv_has ls 3 [(0, .ref x), (1, .int a)] := hl
  have hsv : SvAt G x X.2.2.2.1 X.2.2.2.2 s.heap := hP.2.2.2.2.2.1
  refine lv_iload_n hx hb d_Ga_storm_0 rfl (lv_at hl 1 rfl) ?_
  refine g_S C0 (k_Ga_isCoast l G a) co_Ga_isCoast sm_Ga_isCoast in_Ga gc_Ga_isCoast ml_Ga_98 ⟨Nat.le_of_ble_eq_true rfl, Nat.le_of_ble_eq_true rfl⟩ hK trivial rfl hl.1 rfl (Nat.le_of_ble_eq_true rfl) d_Ga_storm_1 ⟨Nat.le_of_ble_eq_true rfl, Nat.le_of_ble_eq_true rfl⟩ (g_r rfl ?_)
  refine g_zne (tgt := 9) C0 d_Ga_storm_4 (by decide) (fun c_4 => ?_) (fun c_4 => ?_)
  · skip
    obtain ⟨i, hi, hi31, rfl⟩ := inR_t c_4
    refine lv_aload_n hx hb d_Ga_storm_9 rfl (lv_at hl 0 rfl) ?_
    refine g_get C0 hK il_Ga hP.1 rfl 0 (by decide) fl_Ga_12 rfl d_Ga_storm_10 ?_
    refine lv_iload_n hx hb d_Ga_storm_13 rfl (lv_at hl 1 rfl) ?_
    refine g_V C0 (k_St_nextName l G (x + 1) X.1 i (by omega) hX.1) co_St_nextName im_St_nextName se_St_nextName in_St gc_St_nextName ml_Ga_101 ⟨Nat.le_of_ble_eq_true rfl, Nat.le_of_ble_eq_true rfl⟩ hK hP.2.1.1 rfl hP.2.1 rfl hl.1 rfl (Nat.le_of_ble_eq_true rfl) d_Ga_storm_14 ⟨Nat.le_of_ble_eq_true rfl, Nat.le_of_ble_eq_true rfl⟩ (g_r rfl ?_)
    refine lv_istore_n (lv' := [(2, .int (oI (-6) (nxN X.1 i))), (0, .ref x), (1, .int (nI i))]) hx hb d_Ga_storm_17 rfl hl (by decide) rfl (fun ls hl => ?_)
    refine lv_iload_n hx hb d_Ga_storm_18 rfl (lv_at hl 0 rfl) ?_
    refine lv_bipush (v := -6) hx hb d_Ga_storm_19 (by decide +kernel) ?_
    refine lv_icmp_ne (tgt := 27) hx hb d_Ga_storm_21 (by decide) (fun c_21 => ?_) (fun c_21 => ?_)
    · skip
      obtain ⟨v, hv⟩ := oI6_some c_21
      have hvl := nxN_lt hX.1 hi hv
      rw [hv] at hl
      have hl : lv_has ls 3 [(2, .int (nI v)), (0, .ref x), (1, .int (nI i))] := hl
      refine lv_aload_n hx hb d_Ga_storm_27 rfl (lv_at hl 1 rfl) ?_
      refine g_get C0 hK il_Ga hP.1 rfl 0 (by decide) fl_Ga_12 rfl d_Ga_storm_28 ?_
      refine g_getN C0 hK il_St hP.2.1.1 rfl 7 (by decide) fn_Ga_104 rfl d_Ga_storm_31 ?_
      refine g_V C0 (k_Ro_size l G (x + 13) 16 (X.1.2 11) ) co_Ro_size im_Ro_size se_Ro_size in_Ro gc_Ro_size ml_Ga_71 ⟨Nat.le_of_ble_eq_true rfl, Nat.le_of_ble_eq_true rfl⟩ hK (hP.2.1.2.2 11 (by decide)).1 rfl (hP.2.1.2.2 11 (by decide)) rfl hl.1 rfl (Nat.le_of_ble_eq_true rfl) d_Ga_storm_34 ⟨Nat.le_of_ble_eq_true rfl, Nat.le_of_ble_eq_true rfl⟩ (g_r rfl ?_)
      refine lv_bipush (v := nI 16) hx hb d_Ga_storm_37 (by decide +kernel) ?_
      refine g_clt (tgt := 45) C0 d_Ga_storm_39 (by decide) (hP.2.1.2.2 11 (by decide)).lt (by omega) (fun c_39 => ?_) (fun c_39 => ?_)
      · skip
        refine lv_aload_n hx hb d_Ga_storm_45 rfl (lv_at hl 1 rfl) ?_
        refine g_get C0 hK il_Ga hP.1 rfl 2 (by decide) fl_Ga_26 rfl d_Ga_storm_46 ?_
        refine lv_aload_n hx hb d_Ga_storm_49 rfl (lv_at hl 1 rfl) ?_
        refine g_get C0 hK il_Ga hP.1 rfl 0 (by decide) fl_Ga_12 rfl d_Ga_storm_50 ?_
        refine g_V C0 (k_Hi_record l G (x + 42) X.2.2.1.1 X.2.2.1.2.1 X.2.2.1.2.2 (x + 1) X.1 (by omega)) co_Hi_record im_Hi_record se_Hi_record in_Hi gc_Hi_record ml_Ga_37 ⟨Nat.le_of_ble_eq_true rfl, Nat.le_of_ble_eq_true rfl⟩ hK hP.2.2.2.1.1 rfl ⟨hP.2.2.2.1, hP.2.1⟩ rfl hl.1 rfl (Nat.le_of_ble_eq_true rfl) d_Ga_storm_53 ⟨Nat.le_of_ble_eq_true rfl, Nat.le_of_ble_eq_true rfl⟩ (g_wv (free := gRg x (x + 262)) (t_nil (free := gRg x (x + 262))) (gRg.mono (by omega) (by omega)) (fun H_1 locs hL ⟨hR_2, hf_3⟩ => ?_))
        refine lv_aload_n hx hb d_Ga_storm_56 rfl (lv_at hl 1 rfl) ?_
        refine g_get C0 hK il_Ga (hP.1.fr hf_3 (by omega)) rfl 0 (by decide) fl_Ga_12 rfl d_Ga_storm_57 ?_
        refine lv_iload_n hx hb d_Ga_storm_60 rfl (lv_at hl 0 rfl) ?_
        refine lv_iload_n hx hb d_Ga_storm_61 rfl (lv_at hl 2 rfl) ?_
        refine g_V C0 (k_St_addStorm l G (x + 1) X.1 v i (by omega)) co_St_addStorm im_St_addStorm se_St_addStorm in_St gc_St_addStorm ml_Ga_107 ⟨Nat.le_of_ble_eq_true rfl, Nat.le_of_ble_eq_true rfl⟩ hK (hP.2.1.fr hf_3 (by omega)).1 rfl (hP.2.1.fr hf_3 (by omega)) rfl hl.1 rfl (Nat.le_of_ble_eq_true rfl) d_Ga_storm_62 ⟨Nat.le_of_ble_eq_true rfl, Nat.le_of_ble_eq_true rfl⟩ (g_wi (free := gRg x (x + 262)) hL (gRg.mono (by omega) (by omega)) (fun H_4 locs hL ⟨hR_5, hf_6⟩ => ?_))
        refine g_iret C0 hlk hr d_Ga_storm_65 hL ?_
        exact x_end (X' := ((adS X.1 v i, (X.2.1.1, X.2.1.2), (hrN X.2.2.1.1 + 1, hrP X.2.2.1.1 X.2.2.1.2.1, hrZ X.2.2.1.1 X.2.2.1.2.2 X.1), X.2.2.2) : XS)) (by unfold cStorm; rw [c_4, if_pos rfl, nI_clamp hi31, hv]; exact if_neg (Nat.not_le.mpr c_39)) ⟨((hP.1.fr hf_3 (by omega)).fr hf_6 (by omega)), hR_5, ⟨((hP.2.2.1.1.fr hf_3 (by omega)).fr hf_6 (by omega)), ((hP.2.2.1.2.1.fr hf_3 (by omega)).fr hf_6 (by omega)), ((hP.2.2.1.2.2.fr hf_3 (by omega)).fr hf_6 (by omega))⟩, (hR_2.fr hf_6 (by omega)), ((hP.2.2.2.2.1.fr hf_3 (by omega)).fr hf_6 (by omega)), ((hsv.fr hf_3 (by omega)).fr hf_6 (by omega)), hP.2.2.2.2.2.2⟩ ((gFr.rf.tr (hf_3.mono (by omega) (by omega))).tr (hf_6.mono (by omega) (by omega)))
      · skip
        refine lv_bipush (v := -4) hx hb d_Ga_storm_42 (by decide +kernel) ?_
        refine g_iret C0 hlk hr d_Ga_storm_44 (t_nil (free := gRg x (x + 262))) ?_
        exact x_end (X' := ((X.1, (X.2.1.1, X.2.1.2), (X.2.2.1.1, X.2.2.1.2.1, X.2.2.1.2.2), X.2.2.2) : XS)) (by unfold cStorm; rw [c_4, if_pos rfl, nI_clamp hi31, hv]; exact if_pos c_39) ⟨hP.1, hP.2.1, ⟨hP.2.2.1.1, hP.2.2.1.2.1, hP.2.2.1.2.2⟩, hP.2.2.2.1, hP.2.2.2.2.1, hsv, hP.2.2.2.2.2.2⟩ gFr.rf
    · skip
      have c_21 := (oI6_n (fun v h => Nat.lt_trans (nxN_lt hX.1 hi h) (by decide))).mp c_21
      refine lv_bipush (v := -5) hx hb d_Ga_storm_24 (by decide +kernel) ?_
      refine g_iret C0 hlk hr d_Ga_storm_26 (t_nil (free := gRg x (x + 262))) ?_
      exact x_end (X' := ((X.1, (X.2.1.1, X.2.1.2), (X.2.2.1.1, X.2.2.1.2.1, X.2.2.1.2.2), X.2.2.2) : XS)) (by unfold cStorm; rw [c_4, if_pos rfl, nI_clamp hi31, c_21]) ⟨hP.1, hP.2.1, ⟨hP.2.2.1.1, hP.2.2.1.2.1, hP.2.2.1.2.2⟩, hP.2.2.2.1, hP.2.2.2.2.1, hsv, hP.2.2.2.2.2.2⟩ gFr.rf
  · skip
    refine lv_iconst (v := -1) hx hb d_Ga_storm_7 (by decide +kernel) ?_
    refine g_iret C0 hlk hr d_Ga_storm_8 (t_nil (free := gRg x (x + 262))) ?_
    exact x_end (X' := ((X.1, (X.2.1.1, X.2.1.2), (X.2.2.1.1, X.2.2.1.2.1, X.2.2.1.2.2), X.2.2.2) : XS)) (by unfold cStorm; rw [c_4]; rfl) ⟨hP.1, hP.2.1, ⟨hP.2.2.1.1, hP.2.2.1.2.1, hP.2.2.1.2.2⟩, hP.2.2.2.1, hP.2.2.2.2.1, hsv, hP.2.2.2.2.2.2⟩ gFr.rf

set_option maxHeartbeats 4000000 in
set_option maxRecDepth 100000 in
theorem k_Ga_harm (l : Launch) (G : gT) (x : Nat) (X : XS) (a v : Int32) (hX : XOk X) : gM l y_Ga_harm c_Ga_harm 3 (some .int) 5 106 0 0 G [.ref x, .int a, .int v] (fun H => XAt G x X H) (wi (.int (cHarm X a v).1) (fun H H1 => XAt G x (cHarm X a v).2 H1 ∧ gFr x (x + 262) H H1)) (gRg x (x + 262)) := by
  refine g_enter "GaleNames" (by decide +kernel) rfl (Nat.le_of_ble_eq_true rfl) ?_
  intro p e s m args below meth c C0 hlk hr hnm hP hK ls hl
  have hx := C0.1
  have hb := C0.2.1
  have hl : lv_has ls 3 [(0, .ref x), (1, .int a), (2, .int v)] := hl
  have hsv : SvAt G x X.2.2.2.1 X.2.2.2.2 s.heap := hP.2.2.2.2.2.1
  refine lv_aload_n hx hb d_Ga_harm_0 rfl (lv_at hl 0 rfl) ?_
  refine g_get C0 hK il_Ga hP.1 rfl 0 (by decide) fl_Ga_12 rfl d_Ga_harm_1 ?_
  refine g_getN C0 hK il_St hP.2.1.1 rfl 7 (by decide) fn_Ga_104 rfl d_Ga_harm_4 ?_
  refine lv_iload_n hx hb d_Ga_harm_7 rfl (lv_at hl 1 rfl) ?_
  refine g_V C0 (k_Ro_has l G (x + 13) 16 (X.1.2 11) a) co_Ro_has im_Ro_has se_Ro_has in_Ro gc_Ro_has ml_Ga_91 ⟨Nat.le_of_ble_eq_true rfl, Nat.le_of_ble_eq_true rfl⟩ hK (hP.2.1.2.2 11 (by decide)).1 rfl (hP.2.1.2.2 11 (by decide)) rfl hl.1 rfl (Nat.le_of_ble_eq_true rfl) d_Ga_harm_8 ⟨Nat.le_of_ble_eq_true rfl, Nat.le_of_ble_eq_true rfl⟩ (g_r rfl ?_)
  refine g_zne (tgt := 16) C0 d_Ga_harm_11 (by decide) (fun c_11 => ?_) (fun c_11 => ?_)
  · skip
    obtain ⟨i, hi, hi31, rfl⟩ := inR_t c_11
    refine lv_iload_n hx hb d_Ga_harm_16 rfl (lv_at hl 2 rfl) ?_
    refine lv_iconst (v := nI 1) hx hb d_Ga_harm_17 (by decide +kernel) ?_
    refine lv_icmp_lt (tgt := 27) hx hb d_Ga_harm_18 (by decide) (fun c_18 => ?_) (fun c_18 => ?_)
    · skip
      refine lv_bipush (v := -2) hx hb d_Ga_harm_27 (by decide +kernel) ?_
      refine g_iret C0 hlk hr d_Ga_harm_29 (t_nil (free := gRg x (x + 262))) ?_
      exact x_end (X' := ((X.1, (X.2.1.1, X.2.1.2), (X.2.2.1.1, X.2.2.1.2.1, X.2.2.1.2.2), X.2.2.2) : XS)) (by unfold cHarm; rw [c_11, if_pos rfl, inD_lo c_18]; rfl) ⟨hP.1, hP.2.1, ⟨hP.2.2.1.1, hP.2.2.1.2.1, hP.2.2.1.2.2⟩, hP.2.2.2.1, hP.2.2.2.2.1, hsv, hP.2.2.2.2.2.2⟩ gFr.rf
    · skip
      refine lv_iload_n hx hb d_Ga_harm_21 rfl (lv_at hl 2 rfl) ?_
      refine lv_bipush (v := nI 50) hx hb d_Ga_harm_22 (by decide +kernel) ?_
      refine lv_icmp_le (tgt := 30) hx hb d_Ga_harm_24 (by decide) (fun c_24 => ?_) (fun c_24 => ?_)
      · skip
        obtain ⟨w, hw1, hw2, rfl⟩ := inD_ex (lo := 1) (hi := 50) c_18 c_24 (by decide) (by decide)
        refine lv_aload_n hx hb d_Ga_harm_30 rfl (lv_at hl 0 rfl) ?_
        refine g_get C0 hK il_Ga hP.1 rfl 2 (by decide) fl_Ga_26 rfl d_Ga_harm_31 ?_
        refine lv_aload_n hx hb d_Ga_harm_34 rfl (lv_at hl 0 rfl) ?_
        refine g_get C0 hK il_Ga hP.1 rfl 0 (by decide) fl_Ga_12 rfl d_Ga_harm_35 ?_
        refine g_V C0 (k_Hi_record l G (x + 42) X.2.2.1.1 X.2.2.1.2.1 X.2.2.1.2.2 (x + 1) X.1 (by omega)) co_Hi_record im_Hi_record se_Hi_record in_Hi gc_Hi_record ml_Ga_37 ⟨Nat.le_of_ble_eq_true rfl, Nat.le_of_ble_eq_true rfl⟩ hK hP.2.2.2.1.1 rfl ⟨hP.2.2.2.1, hP.2.1⟩ rfl hl.1 rfl (Nat.le_of_ble_eq_true rfl) d_Ga_harm_38 ⟨Nat.le_of_ble_eq_true rfl, Nat.le_of_ble_eq_true rfl⟩ (g_wv (free := gRg x (x + 262)) (t_nil (free := gRg x (x + 262))) (gRg.mono (by omega) (by omega)) (fun H_1 locs hL ⟨hR_2, hf_3⟩ => ?_))
        refine lv_aload_n hx hb d_Ga_harm_41 rfl (lv_at hl 0 rfl) ?_
        refine g_get C0 hK il_Ga (hP.1.fr hf_3 (by omega)) rfl 0 (by decide) fl_Ga_12 rfl d_Ga_harm_42 ?_
        refine g_getN C0 hK il_St (hP.2.1.fr hf_3 (by omega)).1 rfl 5 (by decide) fn_Ga_111 rfl d_Ga_harm_45 ?_
        refine lv_aload_n hx hb d_Ga_harm_48 rfl (lv_at hl 0 rfl) ?_
        refine g_get C0 hK il_Ga (hP.1.fr hf_3 (by omega)) rfl 0 (by decide) fl_Ga_12 rfl d_Ga_harm_49 ?_
        refine g_getN C0 hK il_St (hP.2.1.fr hf_3 (by omega)).1 rfl 7 (by decide) fn_Ga_104 rfl d_Ga_harm_52 ?_
        refine lv_iload_n hx hb d_Ga_harm_55 rfl (lv_at hl 1 rfl) ?_
        refine g_V C0 (k_Ro_at l G (x + 13) 16 (X.1.2 11) i (by omega)) co_Ro_at im_Ro_at se_Ro_at in_Ro gc_Ro_at ml_Ga_45 ⟨Nat.le_of_ble_eq_true rfl, Nat.le_of_ble_eq_true rfl⟩ hK ((hP.2.1.fr hf_3 (by omega)).2.2 11 (by decide)).1 rfl ((hP.2.1.fr hf_3 (by omega)).2.2 11 (by decide)) rfl hl.1 rfl (Nat.le_of_ble_eq_true rfl) d_Ga_harm_56 ⟨Nat.le_of_ble_eq_true rfl, Nat.le_of_ble_eq_true rfl⟩ (g_r rfl ?_)
        refine lv_iload_n hx hb d_Ga_harm_59 rfl (lv_at hl 2 rfl) ?_
        refine g_V C0 (k_Ro_raise l G (x + 10) 40 (X.1.2 4) (rA (X.1.2 11) i) (nI w) (rA (X.1.2 4) (rA (X.1.2 11) i) + w) (rA_lt (hX.1.b (by decide)) (by decide)) (fun _ => nI_add _ _)) co_Ro_raise im_Ro_raise se_Ro_raise in_Ro gc_Ro_raise ml_Ga_114 ⟨Nat.le_of_ble_eq_true rfl, Nat.le_of_ble_eq_true rfl⟩ hK ((hP.2.1.fr hf_3 (by omega)).2.2 4 (by decide)).1 rfl ((hP.2.1.fr hf_3 (by omega)).2.2 4 (by decide)) rfl hl.1 rfl (Nat.le_of_ble_eq_true rfl) d_Ga_harm_60 ⟨Nat.le_of_ble_eq_true rfl, Nat.le_of_ble_eq_true rfl⟩ (g_wv (free := gRg x (x + 262)) hL (gRg.mono (by omega) (by omega)) (fun H_4 locs hL ⟨hR_5, hf_6⟩ => ?_))
        have hS_5 := (hP.2.1.fr hf_3 (by omega)).up 4 (by decide) hR_5 hf_6
        refine lv_aload_n hx hb d_Ga_harm_63 rfl (lv_at hl 0 rfl) ?_
        refine g_get C0 hK il_Ga ((hP.1.fr hf_3 (by omega)).fr hf_6 (by omega)) rfl 0 (by decide) fl_Ga_12 rfl d_Ga_harm_64 ?_
        refine g_getN C0 hK il_St hS_5.1 rfl 9 (by decide) fn_Ga_117 rfl d_Ga_harm_67 ?_
        refine lv_iload_n hx hb d_Ga_harm_70 rfl (lv_at hl 1 rfl) ?_
        refine lv_iload_n hx hb d_Ga_harm_71 rfl (lv_at hl 2 rfl) ?_
        refine g_V C0 (k_Ro_raise l G (x + 17) 16 (X.1.2 13) i (nI w) (rA (X.1.2 13) i + w) (by omega) (fun _ => nI_add _ _)) co_Ro_raise im_Ro_raise se_Ro_raise in_Ro gc_Ro_raise ml_Ga_114 ⟨Nat.le_of_ble_eq_true rfl, Nat.le_of_ble_eq_true rfl⟩ hK (hS_5.2.2 13 (by decide)).1 rfl (hS_5.2.2 13 (by decide)) rfl hl.1 rfl (Nat.le_of_ble_eq_true rfl) d_Ga_harm_72 ⟨Nat.le_of_ble_eq_true rfl, Nat.le_of_ble_eq_true rfl⟩ (g_wv (free := gRg x (x + 262)) hL (gRg.mono (by omega) (by omega)) (fun H_7 locs hL ⟨hR_8, hf_9⟩ => ?_))
        have hS_8 := hS_5.up 13 (by decide) hR_8 hf_9
        refine lv_aload_n hx hb d_Ga_harm_75 rfl (lv_at hl 0 rfl) ?_
        refine g_get C0 hK il_Ga (((hP.1.fr hf_3 (by omega)).fr hf_6 (by omega)).fr hf_9 (by omega)) rfl 0 (by decide) fl_Ga_12 rfl d_Ga_harm_76 ?_
        refine g_getN C0 hK il_St hS_8.1 rfl 9 (by decide) fn_Ga_117 rfl d_Ga_harm_79 ?_
        refine lv_iload_n hx hb d_Ga_harm_82 rfl (lv_at hl 1 rfl) ?_
        refine g_V C0 (k_Ro_at l G (x + 17) 16 (rCh (X.1.2 13) i (rA (X.1.2 13) i + w)) i (by omega)) co_Ro_at im_Ro_at se_Ro_at in_Ro gc_Ro_at ml_Ga_45 ⟨Nat.le_of_ble_eq_true rfl, Nat.le_of_ble_eq_true rfl⟩ hK (hS_8.2.2 13 (by decide)).1 rfl (hS_8.2.2 13 (by decide)) rfl hl.1 rfl (Nat.le_of_ble_eq_true rfl) d_Ga_harm_83 ⟨Nat.le_of_ble_eq_true rfl, Nat.le_of_ble_eq_true rfl⟩ (g_r rfl ?_)
        refine g_iret C0 hlk hr d_Ga_harm_86 hL ?_
        exact x_end (X' := ((hmS X.1 i w, (X.2.1.1, X.2.1.2), (hrN X.2.2.1.1 + 1, hrP X.2.2.1.1 X.2.2.1.2.1, hrZ X.2.2.1.1 X.2.2.1.2.2 X.1), X.2.2.2) : XS)) (by unfold cHarm; rw [c_11, if_pos rfl, inD_t hw1 hw2 (by decide), if_pos rfl, nI_clamp hi31, nI_clamp (by omega)]; rfl) ⟨(((hP.1.fr hf_3 (by omega)).fr hf_6 (by omega)).fr hf_9 (by omega)), hS_8, ⟨(((hP.2.2.1.1.fr hf_3 (by omega)).fr hf_6 (by omega)).fr hf_9 (by omega)), (((hP.2.2.1.2.1.fr hf_3 (by omega)).fr hf_6 (by omega)).fr hf_9 (by omega)), (((hP.2.2.1.2.2.fr hf_3 (by omega)).fr hf_6 (by omega)).fr hf_9 (by omega))⟩, ((hR_2.fr hf_6 (by omega)).fr hf_9 (by omega)), (((hP.2.2.2.2.1.fr hf_3 (by omega)).fr hf_6 (by omega)).fr hf_9 (by omega)), (((hsv.fr hf_3 (by omega)).fr hf_6 (by omega)).fr hf_9 (by omega)), hP.2.2.2.2.2.2⟩ (((gFr.rf.tr (hf_3.mono (by omega) (by omega))).tr (hf_6.mono (by omega) (by omega))).tr (hf_9.mono (by omega) (by omega)))
      · skip
        refine lv_bipush (v := -2) hx hb d_Ga_harm_27 (by decide +kernel) ?_
        refine g_iret C0 hlk hr d_Ga_harm_29 (t_nil (free := gRg x (x + 262))) ?_
        exact x_end (X' := ((X.1, (X.2.1.1, X.2.1.2), (X.2.2.1.1, X.2.2.1.2.1, X.2.2.1.2.2), X.2.2.2) : XS)) (by unfold cHarm; rw [c_11, if_pos rfl, inD_hi c_24]; rfl) ⟨hP.1, hP.2.1, ⟨hP.2.2.1.1, hP.2.2.1.2.1, hP.2.2.1.2.2⟩, hP.2.2.2.1, hP.2.2.2.2.1, hsv, hP.2.2.2.2.2.2⟩ gFr.rf
  · skip
    refine lv_iconst (v := -1) hx hb d_Ga_harm_14 (by decide +kernel) ?_
    refine g_iret C0 hlk hr d_Ga_harm_15 (t_nil (free := gRg x (x + 262))) ?_
    exact x_end (X' := ((X.1, (X.2.1.1, X.2.1.2), (X.2.2.1.1, X.2.2.1.2.1, X.2.2.1.2.2), X.2.2.2) : XS)) (by unfold cHarm; rw [c_11]; rfl) ⟨hP.1, hP.2.1, ⟨hP.2.2.1.1, hP.2.2.1.2.1, hP.2.2.1.2.2⟩, hP.2.2.2.1, hP.2.2.2.2.1, hsv, hP.2.2.2.2.2.2⟩ gFr.rf

set_option maxHeartbeats 4000000 in
set_option maxRecDepth 100000 in
theorem k_Ga_endYear (l : Launch) (G : gT) (x : Nat) (X : XS)  (hX : XOk X) : gM l y_Ga_endYear c_Ga_endYear 2 (some .int) 5 111 0 0 G [.ref x] (fun H => XAt G x X H) (wi (.int (cEnd X).1) (fun H H1 => XAt G x (cEnd X).2 H1 ∧ gFr x (x + 262) H H1)) (gRg x (x + 262)) := by
  refine g_enter "GaleNames" (by decide +kernel) rfl (Nat.le_of_ble_eq_true rfl) ?_
  intro p e s m args below meth c C0 hlk hr hnm hP hK ls hl
  have hx := C0.1
  have hb := C0.2.1
  have hl : lv_has ls 2 [(0, .ref x)] := hl
  have hsv : SvAt G x X.2.2.2.1 X.2.2.2.2 s.heap := hP.2.2.2.2.2.1
  have hy := hX.1.1
  refine lv_aload_n hx hb d_Ga_endYear_0 rfl (lv_at hl 0 rfl) ?_
  refine g_get C0 hK il_Ga hP.1 rfl 0 (by decide) fl_Ga_12 rfl d_Ga_endYear_1 ?_
  refine g_getN C0 hK il_St hP.2.1.1 rfl 0 (by decide) fn_Ga_120 rfl d_Ga_endYear_4 ?_
  refine lv_sipush (v := nI 999) hx hb d_Ga_endYear_7 (by decide +kernel) ?_
  refine g_clt (tgt := 16) C0 d_Ga_endYear_10 (by decide) (by omega) (by omega) (fun c_10 => ?_) (fun c_10 => ?_)
  · skip
    refine lv_aload_n hx hb d_Ga_endYear_16 rfl (lv_at hl 0 rfl) ?_
    refine g_get C0 hK il_Ga hP.1 rfl 2 (by decide) fl_Ga_26 rfl d_Ga_endYear_17 ?_
    refine lv_aload_n hx hb d_Ga_endYear_20 rfl (lv_at hl 0 rfl) ?_
    refine g_get C0 hK il_Ga hP.1 rfl 0 (by decide) fl_Ga_12 rfl d_Ga_endYear_21 ?_
    refine g_V C0 (k_Hi_record l G (x + 42) X.2.2.1.1 X.2.2.1.2.1 X.2.2.1.2.2 (x + 1) X.1 (by omega)) co_Hi_record im_Hi_record se_Hi_record in_Hi gc_Hi_record ml_Ga_37 ⟨Nat.le_of_ble_eq_true rfl, Nat.le_of_ble_eq_true rfl⟩ hK hP.2.2.2.1.1 rfl ⟨hP.2.2.2.1, hP.2.1⟩ rfl hl.1 rfl (Nat.le_of_ble_eq_true rfl) d_Ga_endYear_24 ⟨Nat.le_of_ble_eq_true rfl, Nat.le_of_ble_eq_true rfl⟩ (g_wv (free := gRg x (x + 262)) (t_nil (free := gRg x (x + 262))) (gRg.mono (by omega) (by omega)) (fun H_1 locs hL ⟨hR_2, hf_3⟩ => ?_))
    refine lv_aload_n hx hb d_Ga_endYear_27 rfl (lv_at hl 0 rfl) ?_
    refine g_get C0 hK il_Ga (hP.1.fr hf_3 (by omega)) rfl 0 (by decide) fl_Ga_12 rfl d_Ga_endYear_28 ?_
    refine g_V C0 (k_St_oweApologies l G (x + 1) X.1 hX.1) co_St_oweApologies im_St_oweApologies se_St_oweApologies in_St gc_St_oweApologies ml_Ga_124 ⟨Nat.le_of_ble_eq_true rfl, Nat.le_of_ble_eq_true rfl⟩ hK (hP.2.1.fr hf_3 (by omega)).1 rfl (hP.2.1.fr hf_3 (by omega)) rfl hl.1 rfl (Nat.le_of_ble_eq_true rfl) d_Ga_endYear_31 ⟨Nat.le_of_ble_eq_true rfl, Nat.le_of_ble_eq_true rfl⟩ (g_wv (free := gRg x (x + 262)) hL (gRg.mono (by omega) (by omega)) (fun H_4 locs hL ⟨hR_5, hf_6⟩ => ?_))
    refine lv_aload_n hx hb d_Ga_endYear_34 rfl (lv_at hl 0 rfl) ?_
    refine g_get C0 hK il_Ga ((hP.1.fr hf_3 (by omega)).fr hf_6 (by omega)) rfl 0 (by decide) fl_Ga_12 rfl d_Ga_endYear_35 ?_
    refine g_V C0 (k_St_retireHarmed l G (x + 1) (owS X.1 (X.1.2 14).1) (SOk_ow hX.1 hX.2.2 _)) co_St_retireHarmed im_St_retireHarmed se_St_retireHarmed in_St gc_St_retireHarmed ml_Ga_127 ⟨Nat.le_of_ble_eq_true rfl, Nat.le_of_ble_eq_true rfl⟩ hK hR_5.1 rfl hR_5 rfl hl.1 rfl (Nat.le_of_ble_eq_true rfl) d_Ga_endYear_38 ⟨Nat.le_of_ble_eq_true rfl, Nat.le_of_ble_eq_true rfl⟩ (g_wi (free := gRg x (x + 262)) hL (gRg.mono (by omega) (by omega)) (fun H_7 locs hL ⟨hR_8, hf_9⟩ => ?_))
    refine lv_istore_n (lv' := [(1, .int (nI (hdB (owS X.1 (X.1.2 14).1) (rA ((owS X.1 (X.1.2 14).1).2 0) 0)))), (0, .ref x)]) hx hb d_Ga_endYear_41 rfl hl (by decide) rfl (fun ls hl => ?_)
    refine lv_aload_n hx hb d_Ga_endYear_42 rfl (lv_at hl 1 rfl) ?_
    refine g_get C0 hK il_Ga (((hP.1.fr hf_3 (by omega)).fr hf_6 (by omega)).fr hf_9 (by omega)) rfl 0 (by decide) fl_Ga_12 rfl d_Ga_endYear_43 ?_
    refine g_V C0 (k_St_beginNextYear l G (x + 1) (rhS (owS X.1 (X.1.2 14).1) ((owS X.1 (X.1.2 14).1).2 1).1) ) co_St_beginNextYear im_St_beginNextYear se_St_beginNextYear in_St gc_St_beginNextYear ml_Ga_130 ⟨Nat.le_of_ble_eq_true rfl, Nat.le_of_ble_eq_true rfl⟩ hK hR_8.1 rfl hR_8 rfl hl.1 rfl (Nat.le_of_ble_eq_true rfl) d_Ga_endYear_46 ⟨Nat.le_of_ble_eq_true rfl, Nat.le_of_ble_eq_true rfl⟩ (g_wv (free := gRg x (x + 262)) hL (gRg.mono (by omega) (by omega)) (fun H_10 locs hL ⟨hR_11, hf_12⟩ => ?_))
    refine lv_iload_n hx hb d_Ga_endYear_49 rfl (lv_at hl 0 rfl) ?_
    refine g_iret C0 hlk hr d_Ga_endYear_50 hL ?_
    exact x_end (X' := ((eyS X.1, (X.2.1.1, X.2.1.2), (hrN X.2.2.1.1 + 1, hrP X.2.2.1.1 X.2.2.1.2.1, hrZ X.2.2.1.1 X.2.2.1.2.2 X.1), X.2.2.2) : XS)) (by unfold cEnd; exact if_pos c_10) ⟨((((hP.1.fr hf_3 (by omega)).fr hf_6 (by omega)).fr hf_9 (by omega)).fr hf_12 (by omega)), hR_11, ⟨((((hP.2.2.1.1.fr hf_3 (by omega)).fr hf_6 (by omega)).fr hf_9 (by omega)).fr hf_12 (by omega)), ((((hP.2.2.1.2.1.fr hf_3 (by omega)).fr hf_6 (by omega)).fr hf_9 (by omega)).fr hf_12 (by omega)), ((((hP.2.2.1.2.2.fr hf_3 (by omega)).fr hf_6 (by omega)).fr hf_9 (by omega)).fr hf_12 (by omega))⟩, (((hR_2.fr hf_6 (by omega)).fr hf_9 (by omega)).fr hf_12 (by omega)), ((((hP.2.2.2.2.1.fr hf_3 (by omega)).fr hf_6 (by omega)).fr hf_9 (by omega)).fr hf_12 (by omega)), ((((hsv.fr hf_3 (by omega)).fr hf_6 (by omega)).fr hf_9 (by omega)).fr hf_12 (by omega)), hP.2.2.2.2.2.2⟩ ((((gFr.rf.tr (hf_3.mono (by omega) (by omega))).tr (hf_6.mono (by omega) (by omega))).tr (hf_9.mono (by omega) (by omega))).tr (hf_12.mono (by omega) (by omega)))
  · skip
    refine lv_bipush (v := -5) hx hb d_Ga_endYear_13 (by decide +kernel) ?_
    refine g_iret C0 hlk hr d_Ga_endYear_15 (t_nil (free := gRg x (x + 262))) ?_
    exact x_end (X' := ((X.1, (X.2.1.1, X.2.1.2), (X.2.2.1.1, X.2.2.1.2.1, X.2.2.1.2.2), X.2.2.2) : XS)) (by unfold cEnd; exact if_neg (Nat.not_lt.mpr c_10)) ⟨hP.1, hP.2.1, ⟨hP.2.2.1.1, hP.2.2.1.2.1, hP.2.2.1.2.2⟩, hP.2.2.2.1, hP.2.2.2.2.1, hsv, hP.2.2.2.2.2.2⟩ gFr.rf

set_option maxHeartbeats 4000000 in
set_option maxRecDepth 100000 in
theorem k_Ga_namesake (l : Launch) (G : gT) (x : Nat) (X : XS)  (hX : XOk X) : gM l y_Ga_namesake c_Ga_namesake 2 (some .int) 5 108 0 0 G [.ref x] (fun H => XAt G x X H) (wi (.int (cNmk X).1) (fun H H1 => XAt G x (cNmk X).2 H1 ∧ gFr x (x + 262) H H1)) (gRg x (x + 262)) := by
  refine g_enter "GaleNames" (by decide +kernel) rfl (Nat.le_of_ble_eq_true rfl) ?_
  intro p e s m args below meth c C0 hlk hr hnm hP hK ls hl
  have hx := C0.1
  have hb := C0.2.1
  have hl : lv_has ls 2 [(0, .ref x)] := hl
  have hsv : SvAt G x X.2.2.2.1 X.2.2.2.2 s.heap := hP.2.2.2.2.2.1
  refine lv_aload_n hx hb d_Ga_namesake_0 rfl (lv_at hl 0 rfl) ?_
  refine g_get C0 hK il_Ga hP.1 rfl 1 (by decide) fl_Ga_19 rfl d_Ga_namesake_1 ?_
  refine g_V C0 (k_Pa_tellsOneName l G (x + 37) X.2.1.1 X.2.1.2 hX.2.1) co_Pa_tellsOneName im_Pa_tellsOneName se_Pa_tellsOneName in_Pa gc_Pa_tellsOneName ml_Ga_133 ⟨Nat.le_of_ble_eq_true rfl, Nat.le_of_ble_eq_true rfl⟩ hK hP.2.2.1.1 rfl ⟨hP.2.2.1.1, hP.2.2.1.2.1, hP.2.2.1.2.2⟩ rfl hl.1 rfl (Nat.le_of_ble_eq_true rfl) d_Ga_namesake_4 ⟨Nat.le_of_ble_eq_true rfl, Nat.le_of_ble_eq_true rfl⟩ (g_wi (free := gRg x (x + 262)) (t_nil (free := gRg x (x + 262))) (gRg.mono (by omega) (by omega)) (fun H_1 locs hL ⟨hR_2, hf_3⟩ => ?_))
  refine g_zne (tgt := 13) C0 d_Ga_namesake_7 (by decide) (fun c_7 => ?_) (fun c_7 => ?_)
  · skip
    have c_7 : xOne X = true := c_7
    refine lv_aload_n hx hb d_Ga_namesake_13 rfl (lv_at hl 0 rfl) ?_
    refine g_get C0 hK il_Ga (hP.1.fr hf_3 (by omega)) rfl 0 (by decide) fl_Ga_12 rfl d_Ga_namesake_14 ?_
    refine g_getN C0 hK il_St (hP.2.1.fr hf_3 (by omega)).1 rfl 10 (by decide) fn_Ga_137 rfl d_Ga_namesake_17 ?_
    refine g_V C0 (k_Ro_size l G (x + 19) 10 (X.1.2 14) ) co_Ro_size im_Ro_size se_Ro_size in_Ro gc_Ro_size ml_Ga_71 ⟨Nat.le_of_ble_eq_true rfl, Nat.le_of_ble_eq_true rfl⟩ hK ((hP.2.1.fr hf_3 (by omega)).2.2 14 (by decide)).1 rfl ((hP.2.1.fr hf_3 (by omega)).2.2 14 (by decide)) rfl hl.1 rfl (Nat.le_of_ble_eq_true rfl) d_Ga_namesake_20 ⟨Nat.le_of_ble_eq_true rfl, Nat.le_of_ble_eq_true rfl⟩ (g_r rfl ?_)
    refine lv_bipush (v := nI 10) hx hb d_Ga_namesake_23 (by decide +kernel) ?_
    refine g_cge (tgt := 47) C0 d_Ga_namesake_25 (by decide) (hP.2.1.2.2 14 (by decide)).lt (by omega) (fun c_25 => ?_) (fun c_25 => ?_)
    · skip
      refine lv_bipush (v := -4) hx hb d_Ga_namesake_47 (by decide +kernel) ?_
      refine g_iret C0 hlk hr d_Ga_namesake_49 hL ?_
      exact x_end (X' := ((X.1, (X.2.1.1, (pRs X.2.1.2.2 X.2.1.1).2), (X.2.2.1.1, X.2.2.1.2.1, X.2.2.1.2.2), X.2.2.2) : XS)) (by unfold cNmk; rw [c_7, if_pos rfl]; exact if_pos (Or.inl c_25)) ⟨(hP.1.fr hf_3 (by omega)), (hP.2.1.fr hf_3 (by omega)), ⟨hR_2.1, hR_2.2.1, hR_2.2.2⟩, (hP.2.2.2.1.fr hf_3 (by omega)), (hP.2.2.2.2.1.fr hf_3 (by omega)), (hsv.fr hf_3 (by omega)), hP.2.2.2.2.2.2⟩ (gFr.rf.tr (hf_3.mono (by omega) (by omega)))
    · skip
      refine lv_aload_n hx hb d_Ga_namesake_28 rfl (lv_at hl 0 rfl) ?_
      refine g_get C0 hK il_Ga (hP.1.fr hf_3 (by omega)) rfl 0 (by decide) fl_Ga_12 rfl d_Ga_namesake_29 ?_
      refine lv_aload_n hx hb d_Ga_namesake_32 rfl (lv_at hl 0 rfl) ?_
      refine g_get C0 hK il_Ga (hP.1.fr hf_3 (by omega)) rfl 1 (by decide) fl_Ga_19 rfl d_Ga_namesake_33 ?_
      refine g_V C0 (k_Pa_told l G (x + 37) X.2.1.1 ((pRs X.2.1.2.2 X.2.1.1).2)) co_Pa_told im_Pa_told se_Pa_told in_Pa gc_Pa_told ml_Ga_63 ⟨Nat.le_of_ble_eq_true rfl, Nat.le_of_ble_eq_true rfl⟩ hK hR_2.1 rfl ⟨hR_2.1, hR_2.2.1, hR_2.2.2⟩ rfl hl.1 rfl (Nat.le_of_ble_eq_true rfl) d_Ga_namesake_36 ⟨Nat.le_of_ble_eq_true rfl, Nat.le_of_ble_eq_true rfl⟩ (g_r rfl ?_)
      refine g_V C0 (k_St_knownWith l G (x + 1) X.1 (x + 40) 27 ((pRs X.2.1.2.2 X.2.1.1).2) ((pRs_B _ _).mono (by decide)) hX.1) co_St_knownWith im_St_knownWith se_St_knownWith in_St gc_St_knownWith ml_Ga_74 ⟨Nat.le_of_ble_eq_true rfl, Nat.le_of_ble_eq_true rfl⟩ hK (hP.2.1.fr hf_3 (by omega)).1 rfl ⟨(hP.2.1.fr hf_3 (by omega)), hR_2.2.2⟩ rfl hl.1 rfl (Nat.le_of_ble_eq_true rfl) d_Ga_namesake_39 ⟨Nat.le_of_ble_eq_true rfl, Nat.le_of_ble_eq_true rfl⟩ (g_r rfl ?_)
      refine lv_bipush (v := nI 40) hx hb d_Ga_namesake_42 (by decide +kernel) ?_
      refine g_cle (tgt := 50) C0 d_Ga_namesake_44 (by decide) (by have h1 := cN_le (fun i => !(rPl (X.1.2 1) ((pRs X.2.1.2.2 X.2.1.1).2.2 i)).isSome) (pRs X.2.1.2.2 X.2.1.1).2.1; unfold knW; have h2 := hR_2.2.2.2.2.1; have h3 : (X.1.2 1).1 ≤ 40 := (hP.2.1.2.2 1 (by decide)).2.2.1; omega) (by omega) (fun c_44 => ?_) (fun c_44 => ?_)
      · skip
        refine lv_aload_n hx hb d_Ga_namesake_50 rfl (lv_at hl 0 rfl) ?_
        refine g_get C0 hK il_Ga (hP.1.fr hf_3 (by omega)) rfl 2 (by decide) fl_Ga_26 rfl d_Ga_namesake_51 ?_
        refine lv_aload_n hx hb d_Ga_namesake_54 rfl (lv_at hl 0 rfl) ?_
        refine g_get C0 hK il_Ga (hP.1.fr hf_3 (by omega)) rfl 0 (by decide) fl_Ga_12 rfl d_Ga_namesake_55 ?_
        refine g_V C0 (k_Hi_record l G (x + 42) X.2.2.1.1 X.2.2.1.2.1 X.2.2.1.2.2 (x + 1) X.1 (by omega)) co_Hi_record im_Hi_record se_Hi_record in_Hi gc_Hi_record ml_Ga_37 ⟨Nat.le_of_ble_eq_true rfl, Nat.le_of_ble_eq_true rfl⟩ hK (hP.2.2.2.1.fr hf_3 (by omega)).1 rfl ⟨(hP.2.2.2.1.fr hf_3 (by omega)), (hP.2.1.fr hf_3 (by omega))⟩ rfl hl.1 rfl (Nat.le_of_ble_eq_true rfl) d_Ga_namesake_58 ⟨Nat.le_of_ble_eq_true rfl, Nat.le_of_ble_eq_true rfl⟩ (g_wv (free := gRg x (x + 262)) hL (gRg.mono (by omega) (by omega)) (fun H_4 locs hL ⟨hR_5, hf_6⟩ => ?_))
        refine lv_aload_n hx hb d_Ga_namesake_61 rfl (lv_at hl 0 rfl) ?_
        refine g_get C0 hK il_Ga ((hP.1.fr hf_3 (by omega)).fr hf_6 (by omega)) rfl 0 (by decide) fl_Ga_12 rfl d_Ga_namesake_62 ?_
        refine lv_aload_n hx hb d_Ga_namesake_65 rfl (lv_at hl 0 rfl) ?_
        refine g_get C0 hK il_Ga ((hP.1.fr hf_3 (by omega)).fr hf_6 (by omega)) rfl 0 (by decide) fl_Ga_12 rfl d_Ga_namesake_66 ?_
        refine lv_aload_n hx hb d_Ga_namesake_69 rfl (lv_at hl 0 rfl) ?_
        refine g_get C0 hK il_Ga ((hP.1.fr hf_3 (by omega)).fr hf_6 (by omega)) rfl 1 (by decide) fl_Ga_19 rfl d_Ga_namesake_70 ?_
        refine g_V C0 (k_Pa_told l G (x + 37) X.2.1.1 ((pRs X.2.1.2.2 X.2.1.1).2)) co_Pa_told im_Pa_told se_Pa_told in_Pa gc_Pa_told ml_Ga_63 ⟨Nat.le_of_ble_eq_true rfl, Nat.le_of_ble_eq_true rfl⟩ hK (hR_2.1.fr hf_6 (by omega)) rfl ⟨(hR_2.1.fr hf_6 (by omega)), (hR_2.2.1.fr hf_6 (by omega)), (hR_2.2.2.fr hf_6 (by omega))⟩ rfl hl.1 rfl (Nat.le_of_ble_eq_true rfl) d_Ga_namesake_73 ⟨Nat.le_of_ble_eq_true rfl, Nat.le_of_ble_eq_true rfl⟩ (g_r rfl ?_)
        refine lv_iconst (v := nI 0) hx hb d_Ga_namesake_76 (by decide +kernel) ?_
        refine g_V C0 (k_Ro_at l G (x + 40) 27 ((pRs X.2.1.2.2 X.2.1.1).2) 0 (by omega)) co_Ro_at im_Ro_at se_Ro_at in_Ro gc_Ro_at ml_Ga_45 ⟨Nat.le_of_ble_eq_true rfl, Nat.le_of_ble_eq_true rfl⟩ hK (hR_2.2.2.fr hf_6 (by omega)).1 rfl (hR_2.2.2.fr hf_6 (by omega)) rfl hl.1 rfl (Nat.le_of_ble_eq_true rfl) d_Ga_namesake_77 ⟨Nat.le_of_ble_eq_true rfl, Nat.le_of_ble_eq_true rfl⟩ (g_r rfl ?_)
        refine g_V C0 (k_St_learn l G (x + 1) X.1 (rA ((pRs X.2.1.2.2 X.2.1.1).2) 0) (Nat.lt_trans (rA_lt (pRs_B _ _) (by decide)) (by decide)) hX.1) co_St_learn im_St_learn se_St_learn in_St gc_St_learn ml_Ga_78 ⟨Nat.le_of_ble_eq_true rfl, Nat.le_of_ble_eq_true rfl⟩ hK ((hP.2.1.fr hf_3 (by omega)).fr hf_6 (by omega)).1 rfl ((hP.2.1.fr hf_3 (by omega)).fr hf_6 (by omega)) rfl hl.1 rfl (Nat.le_of_ble_eq_true rfl) d_Ga_namesake_80 ⟨Nat.le_of_ble_eq_true rfl, Nat.le_of_ble_eq_true rfl⟩ (g_wi (free := gRg x (x + 262)) hL (gRg.mono (by omega) (by omega)) (fun H_7 locs hL ⟨hR_8, hf_9⟩ => ?_))
        refine g_V C0 (k_St_addNamesake l G (x + 1) (lrn X.1 (rA ((pRs X.2.1.2.2 X.2.1.1).2) 0)) (lrnN X.1 (rA ((pRs X.2.1.2.2 X.2.1.1).2) 0))) co_St_addNamesake im_St_addNamesake se_St_addNamesake in_St gc_St_addNamesake ml_Ga_140 ⟨Nat.le_of_ble_eq_true rfl, Nat.le_of_ble_eq_true rfl⟩ hK hR_8.1 rfl hR_8 rfl hl.1 rfl (Nat.le_of_ble_eq_true rfl) d_Ga_namesake_83 ⟨Nat.le_of_ble_eq_true rfl, Nat.le_of_ble_eq_true rfl⟩ (g_wi (free := gRg x (x + 262)) hL (gRg.mono (by omega) (by omega)) (fun H_10 locs hL ⟨hR_11, hf_12⟩ => ?_))
        refine lv_istore_n (lv' := [(1, .int (nI ((rAdd 10 ((lrn X.1 (rA ((pRs X.2.1.2.2 X.2.1.1).2) 0)).2 14) (lrnN X.1 (rA ((pRs X.2.1.2.2 X.2.1.1).2) 0))).1 - 1))), (0, .ref x)]) hx hb d_Ga_namesake_86 rfl hl (by decide) rfl (fun ls hl => ?_)
        refine lv_aload_n hx hb d_Ga_namesake_87 rfl (lv_at hl 1 rfl) ?_
        refine g_get C0 hK il_Ga ((((hP.1.fr hf_3 (by omega)).fr hf_6 (by omega)).fr hf_9 (by omega)).fr hf_12 (by omega)) rfl 1 (by decide) fl_Ga_19 rfl d_Ga_namesake_88 ?_
        refine g_V C0 (k_Pa_signs l G (x + 37) X.2.1.1 ((pRs X.2.1.2.2 X.2.1.1).2)) co_Pa_signs im_Pa_signs se_Pa_signs in_Pa gc_Pa_signs ml_Ga_85 ⟨Nat.le_of_ble_eq_true rfl, Nat.le_of_ble_eq_true rfl⟩ hK (((hR_2.1.fr hf_6 (by omega)).fr hf_9 (by omega)).fr hf_12 (by omega)) rfl ⟨(((hR_2.1.fr hf_6 (by omega)).fr hf_9 (by omega)).fr hf_12 (by omega)), (((hR_2.2.1.fr hf_6 (by omega)).fr hf_9 (by omega)).fr hf_12 (by omega)), (((hR_2.2.2.fr hf_6 (by omega)).fr hf_9 (by omega)).fr hf_12 (by omega))⟩ rfl hl.1 rfl (Nat.le_of_ble_eq_true rfl) d_Ga_namesake_91 ⟨Nat.le_of_ble_eq_true rfl, Nat.le_of_ble_eq_true rfl⟩ (g_r rfl ?_)
        refine g_V C0 (k_Ro_clear l G (x + 38) 80 X.2.1.1 ) co_Ro_clear im_Ro_clear se_Ro_clear in_Ro gc_Ro_clear ml_Ga_88 ⟨Nat.le_of_ble_eq_true rfl, Nat.le_of_ble_eq_true rfl⟩ hK (((hR_2.2.1.fr hf_6 (by omega)).fr hf_9 (by omega)).fr hf_12 (by omega)).1 rfl (((hR_2.2.1.fr hf_6 (by omega)).fr hf_9 (by omega)).fr hf_12 (by omega)) rfl hl.1 rfl (Nat.le_of_ble_eq_true rfl) d_Ga_namesake_94 ⟨Nat.le_of_ble_eq_true rfl, Nat.le_of_ble_eq_true rfl⟩ (g_wv (free := gRg x (x + 262)) hL (gRg.mono (by omega) (by omega)) (fun H_13 locs hL ⟨hR_14, hf_15⟩ => ?_))
        refine lv_iload_n hx hb d_Ga_namesake_97 rfl (lv_at hl 0 rfl) ?_
        refine g_iret C0 hlk hr d_Ga_namesake_98 hL ?_
        exact x_end (X' := ((adK (lrn X.1 (rA (xRs X).2 0)) (lrnN X.1 (rA (xRs X).2 0)), ((0, X.2.1.1.2), (pRs X.2.1.2.2 X.2.1.1).2), (hrN X.2.2.1.1 + 1, hrP X.2.2.1.1 X.2.2.1.2.1, hrZ X.2.2.1.1 X.2.2.1.2.2 X.1), X.2.2.2) : XS)) (by unfold cNmk; rw [c_7, if_pos rfl]; exact if_neg (by rintro (h | h); exact absurd h (Nat.not_le.mpr c_25); exact absurd h (Nat.not_lt.mpr c_44))) ⟨(((((hP.1.fr hf_3 (by omega)).fr hf_6 (by omega)).fr hf_9 (by omega)).fr hf_12 (by omega)).fr hf_15 (by omega)), (hR_11.fr hf_15 (by omega)), ⟨((((hR_2.1.fr hf_6 (by omega)).fr hf_9 (by omega)).fr hf_12 (by omega)).fr hf_15 (by omega)), hR_14, ((((hR_2.2.2.fr hf_6 (by omega)).fr hf_9 (by omega)).fr hf_12 (by omega)).fr hf_15 (by omega))⟩, (((hR_5.fr hf_9 (by omega)).fr hf_12 (by omega)).fr hf_15 (by omega)), (((((hP.2.2.2.2.1.fr hf_3 (by omega)).fr hf_6 (by omega)).fr hf_9 (by omega)).fr hf_12 (by omega)).fr hf_15 (by omega)), (((((hsv.fr hf_3 (by omega)).fr hf_6 (by omega)).fr hf_9 (by omega)).fr hf_12 (by omega)).fr hf_15 (by omega)), hP.2.2.2.2.2.2⟩ (((((gFr.rf.tr (hf_3.mono (by omega) (by omega))).tr (hf_6.mono (by omega) (by omega))).tr (hf_9.mono (by omega) (by omega))).tr (hf_12.mono (by omega) (by omega))).tr (hf_15.mono (by omega) (by omega)))
      · skip
        refine lv_bipush (v := -4) hx hb d_Ga_namesake_47 (by decide +kernel) ?_
        refine g_iret C0 hlk hr d_Ga_namesake_49 hL ?_
        exact x_end (X' := ((X.1, (X.2.1.1, (pRs X.2.1.2.2 X.2.1.1).2), (X.2.2.1.1, X.2.2.1.2.1, X.2.2.1.2.2), X.2.2.2) : XS)) (by unfold cNmk; rw [c_7, if_pos rfl]; exact if_pos (Or.inr c_44)) ⟨(hP.1.fr hf_3 (by omega)), (hP.2.1.fr hf_3 (by omega)), ⟨hR_2.1, hR_2.2.1, hR_2.2.2⟩, (hP.2.2.2.1.fr hf_3 (by omega)), (hP.2.2.2.2.1.fr hf_3 (by omega)), (hsv.fr hf_3 (by omega)), hP.2.2.2.2.2.2⟩ (gFr.rf.tr (hf_3.mono (by omega) (by omega)))
  · skip
    have c_7 : xOne X = false := c_7
    refine lv_bipush (v := -3) hx hb d_Ga_namesake_10 (by decide +kernel) ?_
    refine g_iret C0 hlk hr d_Ga_namesake_12 hL ?_
    exact x_end (X' := ((X.1, (X.2.1.1, (pRs X.2.1.2.2 X.2.1.1).2), (X.2.2.1.1, X.2.2.1.2.1, X.2.2.1.2.2), X.2.2.2) : XS)) (by unfold cNmk; rw [c_7]; rfl) ⟨(hP.1.fr hf_3 (by omega)), (hP.2.1.fr hf_3 (by omega)), ⟨hR_2.1, hR_2.2.1, hR_2.2.2⟩, (hP.2.2.2.1.fr hf_3 (by omega)), (hP.2.2.2.2.1.fr hf_3 (by omega)), (hsv.fr hf_3 (by omega)), hP.2.2.2.2.2.2⟩ (gFr.rf.tr (hf_3.mono (by omega) (by omega)))

set_option maxHeartbeats 4000000 in
set_option maxRecDepth 100000 in
theorem k_Ga_apologise (l : Launch) (G : gT) (x : Nat) (X : XS) (a : Int32) (hX : XOk X) : gM l y_Ga_apologise c_Ga_apologise 2 (some .int) 5 106 0 0 G [.ref x, .int a] (fun H => XAt G x X H) (wi (.int (cApo X a).1) (fun H H1 => XAt G x (cApo X a).2 H1 ∧ gFr x (x + 262) H H1)) (gRg x (x + 262)) := by
  refine g_enter "GaleNames" (by decide +kernel) rfl (Nat.le_of_ble_eq_true rfl) ?_
  intro p e s m args below meth c C0 hlk hr hnm hP hK ls hl
  have hx := C0.1
  have hb := C0.2.1
  have hl : lv_has ls 2 [(0, .ref x), (1, .int a)] := hl
  have hsv : SvAt G x X.2.2.2.1 X.2.2.2.2 s.heap := hP.2.2.2.2.2.1
  refine lv_aload_n hx hb d_Ga_apologise_0 rfl (lv_at hl 0 rfl) ?_
  refine g_get C0 hK il_Ga hP.1 rfl 0 (by decide) fl_Ga_12 rfl d_Ga_apologise_1 ?_
  refine g_getN C0 hK il_St hP.2.1.1 rfl 11 (by decide) fn_Ga_143 rfl d_Ga_apologise_4 ?_
  refine lv_iload_n hx hb d_Ga_apologise_7 rfl (lv_at hl 1 rfl) ?_
  refine g_V C0 (k_Ro_has l G (x + 21) 10 (X.1.2 15) a) co_Ro_has im_Ro_has se_Ro_has in_Ro gc_Ro_has ml_Ga_91 ⟨Nat.le_of_ble_eq_true rfl, Nat.le_of_ble_eq_true rfl⟩ hK (hP.2.1.2.2 15 (by decide)).1 rfl (hP.2.1.2.2 15 (by decide)) rfl hl.1 rfl (Nat.le_of_ble_eq_true rfl) d_Ga_apologise_8 ⟨Nat.le_of_ble_eq_true rfl, Nat.le_of_ble_eq_true rfl⟩ (g_r rfl ?_)
  refine g_zne (tgt := 16) C0 d_Ga_apologise_11 (by decide) (fun c_11 => ?_) (fun c_11 => ?_)
  · skip
    obtain ⟨i, hi, hi31, rfl⟩ := inR_t c_11
    refine lv_aload_n hx hb d_Ga_apologise_16 rfl (lv_at hl 0 rfl) ?_
    refine g_get C0 hK il_Ga hP.1 rfl 0 (by decide) fl_Ga_12 rfl d_Ga_apologise_17 ?_
    refine g_getN C0 hK il_St hP.2.1.1 rfl 11 (by decide) fn_Ga_143 rfl d_Ga_apologise_20 ?_
    refine lv_iload_n hx hb d_Ga_apologise_23 rfl (lv_at hl 1 rfl) ?_
    refine g_V C0 (k_Ro_at l G (x + 21) 10 (X.1.2 15) i (by omega)) co_Ro_at im_Ro_at se_Ro_at in_Ro gc_Ro_at ml_Ga_45 ⟨Nat.le_of_ble_eq_true rfl, Nat.le_of_ble_eq_true rfl⟩ hK (hP.2.1.2.2 15 (by decide)).1 rfl (hP.2.1.2.2 15 (by decide)) rfl hl.1 rfl (Nat.le_of_ble_eq_true rfl) d_Ga_apologise_24 ⟨Nat.le_of_ble_eq_true rfl, Nat.le_of_ble_eq_true rfl⟩ (g_r rfl ?_)
    refine lv_iconst (v := nI 1) hx hb d_Ga_apologise_27 (by decide +kernel) ?_
    refine g_cge (tgt := 34) C0 d_Ga_apologise_28 (by decide) (rA_lt (hX.1.b (by decide)) (by decide)) (by omega) (fun c_28 => ?_) (fun c_28 => ?_)
    · skip
      refine lv_aload_n hx hb d_Ga_apologise_34 rfl (lv_at hl 0 rfl) ?_
      refine g_get C0 hK il_Ga hP.1 rfl 2 (by decide) fl_Ga_26 rfl d_Ga_apologise_35 ?_
      refine lv_aload_n hx hb d_Ga_apologise_38 rfl (lv_at hl 0 rfl) ?_
      refine g_get C0 hK il_Ga hP.1 rfl 0 (by decide) fl_Ga_12 rfl d_Ga_apologise_39 ?_
      refine g_V C0 (k_Hi_record l G (x + 42) X.2.2.1.1 X.2.2.1.2.1 X.2.2.1.2.2 (x + 1) X.1 (by omega)) co_Hi_record im_Hi_record se_Hi_record in_Hi gc_Hi_record ml_Ga_37 ⟨Nat.le_of_ble_eq_true rfl, Nat.le_of_ble_eq_true rfl⟩ hK hP.2.2.2.1.1 rfl ⟨hP.2.2.2.1, hP.2.1⟩ rfl hl.1 rfl (Nat.le_of_ble_eq_true rfl) d_Ga_apologise_42 ⟨Nat.le_of_ble_eq_true rfl, Nat.le_of_ble_eq_true rfl⟩ (g_wv (free := gRg x (x + 262)) (t_nil (free := gRg x (x + 262))) (gRg.mono (by omega) (by omega)) (fun H_1 locs hL ⟨hR_2, hf_3⟩ => ?_))
      refine lv_aload_n hx hb d_Ga_apologise_45 rfl (lv_at hl 0 rfl) ?_
      refine g_get C0 hK il_Ga (hP.1.fr hf_3 (by omega)) rfl 0 (by decide) fl_Ga_12 rfl d_Ga_apologise_46 ?_
      refine g_getN C0 hK il_St (hP.2.1.fr hf_3 (by omega)).1 rfl 11 (by decide) fn_Ga_143 rfl d_Ga_apologise_49 ?_
      refine lv_iload_n hx hb d_Ga_apologise_52 rfl (lv_at hl 1 rfl) ?_
      refine lv_iconst (v := -1) hx hb d_Ga_apologise_53 (by decide +kernel) ?_
      refine g_V C0 (k_Ro_raise l G (x + 21) 10 (X.1.2 15) i (-1) (rA (X.1.2 15) i - 1) (by omega) (fun _ => gI_m1 c_28)) co_Ro_raise im_Ro_raise se_Ro_raise in_Ro gc_Ro_raise ml_Ga_114 ⟨Nat.le_of_ble_eq_true rfl, Nat.le_of_ble_eq_true rfl⟩ hK ((hP.2.1.fr hf_3 (by omega)).2.2 15 (by decide)).1 rfl ((hP.2.1.fr hf_3 (by omega)).2.2 15 (by decide)) rfl hl.1 rfl (Nat.le_of_ble_eq_true rfl) d_Ga_apologise_54 ⟨Nat.le_of_ble_eq_true rfl, Nat.le_of_ble_eq_true rfl⟩ (g_wv (free := gRg x (x + 262)) hL (gRg.mono (by omega) (by omega)) (fun H_4 locs hL ⟨hR_5, hf_6⟩ => ?_))
      have hS_5 := (hP.2.1.fr hf_3 (by omega)).up 15 (by decide) hR_5 hf_6
      refine lv_aload_n hx hb d_Ga_apologise_57 rfl (lv_at hl 0 rfl) ?_
      refine g_get C0 hK il_Ga ((hP.1.fr hf_3 (by omega)).fr hf_6 (by omega)) rfl 0 (by decide) fl_Ga_12 rfl d_Ga_apologise_58 ?_
      refine g_getN C0 hK il_St hS_5.1 rfl 12 (by decide) fn_Ga_146 rfl d_Ga_apologise_61 ?_
      refine lv_iload_n hx hb d_Ga_apologise_64 rfl (lv_at hl 1 rfl) ?_
      refine lv_iconst (v := nI 1) hx hb d_Ga_apologise_65 (by decide +kernel) ?_
      refine g_V C0 (k_Ro_raise l G (x + 23) 10 (X.1.2 16) i (nI 1) (rA (X.1.2 16) i + 1) (by omega) (fun _ => nI_add _ _)) co_Ro_raise im_Ro_raise se_Ro_raise in_Ro gc_Ro_raise ml_Ga_114 ⟨Nat.le_of_ble_eq_true rfl, Nat.le_of_ble_eq_true rfl⟩ hK (hS_5.2.2 16 (by decide)).1 rfl (hS_5.2.2 16 (by decide)) rfl hl.1 rfl (Nat.le_of_ble_eq_true rfl) d_Ga_apologise_66 ⟨Nat.le_of_ble_eq_true rfl, Nat.le_of_ble_eq_true rfl⟩ (g_wv (free := gRg x (x + 262)) hL (gRg.mono (by omega) (by omega)) (fun H_7 locs hL ⟨hR_8, hf_9⟩ => ?_))
      have hS_8 := hS_5.up 16 (by decide) hR_8 hf_9
      refine lv_aload_n hx hb d_Ga_apologise_69 rfl (lv_at hl 0 rfl) ?_
      refine g_get C0 hK il_Ga (((hP.1.fr hf_3 (by omega)).fr hf_6 (by omega)).fr hf_9 (by omega)) rfl 0 (by decide) fl_Ga_12 rfl d_Ga_apologise_70 ?_
      refine g_getN C0 hK il_St hS_8.1 rfl 11 (by decide) fn_Ga_143 rfl d_Ga_apologise_73 ?_
      refine lv_iload_n hx hb d_Ga_apologise_76 rfl (lv_at hl 1 rfl) ?_
      refine g_V C0 (k_Ro_at l G (x + 21) 10 (rCh (X.1.2 15) i (rA (X.1.2 15) i - 1)) i (by omega)) co_Ro_at im_Ro_at se_Ro_at in_Ro gc_Ro_at ml_Ga_45 ⟨Nat.le_of_ble_eq_true rfl, Nat.le_of_ble_eq_true rfl⟩ hK (hS_8.2.2 15 (by decide)).1 rfl (hS_8.2.2 15 (by decide)) rfl hl.1 rfl (Nat.le_of_ble_eq_true rfl) d_Ga_apologise_77 ⟨Nat.le_of_ble_eq_true rfl, Nat.le_of_ble_eq_true rfl⟩ (g_r rfl ?_)
      refine g_iret C0 hlk hr d_Ga_apologise_80 hL ?_
      exact x_end (X' := ((apS X.1 i, (X.2.1.1, X.2.1.2), (hrN X.2.2.1.1 + 1, hrP X.2.2.1.1 X.2.2.1.2.1, hrZ X.2.2.1.1 X.2.2.1.2.2 X.1), X.2.2.2) : XS)) (by unfold cApo; rw [c_11, if_pos rfl, nI_clamp hi31]; exact if_neg (Nat.not_lt.mpr c_28)) ⟨(((hP.1.fr hf_3 (by omega)).fr hf_6 (by omega)).fr hf_9 (by omega)), hS_8, ⟨(((hP.2.2.1.1.fr hf_3 (by omega)).fr hf_6 (by omega)).fr hf_9 (by omega)), (((hP.2.2.1.2.1.fr hf_3 (by omega)).fr hf_6 (by omega)).fr hf_9 (by omega)), (((hP.2.2.1.2.2.fr hf_3 (by omega)).fr hf_6 (by omega)).fr hf_9 (by omega))⟩, ((hR_2.fr hf_6 (by omega)).fr hf_9 (by omega)), (((hP.2.2.2.2.1.fr hf_3 (by omega)).fr hf_6 (by omega)).fr hf_9 (by omega)), (((hsv.fr hf_3 (by omega)).fr hf_6 (by omega)).fr hf_9 (by omega)), hP.2.2.2.2.2.2⟩ (((gFr.rf.tr (hf_3.mono (by omega) (by omega))).tr (hf_6.mono (by omega) (by omega))).tr (hf_9.mono (by omega) (by omega)))
    · skip
      refine lv_bipush (v := -5) hx hb d_Ga_apologise_31 (by decide +kernel) ?_
      refine g_iret C0 hlk hr d_Ga_apologise_33 (t_nil (free := gRg x (x + 262))) ?_
      exact x_end (X' := ((X.1, (X.2.1.1, X.2.1.2), (X.2.2.1.1, X.2.2.1.2.1, X.2.2.1.2.2), X.2.2.2) : XS)) (by unfold cApo; rw [c_11, if_pos rfl, nI_clamp hi31]; exact if_pos c_28) ⟨hP.1, hP.2.1, ⟨hP.2.2.1.1, hP.2.2.1.2.1, hP.2.2.1.2.2⟩, hP.2.2.2.1, hP.2.2.2.2.1, hsv, hP.2.2.2.2.2.2⟩ gFr.rf
  · skip
    refine lv_iconst (v := -1) hx hb d_Ga_apologise_14 (by decide +kernel) ?_
    refine g_iret C0 hlk hr d_Ga_apologise_15 (t_nil (free := gRg x (x + 262))) ?_
    exact x_end (X' := ((X.1, (X.2.1.1, X.2.1.2), (X.2.2.1.1, X.2.2.1.2.1, X.2.2.1.2.2), X.2.2.2) : XS)) (by unfold cApo; rw [c_11]; rfl) ⟨hP.1, hP.2.1, ⟨hP.2.2.1.1, hP.2.2.1.2.1, hP.2.2.1.2.2⟩, hP.2.2.2.1, hP.2.2.2.2.1, hsv, hP.2.2.2.2.2.2⟩ gFr.rf
