set_option maxHeartbeats 4000000 in
set_option maxRecDepth 100000 in
theorem k_Ga_wipe (l : Launch) (G : gT) (x : Nat) (X : XS)  (hX : XOk X) : gM l y_Ga_wipe c_Ga_wipe 2 (some .int) 1 20 0 0 G [.ref x] (fun H => XAt G x X H) (wi (.int (cWipe X).1) (fun H H1 => XAt G x (cWipe X).2 H1 ∧ gFr x (x + 262) H H1)) (gRg x (x + 262)) := by
  refine g_enter "GaleNames" (by decide +kernel) rfl (Nat.le_of_ble_eq_true rfl) ?_
  intro p e s m args below meth c C0 hlk hr hnm hP hK ls hl
  have hx := C0.1
  have hb := C0.2.1
  have hl : lv_has ls 2 [(0, .ref x)] := hl
  have hsv : SvAt G x X.2.2.2.1 X.2.2.2.2 s.heap := hP.2.2.2.2.2.1
  refine lv_aload_n hx hb d_Ga_wipe_0 rfl (lv_at hl 0 rfl) ?_
  refine g_get C0 hK il_Ga hP.1 rfl 1 (by decide) fl_Ga_19 rfl d_Ga_wipe_1 ?_
  refine g_V C0 (k_Pa_signs l G (x + 37) X.2.1.1 X.2.1.2) co_Pa_signs im_Pa_signs se_Pa_signs in_Pa gc_Pa_signs ml_Ga_85 ⟨Nat.le_of_ble_eq_true rfl, Nat.le_of_ble_eq_true rfl⟩ hK hP.2.2.1.1 rfl ⟨hP.2.2.1.1, hP.2.2.1.2.1, hP.2.2.1.2.2⟩ rfl hl.1 rfl (Nat.le_of_ble_eq_true rfl) d_Ga_wipe_4 ⟨Nat.le_of_ble_eq_true rfl, Nat.le_of_ble_eq_true rfl⟩ (g_r rfl ?_)
  refine g_V C0 (k_Ro_size l G (x + 38) 80 X.2.1.1 ) co_Ro_size im_Ro_size se_Ro_size in_Ro gc_Ro_size ml_Ga_71 ⟨Nat.le_of_ble_eq_true rfl, Nat.le_of_ble_eq_true rfl⟩ hK hP.2.2.1.2.1.1 rfl hP.2.2.1.2.1 rfl hl.1 rfl (Nat.le_of_ble_eq_true rfl) d_Ga_wipe_7 ⟨Nat.le_of_ble_eq_true rfl, Nat.le_of_ble_eq_true rfl⟩ (g_r rfl ?_)
  refine lv_istore_n (lv' := [(1, .int (nI X.2.1.1.1)), (0, .ref x)]) hx hb d_Ga_wipe_10 rfl hl (by decide) rfl (fun ls hl => ?_)
  refine lv_aload_n hx hb d_Ga_wipe_11 rfl (lv_at hl 1 rfl) ?_
  refine g_get C0 hK il_Ga hP.1 rfl 1 (by decide) fl_Ga_19 rfl d_Ga_wipe_12 ?_
  refine g_V C0 (k_Pa_signs l G (x + 37) X.2.1.1 X.2.1.2) co_Pa_signs im_Pa_signs se_Pa_signs in_Pa gc_Pa_signs ml_Ga_85 ⟨Nat.le_of_ble_eq_true rfl, Nat.le_of_ble_eq_true rfl⟩ hK hP.2.2.1.1 rfl ⟨hP.2.2.1.1, hP.2.2.1.2.1, hP.2.2.1.2.2⟩ rfl hl.1 rfl (Nat.le_of_ble_eq_true rfl) d_Ga_wipe_15 ⟨Nat.le_of_ble_eq_true rfl, Nat.le_of_ble_eq_true rfl⟩ (g_r rfl ?_)
  refine g_V C0 (k_Ro_clear l G (x + 38) 80 X.2.1.1 ) co_Ro_clear im_Ro_clear se_Ro_clear in_Ro gc_Ro_clear ml_Ga_88 ⟨Nat.le_of_ble_eq_true rfl, Nat.le_of_ble_eq_true rfl⟩ hK hP.2.2.1.2.1.1 rfl hP.2.2.1.2.1 rfl hl.1 rfl (Nat.le_of_ble_eq_true rfl) d_Ga_wipe_18 ⟨Nat.le_of_ble_eq_true rfl, Nat.le_of_ble_eq_true rfl⟩ (g_wv (free := gRg x (x + 262)) (t_nil (free := gRg x (x + 262))) (gRg.mono (by omega) (by omega)) (fun H_1 locs hL ⟨hR_2, hf_3⟩ => ?_))
  refine lv_iload_n hx hb d_Ga_wipe_21 rfl (lv_at hl 0 rfl) ?_
  refine g_iret C0 hlk hr d_Ga_wipe_22 hL ?_
  exact x_end (X' := ((X.1, ((0, X.2.1.1.2), X.2.1.2), (X.2.2.1.1, X.2.2.1.2.1, X.2.2.1.2.2), X.2.2.2) : XS)) (rfl) ⟨(hP.1.fr hf_3 (by omega)), (hP.2.1.fr hf_3 (by omega)), ⟨(hP.2.2.1.1.fr hf_3 (by omega)), hR_2, (hP.2.2.1.2.2.fr hf_3 (by omega))⟩, (hP.2.2.2.1.fr hf_3 (by omega)), (hP.2.2.2.2.1.fr hf_3 (by omega)), (hsv.fr hf_3 (by omega)), hP.2.2.2.2.2.2⟩ (gFr.rf.tr (hf_3.mono (by omega) (by omega)))

set_option maxHeartbeats 4000000 in
set_option maxRecDepth 100000 in
theorem k_Ga_fault (l : Launch) (G : gT) (x : Nat) (X : XS)  (hX : XOk X) : gM l y_Ga_fault c_Ga_fault 1 (some .int) 3 66 0 0 G [.ref x] (fun H => XAt G x X H) (wi (.int (cFault X).1) (fun H H1 => XAt G x (cFault X).2 H1 ∧ gFr x (x + 262) H H1)) (gRg x (x + 262)) := by
  refine g_enter "GaleNames" (by decide +kernel) rfl (Nat.le_of_ble_eq_true rfl) ?_
  intro p e s m args below meth c C0 hlk hr hnm hP hK ls hl
  have hx := C0.1
  have hb := C0.2.1
  have hl : lv_has ls 1 [(0, .ref x)] := hl
  have hsv : SvAt G x X.2.2.2.1 X.2.2.2.2 s.heap := hP.2.2.2.2.2.1
  refine lv_aload_n hx hb d_Ga_fault_0 rfl (lv_at hl 0 rfl) ?_
  refine g_get C0 hK il_Ga hP.1 rfl 1 (by decide) fl_Ga_19 rfl d_Ga_fault_1 ?_
  refine g_V C0 (k_Pa_read l G (x + 37) X.2.1.1 X.2.1.2 hX.2.1) co_Pa_read im_Pa_read se_Pa_read in_Pa gc_Pa_read ml_Ga_59 ⟨Nat.le_of_ble_eq_true rfl, Nat.le_of_ble_eq_true rfl⟩ hK hP.2.2.1.1 rfl ⟨hP.2.2.1.1, hP.2.2.1.2.1, hP.2.2.1.2.2⟩ rfl hl.1 rfl (Nat.le_of_ble_eq_true rfl) d_Ga_fault_4 ⟨Nat.le_of_ble_eq_true rfl, Nat.le_of_ble_eq_true rfl⟩ (g_wi (free := gRg x (x + 262)) (t_nil (free := gRg x (x + 262))) (gRg.mono (by omega) (by omega)) (fun H_1 locs hL ⟨hR_2, hf_3⟩ => ?_))
  refine g_iret C0 hlk hr d_Ga_fault_7 hL ?_
  exact x_end (X' := ((X.1, (X.2.1.1, (pRs X.2.1.2.2 X.2.1.1).2), (X.2.2.1.1, X.2.2.1.2.1, X.2.2.1.2.2), X.2.2.2) : XS)) (rfl) ⟨(hP.1.fr hf_3 (by omega)), (hP.2.1.fr hf_3 (by omega)), ⟨hR_2.1, hR_2.2.1, hR_2.2.2⟩, (hP.2.2.2.1.fr hf_3 (by omega)), (hP.2.2.2.2.1.fr hf_3 (by omega)), (hsv.fr hf_3 (by omega)), hP.2.2.2.2.2.2⟩ (gFr.rf.tr (hf_3.mono (by omega) (by omega)))

set_option maxHeartbeats 4000000 in
set_option maxRecDepth 100000 in
theorem k_Ga_find (l : Launch) (G : gT) (x : Nat) (X : XS)  (hX : XOk X) : gM l y_Ga_find c_Ga_find 2 (some .int) 4 86 0 0 G [.ref x] (fun H => XAt G x X H) (wi (.int (cFind X).1) (fun H H1 => XAt G x (cFind X).2 H1 ∧ gFr x (x + 262) H H1)) (gRg x (x + 262)) := by
  refine g_enter "GaleNames" (by decide +kernel) rfl (Nat.le_of_ble_eq_true rfl) ?_
  intro p e s m args below meth c C0 hlk hr hnm hP hK ls hl
  have hx := C0.1
  have hb := C0.2.1
  have hl : lv_has ls 2 [(0, .ref x)] := hl
  have hsv : SvAt G x X.2.2.2.1 X.2.2.2.2 s.heap := hP.2.2.2.2.2.1
  have hk := (hP.2.1.2.2 1 (by decide)).lt
  refine lv_aload_n hx hb d_Ga_find_0 rfl (lv_at hl 0 rfl) ?_
  refine g_get C0 hK il_Ga hP.1 rfl 1 (by decide) fl_Ga_19 rfl d_Ga_find_1 ?_
  refine g_V C0 (k_Pa_tellsOneName l G (x + 37) X.2.1.1 X.2.1.2 hX.2.1) co_Pa_tellsOneName im_Pa_tellsOneName se_Pa_tellsOneName in_Pa gc_Pa_tellsOneName ml_Ga_133 ⟨Nat.le_of_ble_eq_true rfl, Nat.le_of_ble_eq_true rfl⟩ hK hP.2.2.1.1 rfl ⟨hP.2.2.1.1, hP.2.2.1.2.1, hP.2.2.1.2.2⟩ rfl hl.1 rfl (Nat.le_of_ble_eq_true rfl) d_Ga_find_4 ⟨Nat.le_of_ble_eq_true rfl, Nat.le_of_ble_eq_true rfl⟩ (g_wi (free := gRg x (x + 262)) (t_nil (free := gRg x (x + 262))) (gRg.mono (by omega) (by omega)) (fun H_1 locs hL ⟨hR_2, hf_3⟩ => ?_))
  refine g_zne (tgt := 13) C0 d_Ga_find_7 (by decide) (fun c_7 => ?_) (fun c_7 => ?_)
  · skip
    have c_7 : xOne X = true := c_7
    refine lv_aload_n hx hb d_Ga_find_13 rfl (lv_at hl 0 rfl) ?_
    refine g_get C0 hK il_Ga (hP.1.fr hf_3 (by omega)) rfl 0 (by decide) fl_Ga_12 rfl d_Ga_find_14 ?_
    refine g_getN C0 hK il_St (hP.2.1.fr hf_3 (by omega)).1 rfl 2 (by decide) fn_Ga_149 rfl d_Ga_find_17 ?_
    refine lv_aload_n hx hb d_Ga_find_20 rfl (lv_at hl 0 rfl) ?_
    refine g_get C0 hK il_Ga (hP.1.fr hf_3 (by omega)) rfl 1 (by decide) fl_Ga_19 rfl d_Ga_find_21 ?_
    refine g_V C0 (k_Pa_told l G (x + 37) X.2.1.1 ((pRs X.2.1.2.2 X.2.1.1).2)) co_Pa_told im_Pa_told se_Pa_told in_Pa gc_Pa_told ml_Ga_63 ⟨Nat.le_of_ble_eq_true rfl, Nat.le_of_ble_eq_true rfl⟩ hK hR_2.1 rfl ⟨hR_2.1, hR_2.2.1, hR_2.2.2⟩ rfl hl.1 rfl (Nat.le_of_ble_eq_true rfl) d_Ga_find_24 ⟨Nat.le_of_ble_eq_true rfl, Nat.le_of_ble_eq_true rfl⟩ (g_r rfl ?_)
    refine lv_iconst (v := nI 0) hx hb d_Ga_find_27 (by decide +kernel) ?_
    refine g_V C0 (k_Ro_at l G (x + 40) 27 ((pRs X.2.1.2.2 X.2.1.1).2) 0 (by omega)) co_Ro_at im_Ro_at se_Ro_at in_Ro gc_Ro_at ml_Ga_45 ⟨Nat.le_of_ble_eq_true rfl, Nat.le_of_ble_eq_true rfl⟩ hK hR_2.2.2.1 rfl hR_2.2.2 rfl hl.1 rfl (Nat.le_of_ble_eq_true rfl) d_Ga_find_28 ⟨Nat.le_of_ble_eq_true rfl, Nat.le_of_ble_eq_true rfl⟩ (g_r rfl ?_)
    refine g_V C0 (k_Ro_placeOf l G (x + 4) 40 (X.1.2 1) (rA ((pRs X.2.1.2.2 X.2.1.1).2) 0) (Nat.lt_trans (rA_lt (pRs_B _ _) (by decide)) (by decide)) (hX.1.b (by decide))) co_Ro_placeOf im_Ro_placeOf se_Ro_placeOf in_Ro gc_Ro_placeOf ml_Ga_197 ⟨Nat.le_of_ble_eq_true rfl, Nat.le_of_ble_eq_true rfl⟩ hK ((hP.2.1.fr hf_3 (by omega)).2.2 1 (by decide)).1 rfl ((hP.2.1.fr hf_3 (by omega)).2.2 1 (by decide)) rfl hl.1 rfl (Nat.le_of_ble_eq_true rfl) d_Ga_find_31 ⟨Nat.le_of_ble_eq_true rfl, Nat.le_of_ble_eq_true rfl⟩ (g_r rfl ?_)
    refine lv_istore_n (lv' := [(1, .int (oI (-1) (rPl (X.1.2 1) (rA ((pRs X.2.1.2.2 X.2.1.1).2) 0)))), (0, .ref x)]) hx hb d_Ga_find_34 rfl hl (by decide) rfl (fun ls hl => ?_)
    refine lv_iload_n hx hb d_Ga_find_35 rfl (lv_at hl 0 rfl) ?_
    refine lv_iconst (v := -1) hx hb d_Ga_find_36 (by decide +kernel) ?_
    refine lv_icmp_ne (tgt := 45) hx hb d_Ga_find_37 (by decide) (fun c_37 => ?_) (fun c_37 => ?_)
    · skip
      obtain ⟨i, hi⟩ := oI_some c_37
      have hi : rPl (X.1.2 1) (rA (xRs X).2 0) = some i := hi
      refine lv_iload_n hx hb d_Ga_find_45 rfl (lv_at hl 0 rfl) ?_
      refine g_iret C0 hlk hr d_Ga_find_46 hL ?_
      exact x_end (X' := ((X.1, (X.2.1.1, (pRs X.2.1.2.2 X.2.1.1).2), (X.2.2.1.1, X.2.2.1.2.1, X.2.2.1.2.2), X.2.2.2) : XS)) (by unfold cFind; rw [c_7, if_pos rfl, hi]; rfl) ⟨(hP.1.fr hf_3 (by omega)), (hP.2.1.fr hf_3 (by omega)), ⟨hR_2.1, hR_2.2.1, hR_2.2.2⟩, (hP.2.2.2.1.fr hf_3 (by omega)), (hP.2.2.2.2.1.fr hf_3 (by omega)), (hsv.fr hf_3 (by omega)), hP.2.2.2.2.2.2⟩ (gFr.rf.tr (hf_3.mono (by omega) (by omega)))
    · skip
      have c_37 : rPl (X.1.2 1) (rA (xRs X).2 0) = none := (oI_m (fun i h => Nat.lt_trans (fF_s h).1 hk)).mp c_37
      refine lv_bipush (v := -6) hx hb d_Ga_find_40 (by decide +kernel) ?_
      refine lv_goto (tgt := 46) hx hb d_Ga_find_42 (by decide) ?_
      refine g_iret C0 hlk hr d_Ga_find_46 hL ?_
      exact x_end (X' := ((X.1, (X.2.1.1, (pRs X.2.1.2.2 X.2.1.1).2), (X.2.2.1.1, X.2.2.1.2.1, X.2.2.1.2.2), X.2.2.2) : XS)) (by unfold cFind; rw [c_7, if_pos rfl, c_37]; rfl) ⟨(hP.1.fr hf_3 (by omega)), (hP.2.1.fr hf_3 (by omega)), ⟨hR_2.1, hR_2.2.1, hR_2.2.2⟩, (hP.2.2.2.1.fr hf_3 (by omega)), (hP.2.2.2.2.1.fr hf_3 (by omega)), (hsv.fr hf_3 (by omega)), hP.2.2.2.2.2.2⟩ (gFr.rf.tr (hf_3.mono (by omega) (by omega)))
  · skip
    have c_7 : xOne X = false := c_7
    refine lv_bipush (v := -3) hx hb d_Ga_find_10 (by decide +kernel) ?_
    refine g_iret C0 hlk hr d_Ga_find_12 hL ?_
    exact x_end (X' := ((X.1, (X.2.1.1, (pRs X.2.1.2.2 X.2.1.1).2), (X.2.2.1.1, X.2.2.1.2.1, X.2.2.1.2.2), X.2.2.2) : XS)) (by unfold cFind; rw [c_7]; rfl) ⟨(hP.1.fr hf_3 (by omega)), (hP.2.1.fr hf_3 (by omega)), ⟨hR_2.1, hR_2.2.1, hR_2.2.2⟩, (hP.2.2.2.1.fr hf_3 (by omega)), (hP.2.2.2.2.1.fr hf_3 (by omega)), (hsv.fr hf_3 (by omega)), hP.2.2.2.2.2.2⟩ (gFr.rf.tr (hf_3.mono (by omega) (by omega)))

set_option maxHeartbeats 4000000 in
set_option maxRecDepth 100000 in
theorem k_Ga_beginning (l : Launch) (G : gT) (x : Nat) (X : XS)  (hX : XOk X) : gM l y_Ga_beginning c_Ga_beginning 1 (some .int) 4 86 0 0 G [.ref x] (fun H => XAt G x X H) (wi (.int (cBeg X).1) (fun H H1 => XAt G x (cBeg X).2 H1 ∧ gFr x (x + 262) H H1)) (gRg x (x + 262)) := by
  refine g_enter "GaleNames" (by decide +kernel) rfl (Nat.le_of_ble_eq_true rfl) ?_
  intro p e s m args below meth c C0 hlk hr hnm hP hK ls hl
  have hx := C0.1
  have hb := C0.2.1
  have hl : lv_has ls 1 [(0, .ref x)] := hl
  have hsv : SvAt G x X.2.2.2.1 X.2.2.2.2 s.heap := hP.2.2.2.2.2.1
  refine lv_aload_n hx hb d_Ga_beginning_0 rfl (lv_at hl 0 rfl) ?_
  refine g_get C0 hK il_Ga hP.1 rfl 1 (by decide) fl_Ga_19 rfl d_Ga_beginning_1 ?_
  refine g_V C0 (k_Pa_tellsOneName l G (x + 37) X.2.1.1 X.2.1.2 hX.2.1) co_Pa_tellsOneName im_Pa_tellsOneName se_Pa_tellsOneName in_Pa gc_Pa_tellsOneName ml_Ga_133 ⟨Nat.le_of_ble_eq_true rfl, Nat.le_of_ble_eq_true rfl⟩ hK hP.2.2.1.1 rfl ⟨hP.2.2.1.1, hP.2.2.1.2.1, hP.2.2.1.2.2⟩ rfl hl.1 rfl (Nat.le_of_ble_eq_true rfl) d_Ga_beginning_4 ⟨Nat.le_of_ble_eq_true rfl, Nat.le_of_ble_eq_true rfl⟩ (g_wi (free := gRg x (x + 262)) (t_nil (free := gRg x (x + 262))) (gRg.mono (by omega) (by omega)) (fun H_1 locs hL ⟨hR_2, hf_3⟩ => ?_))
  refine g_zeq (tgt := 31) C0 d_Ga_beginning_7 (by decide) (fun c_7 => ?_) (fun c_7 => ?_)
  · skip
    have c_7 : xOne X = false := c_7
    refine lv_bipush (v := -3) hx hb d_Ga_beginning_31 (by decide +kernel) ?_
    refine g_iret C0 hlk hr d_Ga_beginning_33 hL ?_
    exact x_end (X' := ((X.1, (X.2.1.1, (pRs X.2.1.2.2 X.2.1.1).2), (X.2.2.1.1, X.2.2.1.2.1, X.2.2.1.2.2), X.2.2.2) : XS)) (by unfold cBeg; rw [c_7]; rfl) ⟨(hP.1.fr hf_3 (by omega)), (hP.2.1.fr hf_3 (by omega)), ⟨hR_2.1, hR_2.2.1, hR_2.2.2⟩, (hP.2.2.2.1.fr hf_3 (by omega)), (hP.2.2.2.2.1.fr hf_3 (by omega)), (hsv.fr hf_3 (by omega)), hP.2.2.2.2.2.2⟩ (gFr.rf.tr (hf_3.mono (by omega) (by omega)))
  · skip
    have c_7 : xOne X = true := c_7
    refine lv_aload_n hx hb d_Ga_beginning_10 rfl (lv_at hl 0 rfl) ?_
    refine g_get C0 hK il_Ga (hP.1.fr hf_3 (by omega)) rfl 0 (by decide) fl_Ga_12 rfl d_Ga_beginning_11 ?_
    refine lv_aload_n hx hb d_Ga_beginning_14 rfl (lv_at hl 0 rfl) ?_
    refine g_get C0 hK il_Ga (hP.1.fr hf_3 (by omega)) rfl 1 (by decide) fl_Ga_19 rfl d_Ga_beginning_15 ?_
    refine g_V C0 (k_Pa_told l G (x + 37) X.2.1.1 ((pRs X.2.1.2.2 X.2.1.1).2)) co_Pa_told im_Pa_told se_Pa_told in_Pa gc_Pa_told ml_Ga_63 ⟨Nat.le_of_ble_eq_true rfl, Nat.le_of_ble_eq_true rfl⟩ hK hR_2.1 rfl ⟨hR_2.1, hR_2.2.1, hR_2.2.2⟩ rfl hl.1 rfl (Nat.le_of_ble_eq_true rfl) d_Ga_beginning_18 ⟨Nat.le_of_ble_eq_true rfl, Nat.le_of_ble_eq_true rfl⟩ (g_r rfl ?_)
    refine lv_iconst (v := nI 0) hx hb d_Ga_beginning_21 (by decide +kernel) ?_
    refine g_V C0 (k_Ro_at l G (x + 40) 27 ((pRs X.2.1.2.2 X.2.1.1).2) 0 (by omega)) co_Ro_at im_Ro_at se_Ro_at in_Ro gc_Ro_at ml_Ga_45 ⟨Nat.le_of_ble_eq_true rfl, Nat.le_of_ble_eq_true rfl⟩ hK hR_2.2.2.1 rfl hR_2.2.2 rfl hl.1 rfl (Nat.le_of_ble_eq_true rfl) d_Ga_beginning_22 ⟨Nat.le_of_ble_eq_true rfl, Nat.le_of_ble_eq_true rfl⟩ (g_r rfl ?_)
    refine g_V C0 (k_St_beginningWith l G (x + 1) X.1 (rA ((pRs X.2.1.2.2 X.2.1.1).2) 0) (Nat.lt_trans (rA_lt (pRs_B _ _) (by decide)) (by decide)) hX.1) co_St_beginningWith im_St_beginningWith se_St_beginningWith in_St gc_St_beginningWith ml_Ga_200 ⟨Nat.le_of_ble_eq_true rfl, Nat.le_of_ble_eq_true rfl⟩ hK (hP.2.1.fr hf_3 (by omega)).1 rfl (hP.2.1.fr hf_3 (by omega)) rfl hl.1 rfl (Nat.le_of_ble_eq_true rfl) d_Ga_beginning_25 ⟨Nat.le_of_ble_eq_true rfl, Nat.le_of_ble_eq_true rfl⟩ (g_r rfl ?_)
    refine lv_goto (tgt := 33) hx hb d_Ga_beginning_28 (by decide) ?_
    refine g_iret C0 hlk hr d_Ga_beginning_33 hL ?_
    exact x_end (X' := ((X.1, (X.2.1.1, (pRs X.2.1.2.2 X.2.1.1).2), (X.2.2.1.1, X.2.2.1.2.1, X.2.2.1.2.2), X.2.2.2) : XS)) (by unfold cBeg; rw [c_7]; rfl) ⟨(hP.1.fr hf_3 (by omega)), (hP.2.1.fr hf_3 (by omega)), ⟨hR_2.1, hR_2.2.1, hR_2.2.2⟩, (hP.2.2.2.1.fr hf_3 (by omega)), (hP.2.2.2.2.1.fr hf_3 (by omega)), (hsv.fr hf_3 (by omega)), hP.2.2.2.2.2.2⟩ (gFr.rf.tr (hf_3.mono (by omega) (by omega)))

set_option maxHeartbeats 4000000 in
set_option maxRecDepth 100000 in
theorem k_Ga_write (l : Launch) (G : gT) (x : Nat) (X : XS) (a k : Int32) (hX : XOk X) : gM l y_Ga_write c_Ga_write 5 (some .int) 4 85 0 0 G [.ref x, .int a, .int k] (fun H => XAt G x X H) (wi (.int (cWrite X a k).1) (fun H H1 => XAt G x (cWrite X a k).2 H1 ∧ gFr x (x + 262) H H1)) (gRg x (x + 262)) := by
  refine g_enter "GaleNames" (by decide +kernel) rfl (Nat.le_of_ble_eq_true rfl) ?_
  intro p e s m args below meth c C0 hlk hr hnm hP hK ls hl
  have hx := C0.1
  have hb := C0.2.1
  have hl : lv_has ls 5 [(0, .ref x), (1, .int a), (2, .int k)] := hl
  have hsv : SvAt G x X.2.2.2.1 X.2.2.2.2 s.heap := hP.2.2.2.2.2.1
  rcases hlo : loA (x + 1) a k with _ | z0
  · skip
    refine lv_aload_n hx hb d_Ga_write_0 rfl (lv_at hl 0 rfl) ?_
    refine g_get C0 hK il_Ga hP.1 rfl 0 (by decide) fl_Ga_12 rfl d_Ga_write_1 ?_
    refine lv_iload_n hx hb d_Ga_write_4 rfl (lv_at hl 1 rfl) ?_
    refine lv_iload_n hx hb d_Ga_write_5 rfl (lv_at hl 2 rfl) ?_
    refine g_V C0 (k_St_listOfX l G (x + 1) X.1 a k hlo) co_St_listOf im_St_listOf se_St_listOf in_St gc_St_listOf ml_Ga_55 ⟨Nat.le_of_ble_eq_true rfl, Nat.le_of_ble_eq_true rfl⟩ hK hP.2.1.1 rfl hP.2.1 rfl hl.1 rfl (Nat.le_of_ble_eq_true rfl) d_Ga_write_6 ⟨Nat.le_of_ble_eq_true rfl, Nat.le_of_ble_eq_true rfl⟩ (g_r rfl ?_)
    refine lv_astore_nN (lv' := [(3, .null), (0, .ref x), (1, .int a), (2, .int k)]) hx hb d_Ga_write_9 rfl hl (by decide) rfl (fun ls hl => ?_)
    refine lv_aload_nN hx hb d_Ga_write_10 rfl (lv_at hl 0 rfl) ?_
    refine lv_ifnonnullN hx hb d_Ga_write_11 ?_
    refine lv_iconst (v := -1) hx hb d_Ga_write_14 (by decide +kernel) ?_
    refine g_iret C0 hlk hr d_Ga_write_15 (t_nil (free := gRg x (x + 262))) ?_
    exact x_end (X' := ((X.1, (X.2.1.1, X.2.1.2), (X.2.2.1.1, X.2.2.1.2.1, X.2.2.1.2.2), X.2.2.2) : XS)) (by unfold cWrite; rw [inL_f hlo]; rfl) ⟨hP.1, hP.2.1, ⟨hP.2.2.1.1, hP.2.2.1.2.1, hP.2.2.1.2.2⟩, hP.2.2.2.1, hP.2.2.2.2.1, hsv, hP.2.2.2.2.2.2⟩ gFr.rf
  · skip
    obtain ⟨i, j, hi, hj, rfl, rfl⟩ := inL_t hlo
    have hlx := lix_lt hi hj
    refine lv_aload_n hx hb d_Ga_write_0 rfl (lv_at hl 0 rfl) ?_
    refine g_get C0 hK il_Ga hP.1 rfl 0 (by decide) fl_Ga_12 rfl d_Ga_write_1 ?_
    refine lv_iload_n hx hb d_Ga_write_4 rfl (lv_at hl 1 rfl) ?_
    refine lv_iload_n hx hb d_Ga_write_5 rfl (lv_at hl 2 rfl) ?_
    refine g_V C0 (k_St_listOfN l G (x + 1) X.1 i j (by omega) (by omega)) co_St_listOf im_St_listOf se_St_listOf in_St gc_St_listOf ml_Ga_55 ⟨Nat.le_of_ble_eq_true rfl, Nat.le_of_ble_eq_true rfl⟩ hK hP.2.1.1 rfl hP.2.1 rfl hl.1 rfl (Nat.le_of_ble_eq_true rfl) d_Ga_write_6 ⟨Nat.le_of_ble_eq_true rfl, Nat.le_of_ble_eq_true rfl⟩ (g_r rfl ?_)
    refine lv_astore_n (lv' := [(3, .ref (x + 1 + 24 + 2 * lix i j)), (0, .ref x), (1, .int (nI i)), (2, .int (nI j))]) hx hb d_Ga_write_9 rfl hl (by decide) rfl (fun ls hl => ?_)
    refine lv_aload_n hx hb d_Ga_write_10 rfl (lv_at hl 0 rfl) ?_
    refine lv_ifnonnull (tgt := 16) hx hb d_Ga_write_11 (by decide) ?_
    refine lv_aload_n hx hb d_Ga_write_16 rfl (lv_at hl 1 rfl) ?_
    refine g_get C0 hK il_Ga hP.1 rfl 1 (by decide) fl_Ga_19 rfl d_Ga_write_17 ?_
    refine g_V C0 (k_Pa_signs l G (x + 37) X.2.1.1 X.2.1.2) co_Pa_signs im_Pa_signs se_Pa_signs in_Pa gc_Pa_signs ml_Ga_85 ⟨Nat.le_of_ble_eq_true rfl, Nat.le_of_ble_eq_true rfl⟩ hK hP.2.2.1.1 rfl ⟨hP.2.2.1.1, hP.2.2.1.2.1, hP.2.2.1.2.2⟩ rfl hl.1 rfl (Nat.le_of_ble_eq_true rfl) d_Ga_write_20 ⟨Nat.le_of_ble_eq_true rfl, Nat.le_of_ble_eq_true rfl⟩ (g_r rfl ?_)
    refine g_V C0 (k_Ro_clear l G (x + 38) 80 X.2.1.1 ) co_Ro_clear im_Ro_clear se_Ro_clear in_Ro gc_Ro_clear ml_Ga_88 ⟨Nat.le_of_ble_eq_true rfl, Nat.le_of_ble_eq_true rfl⟩ hK hP.2.2.1.2.1.1 rfl hP.2.2.1.2.1 rfl hl.1 rfl (Nat.le_of_ble_eq_true rfl) d_Ga_write_23 ⟨Nat.le_of_ble_eq_true rfl, Nat.le_of_ble_eq_true rfl⟩ (g_wv (free := gRg x (x + 262)) (t_nil (free := gRg x (x + 262))) (gRg.mono (by omega) (by omega)) (fun H_1 locs hL ⟨hR_2, hf_3⟩ => ?_))
    refine lv_iconst (v := nI 0) hx hb d_Ga_write_26 (by decide +kernel) ?_
    refine lv_istore (lv' := [(4, .int (nI 0)), (3, .ref (x + 1 + 24 + 2 * lix i j)), (0, .ref x), (1, .int (nI i)), (2, .int (nI j))]) hx hb d_Ga_write_27 hl (by decide) rfl (fun ls hl => ?_)
    have lp29 : ∀ (fu : Nat) (t : Nat) (H : Heap) (locs : List Loc), ((X.1.2 (5 + lix i j)).1 - t) < fu → t ≤ (X.1.2 (5 + lix i j)).1 → (∀ qq ∈ locs, (gRg x (x + 262)) qq.base) → XAt G x ((X.1, (wrR X.1 X.2.1.1 (X.1.2 (5 + lix i j)) t, X.2.1.2), (X.2.2.1.1, X.2.2.1.2.1, X.2.2.1.2.2), X.2.2.2) : XS) H → SvAt G x X.2.2.2.1 X.2.2.2.2 H → gFr x (x + 262) s.heap H → ∀ ls : Array Slot, lv_has ls 5 [(4, .int (nI t)), (3, .ref (x + 1 + 24 + 2 * lix i j)), (0, .ref x), (1, .int (nI i)), (2, .int (nI j))] → W p l e ({ frames := 4, cells := 0, slots := 0, locals := 85 } : Room) s m args below meth c H locs 0 0 (MQ below (gQ (wi (.int (cWrite X (nI i) (nI j)).1) (fun H H1 => XAt G x (cWrite X (nI i) (nI j)).2 H1 ∧ gFr x (x + 262) H H1))) args s 0 0 (gRg x (x + 262))) (F0 m 29 ls []) := by
      intro fu
      induction fu with
      | zero => intro t H locs hfu; exact absurd hfu (Nat.not_lt_zero _)
      | succ fu ih29 =>
        intro t H locs hfu ht hL hP hsv hF ls hl
        have hlt : (X.1.2 (5 + lix i j)).1 < 2 ^ 31 := (hP.2.1.ls hlx).lt
        have hbb := hX.1.b (k := 5 + lix i j) (by omega)
        refine lv_iload hx hb d_Ga_write_29 (lv_at hl 0 rfl) ?_
        refine lv_aload_n hx hb d_Ga_write_31 rfl (lv_at hl 1 rfl) ?_
        refine g_V C0 (k_Ro_size l G (x + 1 + 24 + 2 * lix i j) 8 (X.1.2 (5 + (lix i j))) ) co_Ro_size im_Ro_size se_Ro_size in_Ro gc_Ro_size ml_Ga_71 ⟨Nat.le_of_ble_eq_true rfl, Nat.le_of_ble_eq_true rfl⟩ hK (hP.2.1.ls (lix_lt (by omega) (by omega))).1 rfl (hP.2.1.ls (lix_lt (by omega) (by omega))) rfl hl.1 rfl (Nat.le_of_ble_eq_true rfl) d_Ga_write_32 ⟨Nat.le_of_ble_eq_true rfl, Nat.le_of_ble_eq_true rfl⟩ (g_r rfl ?_)
        refine g_cge (tgt := 67) C0 d_Ga_write_35 (by decide) (by omega) (by omega) (fun c_35 => ?_) (fun c_35 => ?_)
        · skip
          have et : t = (X.1.2 (5 + lix i j)).1 := by omega
          subst et
          refine lv_aload_n hx hb d_Ga_write_67 rfl (lv_at hl 2 rfl) ?_
          refine g_get C0 hK il_Ga hP.1 rfl 1 (by decide) fl_Ga_19 rfl d_Ga_write_68 ?_
          refine g_V C0 (k_Pa_signs l G (x + 37) (wrR X.1 X.2.1.1 (X.1.2 (5 + lix i j)) ((X.1.2 (5 + lix i j)).1)) X.2.1.2) co_Pa_signs im_Pa_signs se_Pa_signs in_Pa gc_Pa_signs ml_Ga_85 ⟨Nat.le_of_ble_eq_true rfl, Nat.le_of_ble_eq_true rfl⟩ hK hP.2.2.1.1 rfl ⟨hP.2.2.1.1, hP.2.2.1.2.1, hP.2.2.1.2.2⟩ rfl hl.1 rfl (Nat.le_of_ble_eq_true rfl) d_Ga_write_71 ⟨Nat.le_of_ble_eq_true rfl, Nat.le_of_ble_eq_true rfl⟩ (g_r rfl ?_)
          refine g_V C0 (k_Ro_size l G (x + 38) 80 (wrR X.1 X.2.1.1 (X.1.2 (5 + lix i j)) ((X.1.2 (5 + lix i j)).1)) ) co_Ro_size im_Ro_size se_Ro_size in_Ro gc_Ro_size ml_Ga_71 ⟨Nat.le_of_ble_eq_true rfl, Nat.le_of_ble_eq_true rfl⟩ hK hP.2.2.1.2.1.1 rfl hP.2.2.1.2.1 rfl hl.1 rfl (Nat.le_of_ble_eq_true rfl) d_Ga_write_74 ⟨Nat.le_of_ble_eq_true rfl, Nat.le_of_ble_eq_true rfl⟩ (g_r rfl ?_)
          refine g_iret C0 hlk hr d_Ga_write_77 hL ?_
          exact x_end (X' := ((X.1, (wrR X.1 X.2.1.1 (X.1.2 (5 + lix i j)) ((X.1.2 (5 + lix i j)).1), X.2.1.2), (X.2.2.1.1, X.2.2.1.2.1, X.2.2.1.2.2), X.2.2.2) : XS)) (by unfold cWrite; rw [inL_nI hi hj, if_pos rfl, ixL_nI hi hj]; rfl) ⟨hP.1, hP.2.1, ⟨hP.2.2.1.1, hP.2.2.1.2.1, hP.2.2.1.2.2⟩, hP.2.2.2.1, hP.2.2.2.2.1, hsv, hP.2.2.2.2.2.2⟩ hF
        · skip
          refine lv_aload_n hx hb d_Ga_write_38 rfl (lv_at hl 2 rfl) ?_
          refine g_get C0 hK il_Ga hP.1 rfl 1 (by decide) fl_Ga_19 rfl d_Ga_write_39 ?_
          refine lv_aload_n hx hb d_Ga_write_42 rfl (lv_at hl 2 rfl) ?_
          refine g_get C0 hK il_Ga hP.1 rfl 0 (by decide) fl_Ga_12 rfl d_Ga_write_43 ?_
          refine g_getN C0 hK il_St hP.2.1.1 rfl 2 (by decide) fn_Ga_149 rfl d_Ga_write_46 ?_
          refine lv_aload_n hx hb d_Ga_write_49 rfl (lv_at hl 1 rfl) ?_
          refine lv_iload hx hb d_Ga_write_50 (lv_at hl 0 rfl) ?_
          refine g_V C0 (k_Ro_atN l G (x + 1 + 24 + 2 * lix i j) 8 (X.1.2 (5 + (lix i j))) t (by omega) (by omega)) co_Ro_at im_Ro_at se_Ro_at in_Ro gc_Ro_at ml_Ga_45 ⟨Nat.le_of_ble_eq_true rfl, Nat.le_of_ble_eq_true rfl⟩ hK (hP.2.1.ls (lix_lt (by omega) (by omega))).1 rfl (hP.2.1.ls (lix_lt (by omega) (by omega))) rfl hl.1 rfl (Nat.le_of_ble_eq_true rfl) d_Ga_write_52 ⟨Nat.le_of_ble_eq_true rfl, Nat.le_of_ble_eq_true rfl⟩ (g_r rfl ?_)
          have hb55 := hbb t (by omega)
          refine g_V C0 (k_Ro_at l G (x + 4) 40 (X.1.2 1) ((X.1.2 (5 + (lix i j))).2 t) (by omega)) co_Ro_at im_Ro_at se_Ro_at in_Ro gc_Ro_at ml_Ga_45 ⟨Nat.le_of_ble_eq_true rfl, Nat.le_of_ble_eq_true rfl⟩ hK (hP.2.1.2.2 1 (by decide)).1 rfl (hP.2.1.2.2 1 (by decide)) rfl hl.1 rfl (Nat.le_of_ble_eq_true rfl) d_Ga_write_55 ⟨Nat.le_of_ble_eq_true rfl, Nat.le_of_ble_eq_true rfl⟩ (g_r rfl ?_)
          refine g_V C0 (k_Pa_appendName l G (x + 37) (wrR X.1 X.2.1.1 (X.1.2 (5 + lix i j)) t) X.2.1.2 (rA (X.1.2 1) ((X.1.2 (5 + (lix i j))).2 t)) (Nat.lt_trans (rA_lt (hX.1.2.1 1 (by decide)) (by decide)) (by decide))) co_Pa_appendName im_Pa_appendName se_Pa_appendName in_Pa gc_Pa_appendName ml_Ga_152 ⟨Nat.le_of_ble_eq_true rfl, Nat.le_of_ble_eq_true rfl⟩ hK hP.2.2.1.1 rfl ⟨hP.2.2.1.1, hP.2.2.1.2.1, hP.2.2.1.2.2⟩ rfl hl.1 rfl (Nat.le_of_ble_eq_true rfl) d_Ga_write_58 ⟨Nat.le_of_ble_eq_true rfl, Nat.le_of_ble_eq_true rfl⟩ (g_wv (free := gRg x (x + 262)) hL (gRg.mono (by omega) (by omega)) (fun H_4 locs hL ⟨hR_5, hf_6⟩ => ?_))
          refine lv_iinc (v := (nI (t + 1))) (lv' := [(4, .int (nI (t + 1))), (3, .ref (x + 1 + 24 + 2 * lix i j)), (0, .ref x), (1, .int (nI i)), (2, .int (nI j))]) hx hb d_Ga_write_61 hl (k := 0) rfl (gI_inc _) (by decide) rfl (fun ls hl => ?_)
          refine lv_goto (tgt := 29) hx hb d_Ga_write_64 (by decide) ?_
          exact ih29 (t + 1) H_4 locs (by omega) (by omega) hL (⟨(hP.1.fr hf_6 (by omega)), (hP.2.1.fr hf_6 (by omega)), ⟨hR_5.1, hR_5.2.1, hR_5.2.2⟩, (hP.2.2.2.1.fr hf_6 (by omega)), (hP.2.2.2.2.1.fr hf_6 (by omega)), (hsv.fr hf_6 (by omega)), hP.2.2.2.2.2.2⟩) (hsv.fr hf_6 (by omega)) (hF.tr (hf_6.mono (by omega) (by omega))) ls (lv_sub hl [0, 1, 2, 3, 4] rfl)
    exact lp29 (((X.1.2 (5 + lix i j)).1 - 0) + 1) 0 H_1 locs (by omega) (by omega) hL (⟨(hP.1.fr hf_3 (by omega)), (hP.2.1.fr hf_3 (by omega)), ⟨(hP.2.2.1.1.fr hf_3 (by omega)), hR_2, (hP.2.2.1.2.2.fr hf_3 (by omega))⟩, (hP.2.2.2.1.fr hf_3 (by omega)), (hP.2.2.2.2.1.fr hf_3 (by omega)), (hsv.fr hf_3 (by omega)), hP.2.2.2.2.2.2⟩) (hsv.fr hf_3 (by omega)) (gFr.rf.tr (hf_3.mono (by omega) (by omega))) ls (lv_sub hl [0, 1, 2, 3, 4] rfl)
