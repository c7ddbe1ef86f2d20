set_option maxHeartbeats 4000000 in
set_option maxRecDepth 100000 in
theorem k_Pa_signs (l : Launch) (G : gT) (q : Nat) (S T : Rw)  : gM l y_Pa_signs c_Pa_signs 1 (some (.object "GaleNames$Row")) 0 0 0 0 G [.ref q] (fun H => PadAt G q S T H) (rd (.ref (q + 1))) noF := by
  refine g_enter "GaleNames$Pad" (by decide +kernel) rfl (Nat.le_of_ble_eq_true rfl) ?_
  intro p e s m args below meth c C0 hlk hr hnm hP hK ls hl
  have hx := C0.1
  have hb := C0.2.1
  have hl : lv_has ls 1 [(0, .ref q)] := hl
  refine lv_aload_n hx hb d_Pa_signs_0 rfl (lv_at hl 0 rfl) ?_
  refine g_get C0 hK il_Pa hP.1 rfl 0 (by decide) fl_Pa_14 rfl d_Pa_signs_1 ?_
  refine g_aret C0 hlk hr (Or.inr ⟨_, rfl⟩) d_Pa_signs_4 (t_nil (free := noF)) ?_
  exact ⟨rfl, rfl⟩

set_option maxHeartbeats 4000000 in
set_option maxRecDepth 100000 in
theorem k_Pa_told (l : Launch) (G : gT) (q : Nat) (S T : Rw)  : gM l y_Pa_told c_Pa_told 1 (some (.object "GaleNames$Row")) 0 0 0 0 G [.ref q] (fun H => PadAt G q S T H) (rd (.ref (q + 3))) noF := by
  refine g_enter "GaleNames$Pad" (by decide +kernel) rfl (Nat.le_of_ble_eq_true rfl) ?_
  intro p e s m args below meth c C0 hlk hr hnm hP hK ls hl
  have hx := C0.1
  have hb := C0.2.1
  have hl : lv_has ls 1 [(0, .ref q)] := hl
  refine lv_aload_n hx hb d_Pa_told_0 rfl (lv_at hl 0 rfl) ?_
  refine g_get C0 hK il_Pa hP.1 rfl 1 (by decide) fl_Pa_20 rfl d_Pa_told_1 ?_
  refine g_aret C0 hlk hr (Or.inr ⟨_, rfl⟩) d_Pa_told_4 (t_nil (free := noF)) ?_
  exact ⟨rfl, rfl⟩

set_option maxHeartbeats 4000000 in
set_option maxRecDepth 100000 in
theorem k_Pa_read (l : Launch) (G : gT) (q : Nat) (S T : Rw) (hS : rB S (2 ^ 31)) : gM l y_Pa_read c_Pa_read 5 (some .int) 2 42 0 0 G [.ref q] (fun H => PadAt G q S T H) (wi (.int (oI (-6) (pRs T.2 S).1)) (fun H H1 => PadAt G q S ((pRs T.2 S).2) H1 ∧ gFr q (q + 5) H H1)) (gRg q (q + 5)) := by
  refine g_enter "GaleNames$Pad" (by decide +kernel) rfl (Nat.le_of_ble_eq_true rfl) ?_
  intro p e s m args below meth c C0 hlk hr hnm hP hK ls hl
  have hx := C0.1
  have hb := C0.2.1
  have hl : lv_has ls 5 [(0, .ref q)] := hl
  have hlt := hP.2.1.lt
  refine lv_aload_n hx hb d_Pa_read_0 rfl (lv_at hl 0 rfl) ?_
  refine g_get C0 hK il_Pa hP.1 rfl 1 (by decide) fl_Pa_20 rfl d_Pa_read_1 ?_
  refine g_V C0 (k_Ro_clear l G (q + 3) 27 T ) co_Ro_clear im_Ro_clear se_Ro_clear in_Ro gc_Ro_clear ml_Pa_23 ⟨Nat.le_of_ble_eq_true rfl, Nat.le_of_ble_eq_true rfl⟩ hK hP.2.2.1 rfl hP.2.2 rfl hl.1 rfl (Nat.le_of_ble_eq_true rfl) d_Pa_read_4 ⟨Nat.le_of_ble_eq_true rfl, Nat.le_of_ble_eq_true rfl⟩ (g_wv (free := gRg q (q + 5)) (t_nil (free := gRg q (q + 5))) (gRg.mono (by omega) (by omega)) (fun H_1 locs hL ⟨hR_2, hf_3⟩ => ?_))
  refine lv_iconst (v := nI 0) hx hb d_Pa_read_7 (by decide +kernel) ?_
  refine lv_istore_n (lv' := [(1, .int (nI 0)), (0, .ref q)]) hx hb d_Pa_read_8 rfl hl (by decide) rfl (fun ls hl => ?_)
  refine lv_iconst (v := nI 0) hx hb d_Pa_read_9 (by decide +kernel) ?_
  refine lv_istore_n (lv' := [(2, .int (nI 0)), (1, .int (nI 0)), (0, .ref q)]) hx hb d_Pa_read_10 rfl hl (by decide) rfl (fun ls hl => ?_)
  refine lv_iconst (v := nI 0) hx hb d_Pa_read_11 (by decide +kernel) ?_
  refine lv_istore_n (lv' := [(3, .int (nI 0)), (2, .int (nI 0)), (1, .int (nI 0)), (0, .ref q)]) hx hb d_Pa_read_12 rfl hl (by decide) rfl (fun ls hl => ?_)
  have lp13 : ∀ (fu : Nat) (i : Nat) (κ : Nat) (v : Nat) (U : Rw) (H : Heap) (locs : List Loc), (S.1 - i) < fu → i ≤ S.1 → prd T.2 S.2 i = some (κ, v, U) → (∀ j, j ≤ i → (prd T.2 S.2 j).isNone = false) → v ≤ 6 → (∀ qq ∈ locs, (gRg q (q + 5)) qq.base) → PadAt G q S U H → gFr q (q + 5) s.heap H → ∀ ls : Array Slot, lv_has ls 5 [(3, .int (nI i)), (2, .int (nI v)), (1, .int (nI κ)), (0, .ref q)] → W p l e ({ frames := 2, cells := 0, slots := 0, locals := 42 } : Room) s m args below meth c H locs 0 0 (MQ below (gQ (wi (.int (oI (-6) (pRs T.2 S).1)) (fun H H1 => PadAt G q S ((pRs T.2 S).2) H1 ∧ gFr q (q + 5) H H1))) args s 0 0 (gRg q (q + 5))) (F0 m 13 ls []) := by
    intro fu
    induction fu with
    | zero => intro i κ v U H locs hfu; exact absurd hfu (Nat.not_lt_zero _)
    | succ fu ih13 =>
      intro i κ v U H locs hfu hi hp hj hv hL hP hF ls hl
      refine lv_iload_n hx hb d_Pa_read_13 rfl (lv_at hl 0 rfl) ?_
      refine lv_aload_n hx hb d_Pa_read_14 rfl (lv_at hl 3 rfl) ?_
      refine g_get C0 hK il_Pa hP.1 rfl 0 (by decide) fl_Pa_14 rfl d_Pa_read_15 ?_
      refine g_V C0 (k_Ro_size l G (q + 1) 80 S ) co_Ro_size im_Ro_size se_Ro_size in_Ro gc_Ro_size ml_Pa_26 ⟨Nat.le_of_ble_eq_true rfl, Nat.le_of_ble_eq_true rfl⟩ hK hP.2.1.1 rfl hP.2.1 rfl hl.1 rfl (Nat.le_of_ble_eq_true rfl) d_Pa_read_18 ⟨Nat.le_of_ble_eq_true rfl, Nat.le_of_ble_eq_true rfl⟩ (g_r rfl ?_)
      refine g_cge (tgt := 103) C0 d_Pa_read_21 (by decide) (by omega) (by omega) (fun c_21 => ?_) (fun c_21 => ?_)
      · skip
        have ei : i = S.1 := by omega
        refine lv_iload_n hx hb d_Pa_read_103 rfl (lv_at hl 1 rfl) ?_
        refine lv_iconst (v := nI 2) hx hb d_Pa_read_104 (by decide +kernel) ?_
        refine g_cge (tgt := 116) C0 d_Pa_read_105 (by decide) (by omega) (by omega) (fun c_105 => ?_) (fun c_105 => ?_)
        · skip
          refine lv_aload_n hx hb d_Pa_read_116 rfl (lv_at hl 3 rfl) ?_
          refine g_get C0 hK il_Pa hP.1 rfl 1 (by decide) fl_Pa_20 rfl d_Pa_read_117 ?_
          refine lv_iload_n hx hb d_Pa_read_120 rfl (lv_at hl 2 rfl) ?_
          refine g_V C0 (k_Ro_add l G (q + 3) 27 U κ) co_Ro_add im_Ro_add se_Ro_add in_Ro gc_Ro_add ml_Pa_43 ⟨Nat.le_of_ble_eq_true rfl, Nat.le_of_ble_eq_true rfl⟩ hK hP.2.2.1 rfl hP.2.2 rfl hl.1 rfl (Nat.le_of_ble_eq_true rfl) d_Pa_read_121 ⟨Nat.le_of_ble_eq_true rfl, Nat.le_of_ble_eq_true rfl⟩ (g_wv (free := gRg q (q + 5)) hL (gRg.mono (by omega) (by omega)) (fun H_4 locs hL ⟨hR_5, hf_6⟩ => ?_))
          refine lv_bipush (v := -6) hx hb d_Pa_read_124 (by decide +kernel) ?_
          refine g_iret C0 hlk hr d_Pa_read_126 hL ?_
          exact ⟨rdI (by rw [pRs_e (by rw [← ei]; exact hj) (by rw [← ei]; exact hp), if_neg (Nat.not_lt.mpr c_105)]; rfl), (by rw [pRs_e (by rw [← ei]; exact hj) (by rw [← ei]; exact hp), if_neg (Nat.not_lt.mpr c_105)]; exact ⟨(hP.1.fr hf_6 (by omega)), (hP.2.1.fr hf_6 (by omega)), hR_5⟩), (hF.tr (hf_6.mono (by omega) (by omega)))⟩
        · skip
          refine lv_aload_n hx hb d_Pa_read_108 rfl (lv_at hl 3 rfl) ?_
          refine g_get C0 hK il_Pa hP.1 rfl 0 (by decide) fl_Pa_14 rfl d_Pa_read_109 ?_
          refine g_V C0 (k_Ro_size l G (q + 1) 80 S ) co_Ro_size im_Ro_size se_Ro_size in_Ro gc_Ro_size ml_Pa_26 ⟨Nat.le_of_ble_eq_true rfl, Nat.le_of_ble_eq_true rfl⟩ hK hP.2.1.1 rfl hP.2.1 rfl hl.1 rfl (Nat.le_of_ble_eq_true rfl) d_Pa_read_112 ⟨Nat.le_of_ble_eq_true rfl, Nat.le_of_ble_eq_true rfl⟩ (g_r rfl ?_)
          refine g_iret C0 hlk hr d_Pa_read_115 hL ?_
          exact ⟨rdI (by rw [pRs_e (by rw [← ei]; exact hj) (by rw [← ei]; exact hp), if_pos c_105]; rfl), (by rw [pRs_e (by rw [← ei]; exact hj) (by rw [← ei]; exact hp), if_pos c_105]; exact ⟨hP.1, hP.2.1, hP.2.2⟩), hF⟩
      · skip
        refine lv_aload_n hx hb d_Pa_read_24 rfl (lv_at hl 3 rfl) ?_
        refine g_get C0 hK il_Pa hP.1 rfl 0 (by decide) fl_Pa_14 rfl d_Pa_read_25 ?_
        refine lv_iload_n hx hb d_Pa_read_28 rfl (lv_at hl 0 rfl) ?_
        refine g_V C0 (k_Ro_atN l G (q + 1) 80 S i (by omega) (by omega)) co_Ro_at im_Ro_at se_Ro_at in_Ro gc_Ro_at ml_Pa_30 ⟨Nat.le_of_ble_eq_true rfl, Nat.le_of_ble_eq_true rfl⟩ hK hP.2.1.1 rfl hP.2.1 rfl hl.1 rfl (Nat.le_of_ble_eq_true rfl) d_Pa_read_29 ⟨Nat.le_of_ble_eq_true rfl, Nat.le_of_ble_eq_true rfl⟩ (g_r rfl ?_)
        refine g_S C0 (k_Ke_letterOf l G (S.2 i) (hS i (by omega))) co_Ke_letterOf sm_Ke_letterOf in_Ke gc_Ke_letterOf ml_Pa_34 ⟨Nat.le_of_ble_eq_true rfl, Nat.le_of_ble_eq_true rfl⟩ hK trivial rfl hl.1 rfl (Nat.le_of_ble_eq_true rfl) d_Pa_read_32 ⟨Nat.le_of_ble_eq_true rfl, Nat.le_of_ble_eq_true rfl⟩ (g_r rfl ?_)
        refine lv_istore (lv' := [(4, .int (nI (kO (S.2 i)))), (3, .int (nI i)), (2, .int (nI v)), (1, .int (nI κ)), (0, .ref q)]) hx hb d_Pa_read_35 hl (by decide) rfl (fun ls hl => ?_)
        refine lv_iload hx hb d_Pa_read_37 (lv_at hl 0 rfl) ?_
        refine lv_if_eq (tgt := 62) hx hb d_Pa_read_39 (by decide) (fun c_39 => ?_) (fun c_39 => ?_)
        · skip
          have c_39 : kO (S.2 i) = 0 := (nI_eqi (a := kO (S.2 i)) (b := 0) (by have := kO_lt (S.2 i); omega) (by omega)).mp c_39
          refine lv_aload_n hx hb d_Pa_read_62 rfl (lv_at hl 4 rfl) ?_
          refine g_get C0 hK il_Pa hP.1 rfl 0 (by decide) fl_Pa_14 rfl d_Pa_read_63 ?_
          refine lv_iload_n hx hb d_Pa_read_66 rfl (lv_at hl 1 rfl) ?_
          refine g_V C0 (k_Ro_atN l G (q + 1) 80 S i (by omega) (by omega)) co_Ro_at im_Ro_at se_Ro_at in_Ro gc_Ro_at ml_Pa_30 ⟨Nat.le_of_ble_eq_true rfl, Nat.le_of_ble_eq_true rfl⟩ hK hP.2.1.1 rfl hP.2.1 rfl hl.1 rfl (Nat.le_of_ble_eq_true rfl) d_Pa_read_67 ⟨Nat.le_of_ble_eq_true rfl, Nat.le_of_ble_eq_true rfl⟩ (g_r rfl ?_)
          refine lv_bipush (v := nI 44) hx hb d_Pa_read_70 (by decide +kernel) ?_
          refine g_cne (tgt := 95) C0 d_Pa_read_72 (by decide) (hS i (by omega)) (by omega) (fun c_72 => ?_) (fun c_72 => ?_)
          · skip
            refine lv_iload_n hx hb d_Pa_read_95 rfl (lv_at hl 1 rfl) ?_
            refine g_iret C0 hlk hr d_Pa_read_96 hL ?_
            exact ⟨rdI (by rw [pRs_f (by omega) hj hp (pst_n (by omega) (by omega))]; rfl), (by rw [pRs_f (by omega) hj hp (pst_n (by omega) (by omega))]; exact ⟨hP.1, hP.2.1, hP.2.2⟩), hF⟩
          · skip
            refine lv_iload_n hx hb d_Pa_read_75 rfl (lv_at hl 2 rfl) ?_
            refine lv_iconst (v := nI 2) hx hb d_Pa_read_76 (by decide +kernel) ?_
            refine g_clt (tgt := 95) C0 d_Pa_read_77 (by decide) (by omega) (by omega) (fun c_77 => ?_) (fun c_77 => ?_)
            · skip
              refine lv_iload_n hx hb d_Pa_read_95 rfl (lv_at hl 1 rfl) ?_
              refine g_iret C0 hlk hr d_Pa_read_96 hL ?_
              exact ⟨rdI (by rw [pRs_f (by omega) hj hp (pst_n (by omega) (by omega))]; rfl), (by rw [pRs_f (by omega) hj hp (pst_n (by omega) (by omega))]; exact ⟨hP.1, hP.2.1, hP.2.2⟩), hF⟩
            · skip
              refine lv_aload_n hx hb d_Pa_read_80 rfl (lv_at hl 4 rfl) ?_
              refine g_get C0 hK il_Pa hP.1 rfl 1 (by decide) fl_Pa_20 rfl d_Pa_read_81 ?_
              refine lv_iload_n hx hb d_Pa_read_84 rfl (lv_at hl 3 rfl) ?_
              refine g_V C0 (k_Ro_add l G (q + 3) 27 U κ) co_Ro_add im_Ro_add se_Ro_add in_Ro gc_Ro_add ml_Pa_43 ⟨Nat.le_of_ble_eq_true rfl, Nat.le_of_ble_eq_true rfl⟩ hK hP.2.2.1 rfl hP.2.2 rfl hl.1 rfl (Nat.le_of_ble_eq_true rfl) d_Pa_read_85 ⟨Nat.le_of_ble_eq_true rfl, Nat.le_of_ble_eq_true rfl⟩ (g_wv (free := gRg q (q + 5)) hL (gRg.mono (by omega) (by omega)) (fun H_7 locs hL ⟨hR_8, hf_9⟩ => ?_))
              refine lv_iconst (v := nI 0) hx hb d_Pa_read_88 (by decide +kernel) ?_
              refine lv_istore_n (lv' := [(1, .int (nI 0)), (4, .int (nI (kO (S.2 i)))), (3, .int (nI i)), (2, .int (nI v)), (0, .ref q)]) hx hb d_Pa_read_89 rfl hl (by decide) rfl (fun ls hl => ?_)
              refine lv_iconst (v := nI 0) hx hb d_Pa_read_90 (by decide +kernel) ?_
              refine lv_istore_n (lv' := [(2, .int (nI 0)), (1, .int (nI 0)), (4, .int (nI (kO (S.2 i)))), (3, .int (nI i)), (0, .ref q)]) hx hb d_Pa_read_91 rfl hl (by decide) rfl (fun ls hl => ?_)
              refine lv_goto (tgt := 97) hx hb d_Pa_read_92 (by decide) ?_
              refine lv_iinc (v := (nI (i + 1))) (lv' := [(3, .int (nI (i + 1))), (2, .int (nI 0)), (1, .int (nI 0)), (4, .int (nI (kO (S.2 i)))), (0, .ref q)]) hx hb d_Pa_read_97 hl (k := 3) rfl (gI_inc _) (by decide) rfl (fun ls hl => ?_)
              refine lv_goto (tgt := 13) hx hb d_Pa_read_100 (by decide) ?_
              exact ih13 (i + 1) 0 0 (rAdd 27 U κ) H_7 locs (by omega) (by omega) (by rw [prd_s hp]; exact pst_c (by omega) c_72 c_77) (le_s hj (by rw [prd_s hp, pst_c (by omega) c_72 c_77]; rfl)) (by omega) hL (⟨(hP.1.fr hf_9 (by omega)), (hP.2.1.fr hf_9 (by omega)), hR_8⟩) (hF.tr (hf_9.mono (by omega) (by omega))) ls (lv_sub hl [0, 1, 2, 4] rfl)
        · skip
          have c_39 : kO (S.2 i) ≠ 0 := fun h => c_39 (by rw [h]; rfl)
          refine lv_iload_n hx hb d_Pa_read_42 rfl (lv_at hl 2 rfl) ?_
          refine lv_bipush (v := nI 6) hx hb d_Pa_read_43 (by decide +kernel) ?_
          refine g_cge (tgt := 62) C0 d_Pa_read_45 (by decide) (by omega) (by omega) (fun c_45 => ?_) (fun c_45 => ?_)
          · skip
            refine lv_aload_n hx hb d_Pa_read_62 rfl (lv_at hl 4 rfl) ?_
            refine g_get C0 hK il_Pa hP.1 rfl 0 (by decide) fl_Pa_14 rfl d_Pa_read_63 ?_
            refine lv_iload_n hx hb d_Pa_read_66 rfl (lv_at hl 1 rfl) ?_
            refine g_V C0 (k_Ro_atN l G (q + 1) 80 S i (by omega) (by omega)) co_Ro_at im_Ro_at se_Ro_at in_Ro gc_Ro_at ml_Pa_30 ⟨Nat.le_of_ble_eq_true rfl, Nat.le_of_ble_eq_true rfl⟩ hK hP.2.1.1 rfl hP.2.1 rfl hl.1 rfl (Nat.le_of_ble_eq_true rfl) d_Pa_read_67 ⟨Nat.le_of_ble_eq_true rfl, Nat.le_of_ble_eq_true rfl⟩ (g_r rfl ?_)
            refine lv_bipush (v := nI 44) hx hb d_Pa_read_70 (by decide +kernel) ?_
            refine g_cne (tgt := 95) C0 d_Pa_read_72 (by decide) (hS i (by omega)) (by omega) (fun c_72 => ?_) (fun c_72 => ?_)
            · skip
              refine lv_iload_n hx hb d_Pa_read_95 rfl (lv_at hl 1 rfl) ?_
              refine g_iret C0 hlk hr d_Pa_read_96 hL ?_
              exact ⟨rdI (by rw [pRs_f (by omega) hj hp (pst_n (by omega) (by omega))]; rfl), (by rw [pRs_f (by omega) hj hp (pst_n (by omega) (by omega))]; exact ⟨hP.1, hP.2.1, hP.2.2⟩), hF⟩
            · skip
              refine lv_iload_n hx hb d_Pa_read_75 rfl (lv_at hl 2 rfl) ?_
              refine lv_iconst (v := nI 2) hx hb d_Pa_read_76 (by decide +kernel) ?_
              refine g_clt (tgt := 95) C0 d_Pa_read_77 (by decide) (by omega) (by omega) (fun c_77 => ?_) (fun c_77 => ?_)
              · skip
                refine lv_iload_n hx hb d_Pa_read_95 rfl (lv_at hl 1 rfl) ?_
                refine g_iret C0 hlk hr d_Pa_read_96 hL ?_
                exact ⟨rdI (by rw [pRs_f (by omega) hj hp (pst_n (by omega) (by omega))]; rfl), (by rw [pRs_f (by omega) hj hp (pst_n (by omega) (by omega))]; exact ⟨hP.1, hP.2.1, hP.2.2⟩), hF⟩
              · skip
                refine lv_aload_n hx hb d_Pa_read_80 rfl (lv_at hl 4 rfl) ?_
                refine g_get C0 hK il_Pa hP.1 rfl 1 (by decide) fl_Pa_20 rfl d_Pa_read_81 ?_
                refine lv_iload_n hx hb d_Pa_read_84 rfl (lv_at hl 3 rfl) ?_
                refine g_V C0 (k_Ro_add l G (q + 3) 27 U κ) co_Ro_add im_Ro_add se_Ro_add in_Ro gc_Ro_add ml_Pa_43 ⟨Nat.le_of_ble_eq_true rfl, Nat.le_of_ble_eq_true rfl⟩ hK hP.2.2.1 rfl hP.2.2 rfl hl.1 rfl (Nat.le_of_ble_eq_true rfl) d_Pa_read_85 ⟨Nat.le_of_ble_eq_true rfl, Nat.le_of_ble_eq_true rfl⟩ (g_wv (free := gRg q (q + 5)) hL (gRg.mono (by omega) (by omega)) (fun H_10 locs hL ⟨hR_11, hf_12⟩ => ?_))
                refine lv_iconst (v := nI 0) hx hb d_Pa_read_88 (by decide +kernel) ?_
                refine lv_istore_n (lv' := [(1, .int (nI 0)), (4, .int (nI (kO (S.2 i)))), (3, .int (nI i)), (2, .int (nI v)), (0, .ref q)]) hx hb d_Pa_read_89 rfl hl (by decide) rfl (fun ls hl => ?_)
                refine lv_iconst (v := nI 0) hx hb d_Pa_read_90 (by decide +kernel) ?_
                refine lv_istore_n (lv' := [(2, .int (nI 0)), (1, .int (nI 0)), (4, .int (nI (kO (S.2 i)))), (3, .int (nI i)), (0, .ref q)]) hx hb d_Pa_read_91 rfl hl (by decide) rfl (fun ls hl => ?_)
                refine lv_goto (tgt := 97) hx hb d_Pa_read_92 (by decide) ?_
                refine lv_iinc (v := (nI (i + 1))) (lv' := [(3, .int (nI (i + 1))), (2, .int (nI 0)), (1, .int (nI 0)), (4, .int (nI (kO (S.2 i)))), (0, .ref q)]) hx hb d_Pa_read_97 hl (k := 3) rfl (gI_inc _) (by decide) rfl (fun ls hl => ?_)
                refine lv_goto (tgt := 13) hx hb d_Pa_read_100 (by decide) ?_
                exact ih13 (i + 1) 0 0 (rAdd 27 U κ) H_10 locs (by omega) (by omega) (by rw [prd_s hp]; exact pst_c (by omega) c_72 c_77) (le_s hj (by rw [prd_s hp, pst_c (by omega) c_72 c_77]; rfl)) (by omega) hL (⟨(hP.1.fr hf_12 (by omega)), (hP.2.1.fr hf_12 (by omega)), hR_11⟩) (hF.tr (hf_12.mono (by omega) (by omega))) ls (lv_sub hl [0, 1, 2, 4] rfl)
          · skip
            refine lv_iload_n hx hb d_Pa_read_48 rfl (lv_at hl 3 rfl) ?_
            refine lv_iload_n hx hb d_Pa_read_49 rfl (lv_at hl 2 rfl) ?_
            refine lv_iload hx hb d_Pa_read_50 (lv_at hl 0 rfl) ?_
            refine g_S C0 (k_Ke_withLetter l G κ v (kO (S.2 i)) (by omega)) co_Ke_withLetter sm_Ke_withLetter in_Ke gc_Ke_withLetter ml_Pa_39 ⟨Nat.le_of_ble_eq_true rfl, Nat.le_of_ble_eq_true rfl⟩ hK trivial rfl hl.1 rfl (Nat.le_of_ble_eq_true rfl) d_Pa_read_52 ⟨Nat.le_of_ble_eq_true rfl, Nat.le_of_ble_eq_true rfl⟩ (g_r rfl ?_)
            refine lv_istore_n (lv' := [(1, .int (nI (kW κ v (kO (S.2 i))))), (4, .int (nI (kO (S.2 i)))), (3, .int (nI i)), (2, .int (nI v)), (0, .ref q)]) hx hb d_Pa_read_55 rfl hl (by decide) rfl (fun ls hl => ?_)
            refine lv_iinc (v := (nI (v + 1))) (lv' := [(2, .int (nI (v + 1))), (1, .int (nI (kW κ v (kO (S.2 i))))), (4, .int (nI (kO (S.2 i)))), (3, .int (nI i)), (0, .ref q)]) hx hb d_Pa_read_56 hl (k := 3) rfl (gI_inc _) (by decide) rfl (fun ls hl => ?_)
            refine lv_goto (tgt := 97) hx hb d_Pa_read_59 (by decide) ?_
            refine lv_iinc (v := (nI (i + 1))) (lv' := [(3, .int (nI (i + 1))), (2, .int (nI (v + 1))), (1, .int (nI (kW κ v (kO (S.2 i))))), (4, .int (nI (kO (S.2 i)))), (0, .ref q)]) hx hb d_Pa_read_97 hl (k := 3) rfl (gI_inc _) (by decide) rfl (fun ls hl => ?_)
            refine lv_goto (tgt := 13) hx hb d_Pa_read_100 (by decide) ?_
            exact ih13 (i + 1) (kW κ v (kO (S.2 i))) (v + 1) U H locs (by omega) (by omega) (by rw [prd_s hp]; exact pst_l c_39 c_45) (le_s hj (by rw [prd_s hp, pst_l c_39 c_45]; rfl)) (by omega) hL (⟨hP.1, hP.2.1, hP.2.2⟩) hF ls (lv_sub hl [0, 1, 2, 4] rfl)
  exact lp13 ((S.1 - 0) + 1) 0 0 0 (0, T.2) H_1 locs (by omega) (by omega) rfl (le_0 rfl) (by omega) hL (⟨(hP.1.fr hf_3 (by omega)), (hP.2.1.fr hf_3 (by omega)), hR_2⟩) (gFr.rf.tr (hf_3.mono (by omega) (by omega))) ls (lv_sub hl [0, 1, 2, 3] rfl)

set_option maxHeartbeats 4000000 in
set_option maxRecDepth 100000 in
theorem k_Pa_tellsOneName (l : Launch) (G : gT) (q : Nat) (S T : Rw) (hS : rB S (2 ^ 31)) : gM l y_Pa_tellsOneName c_Pa_tellsOneName 1 (some .boolean) 3 66 0 0 G [.ref q] (fun H => PadAt G q S T H) (wi (.int (bI ((pRs T.2 S).1.isNone && (pRs T.2 S).2.1 == 1))) (fun H H1 => PadAt G q S ((pRs T.2 S).2) H1 ∧ gFr q (q + 5) H H1)) (gRg q (q + 5)) := by
  refine g_enter "GaleNames$Pad" (by decide +kernel) rfl (Nat.le_of_ble_eq_true rfl) ?_
  intro p e s m args below meth c C0 hlk hr hnm hP hK ls hl
  have hx := C0.1
  have hb := C0.2.1
  have hl : lv_has ls 1 [(0, .ref q)] := hl
  have hlt := hP.2.1.lt
  refine lv_aload_n hx hb d_Pa_tellsOneName_0 rfl (lv_at hl 0 rfl) ?_
  refine g_V C0 (k_Pa_read l G q S T hS) co_Pa_read im_Pa_read se_Pa_read in_Pa gc_Pa_read ml_Pa_46 ⟨Nat.le_of_ble_eq_true rfl, Nat.le_of_ble_eq_true rfl⟩ hK hP.1 rfl ⟨hP.1, hP.2.1, hP.2.2⟩ rfl hl.1 rfl (Nat.le_of_ble_eq_true rfl) d_Pa_tellsOneName_1 ⟨Nat.le_of_ble_eq_true rfl, Nat.le_of_ble_eq_true rfl⟩ (g_wi (free := gRg q (q + 5)) (t_nil (free := gRg q (q + 5))) (fun _ h => h) (fun H_1 locs hL ⟨hR_2, hf_3⟩ => ?_))
  refine lv_bipush (v := -6) hx hb d_Pa_tellsOneName_4 (by decide +kernel) ?_
  refine lv_icmp_ne (tgt := 24) hx hb d_Pa_tellsOneName_6 (by decide) (fun c_6 => ?_) (fun c_6 => ?_)
  · skip
    have c_6 : ¬ (pRs T.2 S).1 = none := fun q => c_6 ((oI6_n (fun i h => Nat.lt_of_le_of_lt (pRs_le h) hlt)).mpr q)
    refine lv_iconst (v := nI 0) hx hb d_Pa_tellsOneName_24 (by decide +kernel) ?_
    refine g_zret (b := false) C0 hlk hr d_Pa_tellsOneName_25 hL ?_
    exact ⟨rdB (by cases e : (pRs T.2 S).1 with | none => exact absurd e c_6 | some i => rfl), ⟨hR_2.1, hR_2.2.1, hR_2.2.2⟩, (gFr.rf.tr hf_3)⟩
  · skip
    have c_6 : (pRs T.2 S).1 = none := (oI6_n (fun i h => Nat.lt_of_le_of_lt (pRs_le h) hlt)).mp c_6
    refine lv_aload_n hx hb d_Pa_tellsOneName_9 rfl (lv_at hl 0 rfl) ?_
    refine g_get C0 hK il_Pa hR_2.1 rfl 1 (by decide) fl_Pa_20 rfl d_Pa_tellsOneName_10 ?_
    refine g_V C0 (k_Ro_size l G (q + 3) 27 ((pRs T.2 S).2) ) co_Ro_size im_Ro_size se_Ro_size in_Ro gc_Ro_size ml_Pa_26 ⟨Nat.le_of_ble_eq_true rfl, Nat.le_of_ble_eq_true rfl⟩ hK hR_2.2.2.1 rfl hR_2.2.2 rfl hl.1 rfl (Nat.le_of_ble_eq_true rfl) d_Pa_tellsOneName_13 ⟨Nat.le_of_ble_eq_true rfl, Nat.le_of_ble_eq_true rfl⟩ (g_r rfl ?_)
    refine lv_iconst (v := nI 1) hx hb d_Pa_tellsOneName_16 (by decide +kernel) ?_
    refine g_cne (tgt := 24) C0 d_Pa_tellsOneName_17 (by decide) (by have := hR_2.2.2.lt; omega) (by omega) (fun c_17 => ?_) (fun c_17 => ?_)
    · skip
      refine lv_iconst (v := nI 0) hx hb d_Pa_tellsOneName_24 (by decide +kernel) ?_
      refine g_zret (b := false) C0 hlk hr d_Pa_tellsOneName_25 hL ?_
      exact ⟨rdB (by rw [c_6]; simp [c_17]), ⟨hR_2.1, hR_2.2.1, hR_2.2.2⟩, (gFr.rf.tr hf_3)⟩
    · skip
      refine lv_iconst (v := nI 1) hx hb d_Pa_tellsOneName_20 (by decide +kernel) ?_
      refine lv_goto (tgt := 25) hx hb d_Pa_tellsOneName_21 (by decide) ?_
      refine g_zret (b := true) C0 hlk hr d_Pa_tellsOneName_25 hL ?_
      exact ⟨rdB (by rw [c_6]; simp [c_17]), ⟨hR_2.1, hR_2.2.1, hR_2.2.2⟩, (gFr.rf.tr hf_3)⟩

set_option maxHeartbeats 4000000 in
set_option maxRecDepth 100000 in
theorem k_Pa_appendName (l : Launch) (G : gT) (q : Nat) (S T : Rw) (κ : Nat) (hκ : κ < 2 ^ 31) : gM l y_Pa_appendName c_Pa_appendName 3 none 3 63 0 0 G [.ref q, .int (nI κ)] (fun H => PadAt G q S T H) (wv (fun H H1 => PadAt G q (apN S κ) T H1 ∧ gFr q (q + 5) H H1)) (gRg q (q + 5)) := by
  refine g_enter "GaleNames$Pad" (by decide +kernel) rfl (Nat.le_of_ble_eq_true rfl) ?_
  intro p e s m args below meth c C0 hlk hr hnm hP hK ls hl
  have hx := C0.1
  have hb := C0.2.1
  have hl : lv_has ls 3 [(0, .ref q), (1, .int (nI κ))] := hl
  have hlt := hP.2.1.lt
  have hk6 := kS_le κ κ
  refine lv_aload_n hx hb d_Pa_appendName_0 rfl (lv_at hl 0 rfl) ?_
  refine g_get C0 hK il_Pa hP.1 rfl 0 (by decide) fl_Pa_14 rfl d_Pa_appendName_1 ?_
  refine g_V C0 (k_Ro_size l G (q + 1) 80 S ) co_Ro_size im_Ro_size se_Ro_size in_Ro gc_Ro_size ml_Pa_26 ⟨Nat.le_of_ble_eq_true rfl, Nat.le_of_ble_eq_true rfl⟩ hK hP.2.1.1 rfl hP.2.1 rfl hl.1 rfl (Nat.le_of_ble_eq_true rfl) d_Pa_appendName_4 ⟨Nat.le_of_ble_eq_true rfl, Nat.le_of_ble_eq_true rfl⟩ (g_r rfl ?_)
  refine lv_if_le (tgt := 19) hx hb d_Pa_appendName_7 (by decide) (fun c_7 => ?_) (fun c_7 => ?_)
  · skip
    have c_7 : ¬ 0 < S.1 := fun h => absurd c_7 (nI_posn h hlt)
    refine lv_iconst (v := nI 0) hx hb d_Pa_appendName_19 (by decide +kernel) ?_
    refine lv_istore_n (lv' := [(2, .int (nI 0)), (0, .ref q), (1, .int (nI κ))]) hx hb d_Pa_appendName_20 rfl hl (by decide) rfl (fun ls hl => ?_)
    have lp21 : ∀ (fu : Nat) (i : Nat) (H : Heap) (locs : List Loc), (kS κ κ - i) < fu → i ≤ kS κ κ → (∀ qq ∈ locs, (gRg q (q + 5)) qq.base) → PadAt G q (apL S κ i) T H → gFr q (q + 5) s.heap H → ∀ ls : Array Slot, lv_has ls 3 [(2, .int (nI i)), (0, .ref q), (1, .int (nI κ))] → W p l e ({ frames := 3, cells := 0, slots := 0, locals := 63 } : Room) s m args below meth c H locs 0 0 (MQ below (gQ (wv (fun H H1 => PadAt G q (apN S κ) T H1 ∧ gFr q (q + 5) H H1))) args s 0 0 (gRg q (q + 5))) (F0 m 21 ls []) := by
      intro fu
      induction fu with
      | zero => intro i H locs hfu; exact absurd hfu (Nat.not_lt_zero _)
      | succ fu ih21 =>
        intro i H locs hfu hi hL hP hF ls hl
        refine lv_iload_n hx hb d_Pa_appendName_21 rfl (lv_at hl 0 rfl) ?_
        refine lv_iload_n hx hb d_Pa_appendName_22 rfl (lv_at hl 2 rfl) ?_
        refine g_S C0 (k_Ke_length l G κ (by omega)) co_Ke_length sm_Ke_length in_Ke gc_Ke_length ml_Pa_49 ⟨Nat.le_of_ble_eq_true rfl, Nat.le_of_ble_eq_true rfl⟩ hK trivial rfl hl.1 rfl (Nat.le_of_ble_eq_true rfl) d_Pa_appendName_23 ⟨Nat.le_of_ble_eq_true rfl, Nat.le_of_ble_eq_true rfl⟩ (g_r rfl ?_)
        refine g_cge (tgt := 50) C0 d_Pa_appendName_26 (by decide) (by omega) (by omega) (fun c_26 => ?_) (fun c_26 => ?_)
        · skip
          have ei : i = kS κ κ := by omega
          subst ei
          refine g_vret C0 hlk hr d_Pa_appendName_50 hL ?_
          exact ⟨rfl, ⟨hP.1, hP.2.1, hP.2.2⟩, hF⟩
        · skip
          refine lv_aload_n hx hb d_Pa_appendName_29 rfl (lv_at hl 1 rfl) ?_
          refine g_get C0 hK il_Pa hP.1 rfl 0 (by decide) fl_Pa_14 rfl d_Pa_appendName_30 ?_
          refine lv_iload_n hx hb d_Pa_appendName_33 rfl (lv_at hl 2 rfl) ?_
          refine lv_iload_n hx hb d_Pa_appendName_34 rfl (lv_at hl 0 rfl) ?_
          refine g_S C0 (k_Ke_letterAtN l G κ i (by omega) (by omega)) co_Ke_letterAt sm_Ke_letterAt in_Ke gc_Ke_letterAt ml_Pa_52 ⟨Nat.le_of_ble_eq_true rfl, Nat.le_of_ble_eq_true rfl⟩ hK trivial rfl hl.1 rfl (Nat.le_of_ble_eq_true rfl) d_Pa_appendName_35 ⟨Nat.le_of_ble_eq_true rfl, Nat.le_of_ble_eq_true rfl⟩ (g_r rfl ?_)
          refine g_S C0 (k_Ke_signOf l G (kL κ i)) co_Ke_signOf sm_Ke_signOf in_Ke gc_Ke_signOf ml_Pa_56 ⟨Nat.le_of_ble_eq_true rfl, Nat.le_of_ble_eq_true rfl⟩ hK trivial rfl hl.1 rfl (Nat.le_of_ble_eq_true rfl) d_Pa_appendName_38 ⟨Nat.le_of_ble_eq_true rfl, Nat.le_of_ble_eq_true rfl⟩ (g_r rfl ?_)
          refine g_V C0 (k_Ro_add l G (q + 1) 80 (apL S κ i) (96 + (kL κ i))) co_Ro_add im_Ro_add se_Ro_add in_Ro gc_Ro_add ml_Pa_43 ⟨Nat.le_of_ble_eq_true rfl, Nat.le_of_ble_eq_true rfl⟩ hK hP.2.1.1 rfl hP.2.1 rfl hl.1 rfl (Nat.le_of_ble_eq_true rfl) d_Pa_appendName_41 ⟨Nat.le_of_ble_eq_true rfl, Nat.le_of_ble_eq_true rfl⟩ (g_wv (free := gRg q (q + 5)) hL (gRg.mono (by omega) (by omega)) (fun H_1 locs hL ⟨hR_2, hf_3⟩ => ?_))
          refine lv_iinc (v := (nI (i + 1))) (lv' := [(2, .int (nI (i + 1))), (0, .ref q), (1, .int (nI κ))]) hx hb d_Pa_appendName_44 hl (k := 0) rfl (gI_inc _) (by decide) rfl (fun ls hl => ?_)
          refine lv_goto (tgt := 21) hx hb d_Pa_appendName_47 (by decide) ?_
          exact ih21 (i + 1) H_1 locs (by omega) (by omega) hL (⟨(hP.1.fr hf_3 (by omega)), hR_2, (hP.2.2.fr hf_3 (by omega))⟩) (hF.tr (hf_3.mono (by omega) (by omega))) ls (lv_sub hl [0, 1, 2] rfl)
    exact lp21 ((kS κ κ - 0) + 1) 0 s.heap [] (by omega) (by omega) (t_nil (free := gRg q (q + 5))) (by show PadAt G q (if 0 < S.1 then rAdd 80 S 44 else S) T _; first | (rw [if_pos c_7]; exact ⟨hP.1, hP.2.1, hP.2.2⟩) | (rw [if_neg c_7]; exact ⟨hP.1, hP.2.1, hP.2.2⟩)) gFr.rf ls (lv_sub hl [0, 1, 2] rfl)
  · skip
    have c_7 : 0 < S.1 := Nat.pos_of_ne_zero fun h => c_7 (by rw [h]; decide)
    refine lv_aload_n hx hb d_Pa_appendName_10 rfl (lv_at hl 0 rfl) ?_
    refine g_get C0 hK il_Pa hP.1 rfl 0 (by decide) fl_Pa_14 rfl d_Pa_appendName_11 ?_
    refine lv_bipush (v := nI 44) hx hb d_Pa_appendName_14 (by decide +kernel) ?_
    refine g_V C0 (k_Ro_add l G (q + 1) 80 S 44) co_Ro_add im_Ro_add se_Ro_add in_Ro gc_Ro_add ml_Pa_43 ⟨Nat.le_of_ble_eq_true rfl, Nat.le_of_ble_eq_true rfl⟩ hK hP.2.1.1 rfl hP.2.1 rfl hl.1 rfl (Nat.le_of_ble_eq_true rfl) d_Pa_appendName_16 ⟨Nat.le_of_ble_eq_true rfl, Nat.le_of_ble_eq_true rfl⟩ (g_wv (free := gRg q (q + 5)) (t_nil (free := gRg q (q + 5))) (gRg.mono (by omega) (by omega)) (fun H_4 locs hL ⟨hR_5, hf_6⟩ => ?_))
    refine lv_iconst (v := nI 0) hx hb d_Pa_appendName_19 (by decide +kernel) ?_
    refine lv_istore_n (lv' := [(2, .int (nI 0)), (0, .ref q), (1, .int (nI κ))]) hx hb d_Pa_appendName_20 rfl hl (by decide) rfl (fun ls hl => ?_)
    have lp21 : ∀ (fu : Nat) (i : Nat) (H : Heap) (locs : List Loc), (kS κ κ - i) < fu → i ≤ kS κ κ → (∀ qq ∈ locs, (gRg q (q + 5)) qq.base) → PadAt G q (apL S κ i) T H → gFr q (q + 5) s.heap H → ∀ ls : Array Slot, lv_has ls 3 [(2, .int (nI i)), (0, .ref q), (1, .int (nI κ))] → W p l e ({ frames := 3, cells := 0, slots := 0, locals := 63 } : Room) s m args below meth c H locs 0 0 (MQ below (gQ (wv (fun H H1 => PadAt G q (apN S κ) T H1 ∧ gFr q (q + 5) H H1))) args s 0 0 (gRg q (q + 5))) (F0 m 21 ls []) := by
      intro fu
      induction fu with
      | zero => intro i H locs hfu; exact absurd hfu (Nat.not_lt_zero _)
      | succ fu ih21 =>
        intro i H locs hfu hi hL hP hF ls hl
        refine lv_iload_n hx hb d_Pa_appendName_21 rfl (lv_at hl 0 rfl) ?_
        refine lv_iload_n hx hb d_Pa_appendName_22 rfl (lv_at hl 2 rfl) ?_
        refine g_S C0 (k_Ke_length l G κ (by omega)) co_Ke_length sm_Ke_length in_Ke gc_Ke_length ml_Pa_49 ⟨Nat.le_of_ble_eq_true rfl, Nat.le_of_ble_eq_true rfl⟩ hK trivial rfl hl.1 rfl (Nat.le_of_ble_eq_true rfl) d_Pa_appendName_23 ⟨Nat.le_of_ble_eq_true rfl, Nat.le_of_ble_eq_true rfl⟩ (g_r rfl ?_)
        refine g_cge (tgt := 50) C0 d_Pa_appendName_26 (by decide) (by omega) (by omega) (fun c_26 => ?_) (fun c_26 => ?_)
        · skip
          have ei : i = kS κ κ := by omega
          subst ei
          refine g_vret C0 hlk hr d_Pa_appendName_50 hL ?_
          exact ⟨rfl, ⟨hP.1, hP.2.1, hP.2.2⟩, hF⟩
        · skip
          refine lv_aload_n hx hb d_Pa_appendName_29 rfl (lv_at hl 1 rfl) ?_
          refine g_get C0 hK il_Pa hP.1 rfl 0 (by decide) fl_Pa_14 rfl d_Pa_appendName_30 ?_
          refine lv_iload_n hx hb d_Pa_appendName_33 rfl (lv_at hl 2 rfl) ?_
          refine lv_iload_n hx hb d_Pa_appendName_34 rfl (lv_at hl 0 rfl) ?_
          refine g_S C0 (k_Ke_letterAtN l G κ i (by omega) (by omega)) co_Ke_letterAt sm_Ke_letterAt in_Ke gc_Ke_letterAt ml_Pa_52 ⟨Nat.le_of_ble_eq_true rfl, Nat.le_of_ble_eq_true rfl⟩ hK trivial rfl hl.1 rfl (Nat.le_of_ble_eq_true rfl) d_Pa_appendName_35 ⟨Nat.le_of_ble_eq_true rfl, Nat.le_of_ble_eq_true rfl⟩ (g_r rfl ?_)
          refine g_S C0 (k_Ke_signOf l G (kL κ i)) co_Ke_signOf sm_Ke_signOf in_Ke gc_Ke_signOf ml_Pa_56 ⟨Nat.le_of_ble_eq_true rfl, Nat.le_of_ble_eq_true rfl⟩ hK trivial rfl hl.1 rfl (Nat.le_of_ble_eq_true rfl) d_Pa_appendName_38 ⟨Nat.le_of_ble_eq_true rfl, Nat.le_of_ble_eq_true rfl⟩ (g_r rfl ?_)
          refine g_V C0 (k_Ro_add l G (q + 1) 80 (apL S κ i) (96 + (kL κ i))) co_Ro_add im_Ro_add se_Ro_add in_Ro gc_Ro_add ml_Pa_43 ⟨Nat.le_of_ble_eq_true rfl, Nat.le_of_ble_eq_true rfl⟩ hK hP.2.1.1 rfl hP.2.1 rfl hl.1 rfl (Nat.le_of_ble_eq_true rfl) d_Pa_appendName_41 ⟨Nat.le_of_ble_eq_true rfl, Nat.le_of_ble_eq_true rfl⟩ (g_wv (free := gRg q (q + 5)) hL (gRg.mono (by omega) (by omega)) (fun H_7 locs hL ⟨hR_8, hf_9⟩ => ?_))
          refine lv_iinc (v := (nI (i + 1))) (lv' := [(2, .int (nI (i + 1))), (0, .ref q), (1, .int (nI κ))]) hx hb d_Pa_appendName_44 hl (k := 0) rfl (gI_inc _) (by decide) rfl (fun ls hl => ?_)
          refine lv_goto (tgt := 21) hx hb d_Pa_appendName_47 (by decide) ?_
          exact ih21 (i + 1) H_7 locs (by omega) (by omega) hL (⟨(hP.1.fr hf_9 (by omega)), hR_8, (hP.2.2.fr hf_9 (by omega))⟩) (hF.tr (hf_9.mono (by omega) (by omega))) ls (lv_sub hl [0, 1, 2] rfl)
    exact lp21 ((kS κ κ - 0) + 1) 0 H_4 locs (by omega) (by omega) hL (by show PadAt G q (if 0 < S.1 then rAdd 80 S 44 else S) T _; first | (rw [if_pos c_7]; exact ⟨(hP.1.fr hf_6 (by omega)), hR_5, (hP.2.2.fr hf_6 (by omega))⟩) | (rw [if_neg c_7]; exact ⟨(hP.1.fr hf_6 (by omega)), hR_5, (hP.2.2.fr hf_6 (by omega))⟩)) (gFr.rf.tr (hf_6.mono (by omega) (by omega))) ls (lv_sub hl [0, 1, 2] rfl)
