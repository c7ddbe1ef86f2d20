set_option maxHeartbeats 4000000 in
set_option maxRecDepth 100000 in
theorem k_St_copyList (l : Launch) (G : gT) (r cap f capF : Nat) (A F : Rw) (hrf : r + 2 ≤ f ∨ f + 2 ≤ r) (hF : F.1 ≤ cap) : gM l y_St_copyList c_St_copyList 2 none 2 40 0 0 G [.ref r, .ref f] (fun H => RowAt G r cap A H ∧ RowAt G f capF F H) (wv (fun H H1 => RowAt G r cap (rCp A F) H1 ∧ gFr r (r + 2) H H1)) (gRg r (r + 2)) := by
  refine g_enter "GaleNames$State" (by decide +kernel) rfl (Nat.le_of_ble_eq_true rfl) ?_
  intro p e s m args below meth c C0 hlk hr hnm hP hK ls hl
  have hx := C0.1
  have hb := C0.2.1
  have hl : lv_has ls 2 [(0, .ref r), (1, .ref f)] := hl
  refine lv_aload_n hx hb d_St_copyList_0 rfl (lv_at hl 0 rfl) ?_
  refine lv_ifnull hx hb d_St_copyList_1 ?_
  refine lv_aload_n hx hb d_St_copyList_4 rfl (lv_at hl 1 rfl) ?_
  refine lv_ifnull hx hb d_St_copyList_5 ?_
  refine lv_aload_n hx hb d_St_copyList_8 rfl (lv_at hl 0 rfl) ?_
  refine lv_aload_n hx hb d_St_copyList_9 rfl (lv_at hl 1 rfl) ?_
  refine g_V C0 (k_Ro_copy l G r cap f capF A F (by omega) hF) co_Ro_copy im_Ro_copy se_Ro_copy in_Ro gc_Ro_copy ml_St_61 ⟨Nat.le_of_ble_eq_true rfl, Nat.le_of_ble_eq_true rfl⟩ hK hP.1.1 rfl ⟨hP.1, hP.2⟩ rfl hl.1 rfl (Nat.le_of_ble_eq_true rfl) d_St_copyList_10 ⟨Nat.le_of_ble_eq_true rfl, Nat.le_of_ble_eq_true rfl⟩ (g_wv (free := gRg r (r + 2)) (t_nil (free := gRg r (r + 2))) (fun _ h => h) (fun H_1 locs hL ⟨hR_2, hf_3⟩ => ?_))
  refine g_vret C0 hlk hr d_St_copyList_13 hL ?_
  exact ⟨rfl, hR_2, (gFr.rf.tr hf_3)⟩

set_option maxHeartbeats 4000000 in
set_option maxRecDepth 100000 in
theorem k_St_copy (l : Launch) (G : gT) (b : Nat) (Y : ST) (f : Nat) (F : ST) (hbf : b + 36 ≤ f ∨ f + 36 ≤ b) : gM l y_St_copy c_St_copy 4 none 3 61 0 0 G [.ref b, .ref f] (fun H => StAt G b Y H ∧ StAt G f F H) (wv (fun H H1 => StAt G b (cpL Y F 17) H1 ∧ gFr b (b + 36) H H1)) (gRg b (b + 36)) := by
  refine g_enter "GaleNames$State" (by decide +kernel) rfl (Nat.le_of_ble_eq_true rfl) ?_
  intro p e s m args below meth c C0 hlk hr hnm hP hK ls hl
  have hx := C0.1
  have hb := C0.2.1
  have hl : lv_has ls 4 [(0, .ref b), (1, .ref f)] := hl
  refine lv_aload_n hx hb d_St_copy_0 rfl (lv_at hl 0 rfl) ?_
  refine lv_aload_n hx hb d_St_copy_1 rfl (lv_at hl 1 rfl) ?_
  refine g_get C0 hK il_St hP.2.1 rfl 0 (by decide) fl_St_57 rfl d_St_copy_2 ?_
  refine g_put (free := gRg b (b + 36)) C0 hK il_St tk_St nm_St hP.1.1 rfl 0 (by decide) fl_St_57 rfl rfl rfl (Nat.le_of_ble_eq_true rfl) d_St_copy_5 (t_nil (free := gRg b (b + 36))) (gRg.mk (by omega) (by omega)) (fun H_1 locs hL hA_2 hc_3 => ?_)
  have hS_2 := hP.1.yr hA_2 hc_3
  refine lv_aload_n hx hb d_St_copy_8 rfl (lv_at hl 0 rfl) ?_
  refine g_get C0 hK il_St hS_2.1 rfl 1 (by decide) fl_St_14 rfl d_St_copy_9 ?_
  refine lv_aload_n hx hb d_St_copy_12 rfl (lv_at hl 1 rfl) ?_
  refine g_get C0 hK il_St (hP.2.ch hc_3 (by omega)).1 rfl 1 (by decide) fl_St_14 rfl d_St_copy_13 ?_
  refine g_V C0 (k_Ro_copy l G (b + 1) 3 (f + 1) 3 (Y.2 0) (F.2 0) (by omega) ((hP.2.ch hc_3 (by omega)).2.2 0 (by decide)).2.2.1) co_Ro_copy im_Ro_copy se_Ro_copy in_Ro gc_Ro_copy ml_St_61 ⟨Nat.le_of_ble_eq_true rfl, Nat.le_of_ble_eq_true rfl⟩ hK (hS_2.2.2 0 (by decide)).1 rfl ⟨(hS_2.2.2 0 (by decide)), ((hP.2.ch hc_3 (by omega)).2.2 0 (by decide))⟩ rfl hl.1 rfl (Nat.le_of_ble_eq_true rfl) d_St_copy_16 ⟨Nat.le_of_ble_eq_true rfl, Nat.le_of_ble_eq_true rfl⟩ (g_wv (free := gRg b (b + 36)) hL (gRg.mono (by omega) (by omega)) (fun H_4 locs hL ⟨hR_5, hf_6⟩ => ?_))
  have hS_5 := hS_2.up 0 (by decide) hR_5 hf_6
  refine lv_aload_n hx hb d_St_copy_19 rfl (lv_at hl 0 rfl) ?_
  refine g_get C0 hK il_St hS_5.1 rfl 2 (by decide) fl_St_20 rfl d_St_copy_20 ?_
  refine lv_aload_n hx hb d_St_copy_23 rfl (lv_at hl 1 rfl) ?_
  refine g_get C0 hK il_St ((hP.2.ch hc_3 (by omega)).fr hf_6 (by omega)).1 rfl 2 (by decide) fl_St_20 rfl d_St_copy_24 ?_
  refine g_V C0 (k_Ro_copy l G (b + 3) 40 (f + 3) 40 (Y.2 1) (F.2 1) (by omega) (((hP.2.ch hc_3 (by omega)).fr hf_6 (by omega)).2.2 1 (by decide)).2.2.1) co_Ro_copy im_Ro_copy se_Ro_copy in_Ro gc_Ro_copy ml_St_61 ⟨Nat.le_of_ble_eq_true rfl, Nat.le_of_ble_eq_true rfl⟩ hK (hS_5.2.2 1 (by decide)).1 rfl ⟨(hS_5.2.2 1 (by decide)), (((hP.2.ch hc_3 (by omega)).fr hf_6 (by omega)).2.2 1 (by decide))⟩ rfl hl.1 rfl (Nat.le_of_ble_eq_true rfl) d_St_copy_27 ⟨Nat.le_of_ble_eq_true rfl, Nat.le_of_ble_eq_true rfl⟩ (g_wv (free := gRg b (b + 36)) hL (gRg.mono (by omega) (by omega)) (fun H_7 locs hL ⟨hR_8, hf_9⟩ => ?_))
  have hS_8 := hS_5.up 1 (by decide) hR_8 hf_9
  refine lv_aload_n hx hb d_St_copy_30 rfl (lv_at hl 0 rfl) ?_
  refine g_get C0 hK il_St hS_8.1 rfl 3 (by decide) fl_St_23 rfl d_St_copy_31 ?_
  refine lv_aload_n hx hb d_St_copy_34 rfl (lv_at hl 1 rfl) ?_
  refine g_get C0 hK il_St (((hP.2.ch hc_3 (by omega)).fr hf_6 (by omega)).fr hf_9 (by omega)).1 rfl 3 (by decide) fl_St_23 rfl d_St_copy_35 ?_
  refine g_V C0 (k_Ro_copy l G (b + 5) 40 (f + 5) 40 (Y.2 2) (F.2 2) (by omega) ((((hP.2.ch hc_3 (by omega)).fr hf_6 (by omega)).fr hf_9 (by omega)).2.2 2 (by decide)).2.2.1) co_Ro_copy im_Ro_copy se_Ro_copy in_Ro gc_Ro_copy ml_St_61 ⟨Nat.le_of_ble_eq_true rfl, Nat.le_of_ble_eq_true rfl⟩ hK (hS_8.2.2 2 (by decide)).1 rfl ⟨(hS_8.2.2 2 (by decide)), ((((hP.2.ch hc_3 (by omega)).fr hf_6 (by omega)).fr hf_9 (by omega)).2.2 2 (by decide))⟩ rfl hl.1 rfl (Nat.le_of_ble_eq_true rfl) d_St_copy_38 ⟨Nat.le_of_ble_eq_true rfl, Nat.le_of_ble_eq_true rfl⟩ (g_wv (free := gRg b (b + 36)) hL (gRg.mono (by omega) (by omega)) (fun H_10 locs hL ⟨hR_11, hf_12⟩ => ?_))
  have hS_11 := hS_8.up 2 (by decide) hR_11 hf_12
  refine lv_aload_n hx hb d_St_copy_41 rfl (lv_at hl 0 rfl) ?_
  refine g_get C0 hK il_St hS_11.1 rfl 4 (by decide) fl_St_26 rfl d_St_copy_42 ?_
  refine lv_aload_n hx hb d_St_copy_45 rfl (lv_at hl 1 rfl) ?_
  refine g_get C0 hK il_St ((((hP.2.ch hc_3 (by omega)).fr hf_6 (by omega)).fr hf_9 (by omega)).fr hf_12 (by omega)).1 rfl 4 (by decide) fl_St_26 rfl d_St_copy_46 ?_
  refine g_V C0 (k_Ro_copy l G (b + 7) 40 (f + 7) 40 (Y.2 3) (F.2 3) (by omega) (((((hP.2.ch hc_3 (by omega)).fr hf_6 (by omega)).fr hf_9 (by omega)).fr hf_12 (by omega)).2.2 3 (by decide)).2.2.1) co_Ro_copy im_Ro_copy se_Ro_copy in_Ro gc_Ro_copy ml_St_61 ⟨Nat.le_of_ble_eq_true rfl, Nat.le_of_ble_eq_true rfl⟩ hK (hS_11.2.2 3 (by decide)).1 rfl ⟨(hS_11.2.2 3 (by decide)), (((((hP.2.ch hc_3 (by omega)).fr hf_6 (by omega)).fr hf_9 (by omega)).fr hf_12 (by omega)).2.2 3 (by decide))⟩ rfl hl.1 rfl (Nat.le_of_ble_eq_true rfl) d_St_copy_49 ⟨Nat.le_of_ble_eq_true rfl, Nat.le_of_ble_eq_true rfl⟩ (g_wv (free := gRg b (b + 36)) hL (gRg.mono (by omega) (by omega)) (fun H_13 locs hL ⟨hR_14, hf_15⟩ => ?_))
  have hS_14 := hS_11.up 3 (by decide) hR_14 hf_15
  refine lv_aload_n hx hb d_St_copy_52 rfl (lv_at hl 0 rfl) ?_
  refine g_get C0 hK il_St hS_14.1 rfl 5 (by decide) fl_St_29 rfl d_St_copy_53 ?_
  refine lv_aload_n hx hb d_St_copy_56 rfl (lv_at hl 1 rfl) ?_
  refine g_get C0 hK il_St (((((hP.2.ch hc_3 (by omega)).fr hf_6 (by omega)).fr hf_9 (by omega)).fr hf_12 (by omega)).fr hf_15 (by omega)).1 rfl 5 (by decide) fl_St_29 rfl d_St_copy_57 ?_
  refine g_V C0 (k_Ro_copy l G (b + 9) 40 (f + 9) 40 (Y.2 4) (F.2 4) (by omega) ((((((hP.2.ch hc_3 (by omega)).fr hf_6 (by omega)).fr hf_9 (by omega)).fr hf_12 (by omega)).fr hf_15 (by omega)).2.2 4 (by decide)).2.2.1) co_Ro_copy im_Ro_copy se_Ro_copy in_Ro gc_Ro_copy ml_St_61 ⟨Nat.le_of_ble_eq_true rfl, Nat.le_of_ble_eq_true rfl⟩ hK (hS_14.2.2 4 (by decide)).1 rfl ⟨(hS_14.2.2 4 (by decide)), ((((((hP.2.ch hc_3 (by omega)).fr hf_6 (by omega)).fr hf_9 (by omega)).fr hf_12 (by omega)).fr hf_15 (by omega)).2.2 4 (by decide))⟩ rfl hl.1 rfl (Nat.le_of_ble_eq_true rfl) d_St_copy_60 ⟨Nat.le_of_ble_eq_true rfl, Nat.le_of_ble_eq_true rfl⟩ (g_wv (free := gRg b (b + 36)) hL (gRg.mono (by omega) (by omega)) (fun H_16 locs hL ⟨hR_17, hf_18⟩ => ?_))
  have hS_17 := hS_14.up 4 (by decide) hR_17 hf_18
  refine lv_iconst (v := nI 0) hx hb d_St_copy_63 (by decide +kernel) ?_
  refine lv_istore_n (lv' := [(2, .int (nI 0)), (0, .ref b), (1, .ref f)]) hx hb d_St_copy_64 rfl hl (by decide) rfl (fun ls hl => ?_)
  have lp65 : ∀ (fu : Nat) (i : Nat) (H : Heap) (locs : List Loc), (2 - i) < fu → i ≤ 2 → (∀ qq ∈ locs, (gRg b (b + 36)) qq.base) → StAt G b (cpL Y F (5 + lix i 0)) H → StAt G f F H → gFr b (b + 36) s.heap H → ∀ ls : Array Slot, lv_has ls 4 [(2, .int (nI i)), (0, .ref b), (1, .ref f)] → W p l e ({ frames := 3, cells := 0, slots := 0, locals := 61 } : Room) s m args below meth c H locs 0 0 (MQ below (gQ (wv (fun H H1 => StAt G b (cpL Y F 17) H1 ∧ gFr b (b + 36) H H1))) args s 0 0 (gRg b (b + 36))) (F0 m 65 ls []) := by
    intro fu
    induction fu with
    | zero => intro i H locs hfu; exact absurd hfu (Nat.not_lt_zero _)
    | succ fu ih65 =>
      intro i H locs hfu hi hL hP hPf hF ls hl
      refine lv_iload_n hx hb d_St_copy_65 rfl (lv_at hl 0 rfl) ?_
      refine lv_iconst (v := nI 2) hx hb d_St_copy_66 (by decide +kernel) ?_
      refine g_cge (tgt := 104) C0 d_St_copy_67 (by decide) (by omega) (by omega) (fun c_67 => ?_) (fun c_67 => ?_)
      · skip
        have ei : i = 2 := by omega
        subst ei
        have hP : StAt G b (cpL Y F 11) H := hP
        refine lv_aload_n hx hb d_St_copy_104 rfl (lv_at hl 1 rfl) ?_
        refine g_get C0 hK il_St hP.1 rfl 7 (by decide) fl_St_36 rfl d_St_copy_105 ?_
        refine lv_aload_n hx hb d_St_copy_108 rfl (lv_at hl 2 rfl) ?_
        refine g_get C0 hK il_St hPf.1 rfl 7 (by decide) fl_St_36 rfl d_St_copy_109 ?_
        refine g_V C0 (k_Ro_copy l G (b + 12) 16 (f + 12) 16 ((cpL Y F 11).2 11) (F.2 11) (by omega) (hPf.2.2 11 (by decide)).2.2.1) co_Ro_copy im_Ro_copy se_Ro_copy in_Ro gc_Ro_copy ml_St_61 ⟨Nat.le_of_ble_eq_true rfl, Nat.le_of_ble_eq_true rfl⟩ hK (hP.2.2 11 (by decide)).1 rfl ⟨(hP.2.2 11 (by decide)), (hPf.2.2 11 (by decide))⟩ rfl hl.1 rfl (Nat.le_of_ble_eq_true rfl) d_St_copy_112 ⟨Nat.le_of_ble_eq_true rfl, Nat.le_of_ble_eq_true rfl⟩ (g_wv (free := gRg b (b + 36)) hL (gRg.mono (by omega) (by omega)) (fun H_19 locs hL ⟨hR_20, hf_21⟩ => ?_))
        have hS_20 := hP.up 11 (by decide) hR_20 hf_21
        refine lv_aload_n hx hb d_St_copy_115 rfl (lv_at hl 1 rfl) ?_
        refine g_get C0 hK il_St hS_20.1 rfl 8 (by decide) fl_St_39 rfl d_St_copy_116 ?_
        refine lv_aload_n hx hb d_St_copy_119 rfl (lv_at hl 2 rfl) ?_
        refine g_get C0 hK il_St (hPf.fr hf_21 (by omega)).1 rfl 8 (by decide) fl_St_39 rfl d_St_copy_120 ?_
        refine g_V C0 (k_Ro_copy l G (b + 14) 16 (f + 14) 16 ((cpL Y F 11).2 12) (F.2 12) (by omega) ((hPf.fr hf_21 (by omega)).2.2 12 (by decide)).2.2.1) co_Ro_copy im_Ro_copy se_Ro_copy in_Ro gc_Ro_copy ml_St_61 ⟨Nat.le_of_ble_eq_true rfl, Nat.le_of_ble_eq_true rfl⟩ hK (hS_20.2.2 12 (by decide)).1 rfl ⟨(hS_20.2.2 12 (by decide)), ((hPf.fr hf_21 (by omega)).2.2 12 (by decide))⟩ rfl hl.1 rfl (Nat.le_of_ble_eq_true rfl) d_St_copy_123 ⟨Nat.le_of_ble_eq_true rfl, Nat.le_of_ble_eq_true rfl⟩ (g_wv (free := gRg b (b + 36)) hL (gRg.mono (by omega) (by omega)) (fun H_22 locs hL ⟨hR_23, hf_24⟩ => ?_))
        have hS_23 := hS_20.up 12 (by decide) hR_23 hf_24
        refine lv_aload_n hx hb d_St_copy_126 rfl (lv_at hl 1 rfl) ?_
        refine g_get C0 hK il_St hS_23.1 rfl 9 (by decide) fl_St_42 rfl d_St_copy_127 ?_
        refine lv_aload_n hx hb d_St_copy_130 rfl (lv_at hl 2 rfl) ?_
        refine g_get C0 hK il_St ((hPf.fr hf_21 (by omega)).fr hf_24 (by omega)).1 rfl 9 (by decide) fl_St_42 rfl d_St_copy_131 ?_
        refine g_V C0 (k_Ro_copy l G (b + 16) 16 (f + 16) 16 ((cpL Y F 11).2 13) (F.2 13) (by omega) (((hPf.fr hf_21 (by omega)).fr hf_24 (by omega)).2.2 13 (by decide)).2.2.1) co_Ro_copy im_Ro_copy se_Ro_copy in_Ro gc_Ro_copy ml_St_61 ⟨Nat.le_of_ble_eq_true rfl, Nat.le_of_ble_eq_true rfl⟩ hK (hS_23.2.2 13 (by decide)).1 rfl ⟨(hS_23.2.2 13 (by decide)), (((hPf.fr hf_21 (by omega)).fr hf_24 (by omega)).2.2 13 (by decide))⟩ rfl hl.1 rfl (Nat.le_of_ble_eq_true rfl) d_St_copy_134 ⟨Nat.le_of_ble_eq_true rfl, Nat.le_of_ble_eq_true rfl⟩ (g_wv (free := gRg b (b + 36)) hL (gRg.mono (by omega) (by omega)) (fun H_25 locs hL ⟨hR_26, hf_27⟩ => ?_))
        have hS_26 := hS_23.up 13 (by decide) hR_26 hf_27
        refine lv_aload_n hx hb d_St_copy_137 rfl (lv_at hl 1 rfl) ?_
        refine g_get C0 hK il_St hS_26.1 rfl 10 (by decide) fl_St_45 rfl d_St_copy_138 ?_
        refine lv_aload_n hx hb d_St_copy_141 rfl (lv_at hl 2 rfl) ?_
        refine g_get C0 hK il_St (((hPf.fr hf_21 (by omega)).fr hf_24 (by omega)).fr hf_27 (by omega)).1 rfl 10 (by decide) fl_St_45 rfl d_St_copy_142 ?_
        refine g_V C0 (k_Ro_copy l G (b + 18) 10 (f + 18) 10 ((cpL Y F 11).2 14) (F.2 14) (by omega) ((((hPf.fr hf_21 (by omega)).fr hf_24 (by omega)).fr hf_27 (by omega)).2.2 14 (by decide)).2.2.1) co_Ro_copy im_Ro_copy se_Ro_copy in_Ro gc_Ro_copy ml_St_61 ⟨Nat.le_of_ble_eq_true rfl, Nat.le_of_ble_eq_true rfl⟩ hK (hS_26.2.2 14 (by decide)).1 rfl ⟨(hS_26.2.2 14 (by decide)), ((((hPf.fr hf_21 (by omega)).fr hf_24 (by omega)).fr hf_27 (by omega)).2.2 14 (by decide))⟩ rfl hl.1 rfl (Nat.le_of_ble_eq_true rfl) d_St_copy_145 ⟨Nat.le_of_ble_eq_true rfl, Nat.le_of_ble_eq_true rfl⟩ (g_wv (free := gRg b (b + 36)) hL (gRg.mono (by omega) (by omega)) (fun H_28 locs hL ⟨hR_29, hf_30⟩ => ?_))
        have hS_29 := hS_26.up 14 (by decide) hR_29 hf_30
        refine lv_aload_n hx hb d_St_copy_148 rfl (lv_at hl 1 rfl) ?_
        refine g_get C0 hK il_St hS_29.1 rfl 11 (by decide) fl_St_48 rfl d_St_copy_149 ?_
        refine lv_aload_n hx hb d_St_copy_152 rfl (lv_at hl 2 rfl) ?_
        refine g_get C0 hK il_St ((((hPf.fr hf_21 (by omega)).fr hf_24 (by omega)).fr hf_27 (by omega)).fr hf_30 (by omega)).1 rfl 11 (by decide) fl_St_48 rfl d_St_copy_153 ?_
        refine g_V C0 (k_Ro_copy l G (b + 20) 10 (f + 20) 10 ((cpL Y F 11).2 15) (F.2 15) (by omega) (((((hPf.fr hf_21 (by omega)).fr hf_24 (by omega)).fr hf_27 (by omega)).fr hf_30 (by omega)).2.2 15 (by decide)).2.2.1) co_Ro_copy im_Ro_copy se_Ro_copy in_Ro gc_Ro_copy ml_St_61 ⟨Nat.le_of_ble_eq_true rfl, Nat.le_of_ble_eq_true rfl⟩ hK (hS_29.2.2 15 (by decide)).1 rfl ⟨(hS_29.2.2 15 (by decide)), (((((hPf.fr hf_21 (by omega)).fr hf_24 (by omega)).fr hf_27 (by omega)).fr hf_30 (by omega)).2.2 15 (by decide))⟩ rfl hl.1 rfl (Nat.le_of_ble_eq_true rfl) d_St_copy_156 ⟨Nat.le_of_ble_eq_true rfl, Nat.le_of_ble_eq_true rfl⟩ (g_wv (free := gRg b (b + 36)) hL (gRg.mono (by omega) (by omega)) (fun H_31 locs hL ⟨hR_32, hf_33⟩ => ?_))
        have hS_32 := hS_29.up 15 (by decide) hR_32 hf_33
        refine lv_aload_n hx hb d_St_copy_159 rfl (lv_at hl 1 rfl) ?_
        refine g_get C0 hK il_St hS_32.1 rfl 12 (by decide) fl_St_51 rfl d_St_copy_160 ?_
        refine lv_aload_n hx hb d_St_copy_163 rfl (lv_at hl 2 rfl) ?_
        refine g_get C0 hK il_St (((((hPf.fr hf_21 (by omega)).fr hf_24 (by omega)).fr hf_27 (by omega)).fr hf_30 (by omega)).fr hf_33 (by omega)).1 rfl 12 (by decide) fl_St_51 rfl d_St_copy_164 ?_
        refine g_V C0 (k_Ro_copy l G (b + 22) 10 (f + 22) 10 ((cpL Y F 11).2 16) (F.2 16) (by omega) ((((((hPf.fr hf_21 (by omega)).fr hf_24 (by omega)).fr hf_27 (by omega)).fr hf_30 (by omega)).fr hf_33 (by omega)).2.2 16 (by decide)).2.2.1) co_Ro_copy im_Ro_copy se_Ro_copy in_Ro gc_Ro_copy ml_St_61 ⟨Nat.le_of_ble_eq_true rfl, Nat.le_of_ble_eq_true rfl⟩ hK (hS_32.2.2 16 (by decide)).1 rfl ⟨(hS_32.2.2 16 (by decide)), ((((((hPf.fr hf_21 (by omega)).fr hf_24 (by omega)).fr hf_27 (by omega)).fr hf_30 (by omega)).fr hf_33 (by omega)).2.2 16 (by decide))⟩ rfl hl.1 rfl (Nat.le_of_ble_eq_true rfl) d_St_copy_167 ⟨Nat.le_of_ble_eq_true rfl, Nat.le_of_ble_eq_true rfl⟩ (g_wv (free := gRg b (b + 36)) hL (gRg.mono (by omega) (by omega)) (fun H_34 locs hL ⟨hR_35, hf_36⟩ => ?_))
        have hS_35 := hS_32.up 16 (by decide) hR_35 hf_36
        refine g_vret C0 hlk hr d_St_copy_170 hL ?_
        exact ⟨rfl, (show StAt G b (cpL Y F 17) _ by rw [← cpL_s, ← cpL_s, ← cpL_s, ← cpL_s, ← cpL_s, ← cpL_s]; exact hS_35), ((((((hF.tr (hf_21.mono (by omega) (by omega))).tr (hf_24.mono (by omega) (by omega))).tr (hf_27.mono (by omega) (by omega))).tr (hf_30.mono (by omega) (by omega))).tr (hf_33.mono (by omega) (by omega))).tr (hf_36.mono (by omega) (by omega)))⟩
      · skip
        refine lv_iconst (v := nI 0) hx hb d_St_copy_70 (by decide +kernel) ?_
        refine lv_istore_n (lv' := [(3, .int (nI 0)), (2, .int (nI i)), (0, .ref b), (1, .ref f)]) hx hb d_St_copy_71 rfl hl (by decide) rfl (fun ls hl => ?_)
        have lp72 : ∀ (fu : Nat) (j : Nat) (H : Heap) (locs : List Loc), (3 - j) < fu → j ≤ 3 → (∀ qq ∈ locs, (gRg b (b + 36)) qq.base) → StAt G b (cpL Y F (5 + lix i j)) H → StAt G f F H → gFr b (b + 36) s.heap H → ∀ ls : Array Slot, lv_has ls 4 [(3, .int (nI j)), (2, .int (nI i)), (0, .ref b), (1, .ref f)] → W p l e ({ frames := 3, cells := 0, slots := 0, locals := 61 } : Room) s m args below meth c H locs 0 0 (MQ below (gQ (wv (fun H H1 => StAt G b (cpL Y F 17) H1 ∧ gFr b (b + 36) H H1))) args s 0 0 (gRg b (b + 36))) (F0 m 72 ls []) := by
          intro fu
          induction fu with
          | zero => intro j H locs hfu; exact absurd hfu (Nat.not_lt_zero _)
          | succ fu ih72 =>
            intro j H locs hfu hj hL hP hPf hF ls hl
            refine lv_iload_n hx hb d_St_copy_72 rfl (lv_at hl 0 rfl) ?_
            refine lv_iconst (v := nI 3) hx hb d_St_copy_73 (by decide +kernel) ?_
            refine g_cge (tgt := 98) C0 d_St_copy_74 (by decide) (by omega) (by omega) (fun c_74 => ?_) (fun c_74 => ?_)
            · skip
              refine lv_iinc (v := (nI (i + 1))) (lv' := [(2, .int (nI (i + 1))), (3, .int (nI j)), (0, .ref b), (1, .ref f)]) hx hb d_St_copy_98 hl (k := 1) rfl (gI_inc _) (by decide) rfl (fun ls hl => ?_)
              refine lv_goto (tgt := 65) hx hb d_St_copy_101 (by decide) ?_
              exact ih65 (i + 1) H locs (by omega) (by omega) hL (by rw [show lix (i + 1) 0 = lix i j by unfold lix; omega]; exact hP) hPf hF ls (lv_sub hl [0, 2, 3] rfl)
            · skip
              have hlix := lix_lt (c := i) (k := j) (by omega) (by omega)
              refine lv_aload_n hx hb d_St_copy_77 rfl (lv_at hl 2 rfl) ?_
              refine lv_iload_n hx hb d_St_copy_78 rfl (lv_at hl 1 rfl) ?_
              refine lv_iload_n hx hb d_St_copy_79 rfl (lv_at hl 0 rfl) ?_
              refine g_V C0 (k_St_listOfN l G b (cpL Y F (5 + lix i j)) i j (by omega) (by omega)) co_St_listOf im_St_listOf se_St_listOf in_St gc_St_listOf ml_St_65 ⟨Nat.le_of_ble_eq_true rfl, Nat.le_of_ble_eq_true rfl⟩ hK hP.1 rfl hP rfl hl.1 rfl (Nat.le_of_ble_eq_true rfl) d_St_copy_80 ⟨Nat.le_of_ble_eq_true rfl, Nat.le_of_ble_eq_true rfl⟩ (g_r rfl ?_)
              refine lv_aload_n hx hb d_St_copy_83 rfl (lv_at hl 3 rfl) ?_
              refine lv_iload_n hx hb d_St_copy_84 rfl (lv_at hl 1 rfl) ?_
              refine lv_iload_n hx hb d_St_copy_85 rfl (lv_at hl 0 rfl) ?_
              refine g_V C0 (k_St_listOfN l G f F i j (by omega) (by omega)) co_St_listOf im_St_listOf se_St_listOf in_St gc_St_listOf ml_St_65 ⟨Nat.le_of_ble_eq_true rfl, Nat.le_of_ble_eq_true rfl⟩ hK hPf.1 rfl hPf rfl hl.1 rfl (Nat.le_of_ble_eq_true rfl) d_St_copy_86 ⟨Nat.le_of_ble_eq_true rfl, Nat.le_of_ble_eq_true rfl⟩ (g_r rfl ?_)
              refine g_S C0 (k_St_copyList l G (b + 24 + 2 * lix i j) 8 (f + 24 + 2 * lix i j) 8 ((cpL Y F (5 + lix i j)).2 (5 + (lix i j))) (F.2 (5 + (lix i j))) (by omega) (hPf.ls (lix_lt (by omega) (by omega))).2.2.1) co_St_copyList sm_St_copyList in_St gc_St_copyList ml_St_69 ⟨Nat.le_of_ble_eq_true rfl, Nat.le_of_ble_eq_true rfl⟩ hK ⟨(hP.ls (lix_lt (by omega) (by omega))), (hPf.ls (lix_lt (by omega) (by omega)))⟩ rfl hl.1 rfl (Nat.le_of_ble_eq_true rfl) d_St_copy_89 ⟨Nat.le_of_ble_eq_true rfl, Nat.le_of_ble_eq_true rfl⟩ (g_wv (free := gRg b (b + 36)) hL (gRg.mono (by omega) (by omega)) (fun H_37 locs hL ⟨hR_38, hf_39⟩ => ?_))
              have hS_38 := hP.upl (lix_lt (by omega) (by omega)) hR_38 hf_39
              refine lv_iinc (v := (nI (j + 1))) (lv' := [(3, .int (nI (j + 1))), (2, .int (nI i)), (0, .ref b), (1, .ref f)]) hx hb d_St_copy_92 hl (k := 0) rfl (gI_inc _) (by decide) rfl (fun ls hl => ?_)
              refine lv_goto (tgt := 72) hx hb d_St_copy_95 (by decide) ?_
              exact ih72 (j + 1) H_37 locs (by omega) (by omega) hL (by have h := hS_38; rw [cpL_s (n := 5 + lix i j)] at h; exact h) (hPf.fr hf_39 (by omega)) (hF.tr (hf_39.mono (by omega) (by omega))) ls (lv_sub hl [0, 1, 2, 3] rfl)
        exact lp72 ((3 - 0) + 1) 0 H locs (by omega) (by omega) hL hP hPf hF ls (lv_sub hl [0, 1, 2, 3] rfl)
  exact lp65 ((2 - 0) + 1) 0 H_16 locs (by omega) (by omega) hL (show StAt G b (cpL Y F 5) _ by rw [← cpL_s, ← cpL_s, ← cpL_s, ← cpL_s, ← cpL_s, cpL_0]; exact hS_17) ((((((hP.2.ch hc_3 (by omega)).fr hf_6 (by omega)).fr hf_9 (by omega)).fr hf_12 (by omega)).fr hf_15 (by omega)).fr hf_18 (by omega)) ((((((gFr.rf.tr (gFr.ch hc_3 (by omega) (by omega))).tr (hf_6.mono (by omega) (by omega))).tr (hf_9.mono (by omega) (by omega))).tr (hf_12.mono (by omega) (by omega))).tr (hf_15.mono (by omega) (by omega))).tr (hf_18.mono (by omega) (by omega))) ls (lv_sub hl [0, 1, 2] rfl)

set_option maxHeartbeats 4000000 in
set_option maxRecDepth 100000 in
theorem k_St_init (l : Launch) (G : gT) (b : Nat) : gM l y_St_init c_St_init 2 none 2 35 35 329 G [.ref b] (fun H => H.size = b + 1 ∧ gE G b (eO 4 [.int 0, .null, .null, .null, .null, .null, .null, .null, .null, .null, .null, .null, .null]) H) (wv (fun H H1 => H1.size = b + 36 ∧ StAt G b inS H1 ∧ gGr b H H1)) (gAb b) := by
  refine g_enter "GaleNames$State" (by decide +kernel) rfl (Nat.le_of_ble_eq_true rfl) ?_
  intro p e s m args below meth c C0 hlk hr hnm hP hK ls hl
  have hx := C0.1
  have hb := C0.2.1
  have hl : lv_has ls 2 [(0, .ref b)] := hl
  refine lv_aload_n hx hb d_St_init_0 rfl (lv_at hl 0 rfl) ?_
  refine g_oi C0 hl.1 ml_St_3 d_St_init_1 (Nat.le_of_ble_eq_true rfl) (Nat.le_of_ble_eq_true rfl) ?_
  refine lv_aload_n hx hb d_St_init_4 rfl (lv_at hl 0 rfl) ?_
  refine g_new (ci := 2) (fs := [.null, .int 0]) C0 hK il_Ro t_Ro tk_Ro cl_St_9 is_Ro in_Ro rfl (dv_Ro) (Nat.le_of_ble_eq_true rfl) (Nat.le_of_ble_eq_true rfl) d_St_init_5 hP.1 (fun H_1 hA_2 hz_3 hq_4 => ?_)
  refine W.widen (k := 1) (n := 2) (by omega) (by omega) ?_
  refine lv_dup hx hb d_St_init_8 rfl ?_
  refine lv_iconst (v := nI 3) hx hb d_St_init_9 (by decide +kernel) ?_
  refine g_I C0 (k_Ro_init l G (b + 1) 3 (by omega)) co_Ro_init im_Ro_init rfl in_Ro gc_Ro_init ml_St_11 ⟨Nat.le_of_ble_eq_true rfl, Nat.le_of_ble_eq_true rfl⟩ hK ⟨hz_3, hA_2⟩ rfl hl.1 rfl (Nat.le_of_ble_eq_true rfl) d_St_init_10 ⟨Nat.le_of_ble_eq_true rfl, Nat.le_of_ble_eq_true rfl⟩ (g_wa (free := gAb b) (t_nil (free := gAb b)) (fun q h => gAb.mk (Nat.le_trans (by omega) h)) (fun H_5 locs hL ⟨hz_6, hR_7, hg_8⟩ => ?_))
  refine W.widen (k := 2) (n := 5) (by omega) (by omega) ?_
  refine g_putF (free := gAb b) C0 hK il_St tk_St nm_St ((hP.2.nw hq_4 (by omega)).gr hg_8 (by omega)) rfl 1 (by decide) fl_St_14 rfl hnm rfl rfl rfl (Nat.le_of_ble_eq_true rfl) d_St_init_13 hL (gAb.mk (by omega)) (fun H_9 locs hL hA_10 hc_11 => ?_)
  have hA_10 : gE G b (eO 4 [.int (nI 0), .ref (b + 1), .null, .null, .null, .null, .null, .null, .null, .null, .null, .null, .null]) H_9 := hA_10
  refine lv_aload_n hx hb d_St_init_16 rfl (lv_at hl 0 rfl) ?_
  refine g_new (ci := 2) (fs := [.null, .int 0]) C0 hK il_Ro t_Ro tk_Ro cl_St_9 is_Ro in_Ro rfl (dv_Ro) (Nat.le_of_ble_eq_true rfl) (Nat.le_of_ble_eq_true rfl) d_St_init_17 (hc_11.1.trans hz_6) (fun H_12 hA_13 hz_14 hq_15 => ?_)
  refine W.widen (k := 3) (n := 7) (by omega) (by omega) ?_
  refine lv_dup hx hb d_St_init_20 rfl ?_
  refine lv_bipush (v := nI 40) hx hb d_St_init_21 (by decide +kernel) ?_
  refine g_I C0 (k_Ro_init l G (b + 3) 40 (by omega)) co_Ro_init im_Ro_init rfl in_Ro gc_Ro_init ml_St_11 ⟨Nat.le_of_ble_eq_true rfl, Nat.le_of_ble_eq_true rfl⟩ hK ⟨hz_14, hA_13⟩ rfl hl.1 rfl (Nat.le_of_ble_eq_true rfl) d_St_init_23 ⟨Nat.le_of_ble_eq_true rfl, Nat.le_of_ble_eq_true rfl⟩ (g_wa (free := gAb b) hL (fun q h => gAb.mk (Nat.le_trans (by omega) h)) (fun H_16 locs hL ⟨hz_17, hR_18, hg_19⟩ => ?_))
  refine W.widen (k := 4) (n := 47) (by omega) (by omega) ?_
  refine g_putF (free := gAb b) C0 hK il_St tk_St nm_St ((hA_10.nw hq_15 (by omega)).gr hg_19 (by omega)) rfl 2 (by decide) fl_St_20 rfl hnm rfl rfl rfl (Nat.le_of_ble_eq_true rfl) d_St_init_26 hL (gAb.mk (by omega)) (fun H_20 locs hL hA_21 hc_22 => ?_)
  have hA_21 : gE G b (eO 4 [.int (nI 0), .ref (b + 1), .ref (b + 3), .null, .null, .null, .null, .null, .null, .null, .null, .null, .null]) H_20 := hA_21
  refine lv_aload_n hx hb d_St_init_29 rfl (lv_at hl 0 rfl) ?_
  refine g_new (ci := 2) (fs := [.null, .int 0]) C0 hK il_Ro t_Ro tk_Ro cl_St_9 is_Ro in_Ro rfl (dv_Ro) (Nat.le_of_ble_eq_true rfl) (Nat.le_of_ble_eq_true rfl) d_St_init_30 (hc_22.1.trans hz_17) (fun H_23 hA_24 hz_25 hq_26 => ?_)
  refine W.widen (k := 5) (n := 49) (by omega) (by omega) ?_
  refine lv_dup hx hb d_St_init_33 rfl ?_
  refine lv_bipush (v := nI 40) hx hb d_St_init_34 (by decide +kernel) ?_
  refine g_I C0 (k_Ro_init l G (b + 5) 40 (by omega)) co_Ro_init im_Ro_init rfl in_Ro gc_Ro_init ml_St_11 ⟨Nat.le_of_ble_eq_true rfl, Nat.le_of_ble_eq_true rfl⟩ hK ⟨hz_25, hA_24⟩ rfl hl.1 rfl (Nat.le_of_ble_eq_true rfl) d_St_init_36 ⟨Nat.le_of_ble_eq_true rfl, Nat.le_of_ble_eq_true rfl⟩ (g_wa (free := gAb b) hL (fun q h => gAb.mk (Nat.le_trans (by omega) h)) (fun H_27 locs hL ⟨hz_28, hR_29, hg_30⟩ => ?_))
  refine W.widen (k := 6) (n := 89) (by omega) (by omega) ?_
  refine g_putF (free := gAb b) C0 hK il_St tk_St nm_St ((hA_21.nw hq_26 (by omega)).gr hg_30 (by omega)) rfl 3 (by decide) fl_St_23 rfl hnm rfl rfl rfl (Nat.le_of_ble_eq_true rfl) d_St_init_39 hL (gAb.mk (by omega)) (fun H_31 locs hL hA_32 hc_33 => ?_)
  have hA_32 : gE G b (eO 4 [.int (nI 0), .ref (b + 1), .ref (b + 3), .ref (b + 5), .null, .null, .null, .null, .null, .null, .null, .null, .null]) H_31 := hA_32
  refine lv_aload_n hx hb d_St_init_42 rfl (lv_at hl 0 rfl) ?_
  refine g_new (ci := 2) (fs := [.null, .int 0]) C0 hK il_Ro t_Ro tk_Ro cl_St_9 is_Ro in_Ro rfl (dv_Ro) (Nat.le_of_ble_eq_true rfl) (Nat.le_of_ble_eq_true rfl) d_St_init_43 (hc_33.1.trans hz_28) (fun H_34 hA_35 hz_36 hq_37 => ?_)
  refine W.widen (k := 7) (n := 91) (by omega) (by omega) ?_
  refine lv_dup hx hb d_St_init_46 rfl ?_
  refine lv_bipush (v := nI 40) hx hb d_St_init_47 (by decide +kernel) ?_
  refine g_I C0 (k_Ro_init l G (b + 7) 40 (by omega)) co_Ro_init im_Ro_init rfl in_Ro gc_Ro_init ml_St_11 ⟨Nat.le_of_ble_eq_true rfl, Nat.le_of_ble_eq_true rfl⟩ hK ⟨hz_36, hA_35⟩ rfl hl.1 rfl (Nat.le_of_ble_eq_true rfl) d_St_init_49 ⟨Nat.le_of_ble_eq_true rfl, Nat.le_of_ble_eq_true rfl⟩ (g_wa (free := gAb b) hL (fun q h => gAb.mk (Nat.le_trans (by omega) h)) (fun H_38 locs hL ⟨hz_39, hR_40, hg_41⟩ => ?_))
  refine W.widen (k := 8) (n := 131) (by omega) (by omega) ?_
  refine g_putF (free := gAb b) C0 hK il_St tk_St nm_St ((hA_32.nw hq_37 (by omega)).gr hg_41 (by omega)) rfl 4 (by decide) fl_St_26 rfl hnm rfl rfl rfl (Nat.le_of_ble_eq_true rfl) d_St_init_52 hL (gAb.mk (by omega)) (fun H_42 locs hL hA_43 hc_44 => ?_)
  have hA_43 : gE G b (eO 4 [.int (nI 0), .ref (b + 1), .ref (b + 3), .ref (b + 5), .ref (b + 7), .null, .null, .null, .null, .null, .null, .null, .null]) H_42 := hA_43
  refine lv_aload_n hx hb d_St_init_55 rfl (lv_at hl 0 rfl) ?_
  refine g_new (ci := 2) (fs := [.null, .int 0]) C0 hK il_Ro t_Ro tk_Ro cl_St_9 is_Ro in_Ro rfl (dv_Ro) (Nat.le_of_ble_eq_true rfl) (Nat.le_of_ble_eq_true rfl) d_St_init_56 (hc_44.1.trans hz_39) (fun H_45 hA_46 hz_47 hq_48 => ?_)
  refine W.widen (k := 9) (n := 133) (by omega) (by omega) ?_
  refine lv_dup hx hb d_St_init_59 rfl ?_
  refine lv_bipush (v := nI 40) hx hb d_St_init_60 (by decide +kernel) ?_
  refine g_I C0 (k_Ro_init l G (b + 9) 40 (by omega)) co_Ro_init im_Ro_init rfl in_Ro gc_Ro_init ml_St_11 ⟨Nat.le_of_ble_eq_true rfl, Nat.le_of_ble_eq_true rfl⟩ hK ⟨hz_47, hA_46⟩ rfl hl.1 rfl (Nat.le_of_ble_eq_true rfl) d_St_init_62 ⟨Nat.le_of_ble_eq_true rfl, Nat.le_of_ble_eq_true rfl⟩ (g_wa (free := gAb b) hL (fun q h => gAb.mk (Nat.le_trans (by omega) h)) (fun H_49 locs hL ⟨hz_50, hR_51, hg_52⟩ => ?_))
  refine W.widen (k := 10) (n := 173) (by omega) (by omega) ?_
  refine g_putF (free := gAb b) C0 hK il_St tk_St nm_St ((hA_43.nw hq_48 (by omega)).gr hg_52 (by omega)) rfl 5 (by decide) fl_St_29 rfl hnm rfl rfl rfl (Nat.le_of_ble_eq_true rfl) d_St_init_65 hL (gAb.mk (by omega)) (fun H_53 locs hL hA_54 hc_55 => ?_)
  have hA_54 : gE G b (eO 4 [.int (nI 0), .ref (b + 1), .ref (b + 3), .ref (b + 5), .ref (b + 7), .ref (b + 9), .null, .null, .null, .null, .null, .null, .null]) H_53 := hA_54
  refine lv_aload_n hx hb d_St_init_68 rfl (lv_at hl 0 rfl) ?_
  refine lv_bipush (v := nI 6) hx hb d_St_init_69 (by decide +kernel) ?_
  refine g_newqRo C0 hK cl_St_9 (by omega) (Nat.le_of_ble_eq_true rfl) (Nat.le_of_ble_eq_true rfl) d_St_init_71 (hc_55.1.trans hz_50) (fun H_56 hA_57 hz_58 hq_59 => ?_)
  refine W.widen (k := 11) (n := 179) (by omega) (by omega) ?_
  refine g_putF (free := gAb b) C0 hK il_St tk_St nm_St (hA_54.nw hq_59 (by omega)) rfl 6 (by decide) fl_St_32 rfl hnm rfl rfl rfl (Nat.le_of_ble_eq_true rfl) d_St_init_74 hL (gAb.mk (by omega)) (fun H_60 locs hL hA_61 hc_62 => ?_)
  have hA_61 : gE G b (eO 4 [.int (nI 0), .ref (b + 1), .ref (b + 3), .ref (b + 5), .ref (b + 7), .ref (b + 9), .ref (b + 11), .null, .null, .null, .null, .null, .null]) H_60 := hA_61
  refine lv_aload_n hx hb d_St_init_77 rfl (lv_at hl 0 rfl) ?_
  refine g_new (ci := 2) (fs := [.null, .int 0]) C0 hK il_Ro t_Ro tk_Ro cl_St_9 is_Ro in_Ro rfl (dv_Ro) (Nat.le_of_ble_eq_true rfl) (Nat.le_of_ble_eq_true rfl) d_St_init_78 (hc_62.1.trans hz_58) (fun H_63 hA_64 hz_65 hq_66 => ?_)
  refine W.widen (k := 12) (n := 181) (by omega) (by omega) ?_
  refine lv_dup hx hb d_St_init_81 rfl ?_
  refine lv_bipush (v := nI 16) hx hb d_St_init_82 (by decide +kernel) ?_
  refine g_I C0 (k_Ro_init l G (b + 12) 16 (by omega)) co_Ro_init im_Ro_init rfl in_Ro gc_Ro_init ml_St_11 ⟨Nat.le_of_ble_eq_true rfl, Nat.le_of_ble_eq_true rfl⟩ hK ⟨hz_65, hA_64⟩ rfl hl.1 rfl (Nat.le_of_ble_eq_true rfl) d_St_init_84 ⟨Nat.le_of_ble_eq_true rfl, Nat.le_of_ble_eq_true rfl⟩ (g_wa (free := gAb b) hL (fun q h => gAb.mk (Nat.le_trans (by omega) h)) (fun H_67 locs hL ⟨hz_68, hR_69, hg_70⟩ => ?_))
  refine W.widen (k := 13) (n := 197) (by omega) (by omega) ?_
  refine g_putF (free := gAb b) C0 hK il_St tk_St nm_St ((hA_61.nw hq_66 (by omega)).gr hg_70 (by omega)) rfl 7 (by decide) fl_St_36 rfl hnm rfl rfl rfl (Nat.le_of_ble_eq_true rfl) d_St_init_87 hL (gAb.mk (by omega)) (fun H_71 locs hL hA_72 hc_73 => ?_)
  have hA_72 : gE G b (eO 4 [.int (nI 0), .ref (b + 1), .ref (b + 3), .ref (b + 5), .ref (b + 7), .ref (b + 9), .ref (b + 11), .ref (b + 12), .null, .null, .null, .null, .null]) H_71 := hA_72
  refine lv_aload_n hx hb d_St_init_90 rfl (lv_at hl 0 rfl) ?_
  refine g_new (ci := 2) (fs := [.null, .int 0]) C0 hK il_Ro t_Ro tk_Ro cl_St_9 is_Ro in_Ro rfl (dv_Ro) (Nat.le_of_ble_eq_true rfl) (Nat.le_of_ble_eq_true rfl) d_St_init_91 (hc_73.1.trans hz_68) (fun H_74 hA_75 hz_76 hq_77 => ?_)
  refine W.widen (k := 14) (n := 199) (by omega) (by omega) ?_
  refine lv_dup hx hb d_St_init_94 rfl ?_
  refine lv_bipush (v := nI 16) hx hb d_St_init_95 (by decide +kernel) ?_
  refine g_I C0 (k_Ro_init l G (b + 14) 16 (by omega)) co_Ro_init im_Ro_init rfl in_Ro gc_Ro_init ml_St_11 ⟨Nat.le_of_ble_eq_true rfl, Nat.le_of_ble_eq_true rfl⟩ hK ⟨hz_76, hA_75⟩ rfl hl.1 rfl (Nat.le_of_ble_eq_true rfl) d_St_init_97 ⟨Nat.le_of_ble_eq_true rfl, Nat.le_of_ble_eq_true rfl⟩ (g_wa (free := gAb b) hL (fun q h => gAb.mk (Nat.le_trans (by omega) h)) (fun H_78 locs hL ⟨hz_79, hR_80, hg_81⟩ => ?_))
  refine W.widen (k := 15) (n := 215) (by omega) (by omega) ?_
  refine g_putF (free := gAb b) C0 hK il_St tk_St nm_St ((hA_72.nw hq_77 (by omega)).gr hg_81 (by omega)) rfl 8 (by decide) fl_St_39 rfl hnm rfl rfl rfl (Nat.le_of_ble_eq_true rfl) d_St_init_100 hL (gAb.mk (by omega)) (fun H_82 locs hL hA_83 hc_84 => ?_)
  have hA_83 : gE G b (eO 4 [.int (nI 0), .ref (b + 1), .ref (b + 3), .ref (b + 5), .ref (b + 7), .ref (b + 9), .ref (b + 11), .ref (b + 12), .ref (b + 14), .null, .null, .null, .null]) H_82 := hA_83
  refine lv_aload_n hx hb d_St_init_103 rfl (lv_at hl 0 rfl) ?_
  refine g_new (ci := 2) (fs := [.null, .int 0]) C0 hK il_Ro t_Ro tk_Ro cl_St_9 is_Ro in_Ro rfl (dv_Ro) (Nat.le_of_ble_eq_true rfl) (Nat.le_of_ble_eq_true rfl) d_St_init_104 (hc_84.1.trans hz_79) (fun H_85 hA_86 hz_87 hq_88 => ?_)
  refine W.widen (k := 16) (n := 217) (by omega) (by omega) ?_
  refine lv_dup hx hb d_St_init_107 rfl ?_
  refine lv_bipush (v := nI 16) hx hb d_St_init_108 (by decide +kernel) ?_
  refine g_I C0 (k_Ro_init l G (b + 16) 16 (by omega)) co_Ro_init im_Ro_init rfl in_Ro gc_Ro_init ml_St_11 ⟨Nat.le_of_ble_eq_true rfl, Nat.le_of_ble_eq_true rfl⟩ hK ⟨hz_87, hA_86⟩ rfl hl.1 rfl (Nat.le_of_ble_eq_true rfl) d_St_init_110 ⟨Nat.le_of_ble_eq_true rfl, Nat.le_of_ble_eq_true rfl⟩ (g_wa (free := gAb b) hL (fun q h => gAb.mk (Nat.le_trans (by omega) h)) (fun H_89 locs hL ⟨hz_90, hR_91, hg_92⟩ => ?_))
  refine W.widen (k := 17) (n := 233) (by omega) (by omega) ?_
  refine g_putF (free := gAb b) C0 hK il_St tk_St nm_St ((hA_83.nw hq_88 (by omega)).gr hg_92 (by omega)) rfl 9 (by decide) fl_St_42 rfl hnm rfl rfl rfl (Nat.le_of_ble_eq_true rfl) d_St_init_113 hL (gAb.mk (by omega)) (fun H_93 locs hL hA_94 hc_95 => ?_)
  have hA_94 : gE G b (eO 4 [.int (nI 0), .ref (b + 1), .ref (b + 3), .ref (b + 5), .ref (b + 7), .ref (b + 9), .ref (b + 11), .ref (b + 12), .ref (b + 14), .ref (b + 16), .null, .null, .null]) H_93 := hA_94
  refine lv_aload_n hx hb d_St_init_116 rfl (lv_at hl 0 rfl) ?_
  refine g_new (ci := 2) (fs := [.null, .int 0]) C0 hK il_Ro t_Ro tk_Ro cl_St_9 is_Ro in_Ro rfl (dv_Ro) (Nat.le_of_ble_eq_true rfl) (Nat.le_of_ble_eq_true rfl) d_St_init_117 (hc_95.1.trans hz_90) (fun H_96 hA_97 hz_98 hq_99 => ?_)
  refine W.widen (k := 18) (n := 235) (by omega) (by omega) ?_
  refine lv_dup hx hb d_St_init_120 rfl ?_
  refine lv_bipush (v := nI 10) hx hb d_St_init_121 (by decide +kernel) ?_
  refine g_I C0 (k_Ro_init l G (b + 18) 10 (by omega)) co_Ro_init im_Ro_init rfl in_Ro gc_Ro_init ml_St_11 ⟨Nat.le_of_ble_eq_true rfl, Nat.le_of_ble_eq_true rfl⟩ hK ⟨hz_98, hA_97⟩ rfl hl.1 rfl (Nat.le_of_ble_eq_true rfl) d_St_init_123 ⟨Nat.le_of_ble_eq_true rfl, Nat.le_of_ble_eq_true rfl⟩ (g_wa (free := gAb b) hL (fun q h => gAb.mk (Nat.le_trans (by omega) h)) (fun H_100 locs hL ⟨hz_101, hR_102, hg_103⟩ => ?_))
  refine W.widen (k := 19) (n := 245) (by omega) (by omega) ?_
  refine g_putF (free := gAb b) C0 hK il_St tk_St nm_St ((hA_94.nw hq_99 (by omega)).gr hg_103 (by omega)) rfl 10 (by decide) fl_St_45 rfl hnm rfl rfl rfl (Nat.le_of_ble_eq_true rfl) d_St_init_126 hL (gAb.mk (by omega)) (fun H_104 locs hL hA_105 hc_106 => ?_)
  have hA_105 : gE G b (eO 4 [.int (nI 0), .ref (b + 1), .ref (b + 3), .ref (b + 5), .ref (b + 7), .ref (b + 9), .ref (b + 11), .ref (b + 12), .ref (b + 14), .ref (b + 16), .ref (b + 18), .null, .null]) H_104 := hA_105
  refine lv_aload_n hx hb d_St_init_129 rfl (lv_at hl 0 rfl) ?_
  refine g_new (ci := 2) (fs := [.null, .int 0]) C0 hK il_Ro t_Ro tk_Ro cl_St_9 is_Ro in_Ro rfl (dv_Ro) (Nat.le_of_ble_eq_true rfl) (Nat.le_of_ble_eq_true rfl) d_St_init_130 (hc_106.1.trans hz_101) (fun H_107 hA_108 hz_109 hq_110 => ?_)
  refine W.widen (k := 20) (n := 247) (by omega) (by omega) ?_
  refine lv_dup hx hb d_St_init_133 rfl ?_
  refine lv_bipush (v := nI 10) hx hb d_St_init_134 (by decide +kernel) ?_
  refine g_I C0 (k_Ro_init l G (b + 20) 10 (by omega)) co_Ro_init im_Ro_init rfl in_Ro gc_Ro_init ml_St_11 ⟨Nat.le_of_ble_eq_true rfl, Nat.le_of_ble_eq_true rfl⟩ hK ⟨hz_109, hA_108⟩ rfl hl.1 rfl (Nat.le_of_ble_eq_true rfl) d_St_init_136 ⟨Nat.le_of_ble_eq_true rfl, Nat.le_of_ble_eq_true rfl⟩ (g_wa (free := gAb b) hL (fun q h => gAb.mk (Nat.le_trans (by omega) h)) (fun H_111 locs hL ⟨hz_112, hR_113, hg_114⟩ => ?_))
  refine W.widen (k := 21) (n := 257) (by omega) (by omega) ?_
  refine g_putF (free := gAb b) C0 hK il_St tk_St nm_St ((hA_105.nw hq_110 (by omega)).gr hg_114 (by omega)) rfl 11 (by decide) fl_St_48 rfl hnm rfl rfl rfl (Nat.le_of_ble_eq_true rfl) d_St_init_139 hL (gAb.mk (by omega)) (fun H_115 locs hL hA_116 hc_117 => ?_)
  have hA_116 : gE G b (eO 4 [.int (nI 0), .ref (b + 1), .ref (b + 3), .ref (b + 5), .ref (b + 7), .ref (b + 9), .ref (b + 11), .ref (b + 12), .ref (b + 14), .ref (b + 16), .ref (b + 18), .ref (b + 20), .null]) H_115 := hA_116
  refine lv_aload_n hx hb d_St_init_142 rfl (lv_at hl 0 rfl) ?_
  refine g_new (ci := 2) (fs := [.null, .int 0]) C0 hK il_Ro t_Ro tk_Ro cl_St_9 is_Ro in_Ro rfl (dv_Ro) (Nat.le_of_ble_eq_true rfl) (Nat.le_of_ble_eq_true rfl) d_St_init_143 (hc_117.1.trans hz_112) (fun H_118 hA_119 hz_120 hq_121 => ?_)
  refine W.widen (k := 22) (n := 259) (by omega) (by omega) ?_
  refine lv_dup hx hb d_St_init_146 rfl ?_
  refine lv_bipush (v := nI 10) hx hb d_St_init_147 (by decide +kernel) ?_
  refine g_I C0 (k_Ro_init l G (b + 22) 10 (by omega)) co_Ro_init im_Ro_init rfl in_Ro gc_Ro_init ml_St_11 ⟨Nat.le_of_ble_eq_true rfl, Nat.le_of_ble_eq_true rfl⟩ hK ⟨hz_120, hA_119⟩ rfl hl.1 rfl (Nat.le_of_ble_eq_true rfl) d_St_init_149 ⟨Nat.le_of_ble_eq_true rfl, Nat.le_of_ble_eq_true rfl⟩ (g_wa (free := gAb b) hL (fun q h => gAb.mk (Nat.le_trans (by omega) h)) (fun H_122 locs hL ⟨hz_123, hR_124, hg_125⟩ => ?_))
  refine W.widen (k := 23) (n := 269) (by omega) (by omega) ?_
  refine g_putF (free := gAb b) C0 hK il_St tk_St nm_St ((hA_116.nw hq_121 (by omega)).gr hg_125 (by omega)) rfl 12 (by decide) fl_St_51 rfl hnm rfl rfl rfl (Nat.le_of_ble_eq_true rfl) d_St_init_152 hL (gAb.mk (by omega)) (fun H_126 locs hL hA_127 hc_128 => ?_)
  have hA_127 : gE G b (eO 4 [.int (nI 0), .ref (b + 1), .ref (b + 3), .ref (b + 5), .ref (b + 7), .ref (b + 9), .ref (b + 11), .ref (b + 12), .ref (b + 14), .ref (b + 16), .ref (b + 18), .ref (b + 20), .ref (b + 22)]) H_126 := hA_127
  refine lv_aload_n hx hb d_St_init_155 rfl (lv_at hl 0 rfl) ?_
  refine g_get C0 hK il_St hA_127 rfl 1 (by decide) fl_St_14 rfl d_St_init_156 ?_
  refine lv_bipush (v := nI 30) hx hb d_St_init_159 (by decide +kernel) ?_
  refine g_V C0 (k_Ro_add l G (b + 1) 3 (0, fun _ => 0) 30) co_Ro_add im_Ro_add se_Ro_add in_Ro gc_Ro_add ml_St_54 ⟨Nat.le_of_ble_eq_true rfl, Nat.le_of_ble_eq_true rfl⟩ hK (((((((((((((((((((((((((((((((((hR_7.ch hc_11 (by omega)).nw hq_15 (by omega)).gr hg_19 (by omega)).ch hc_22 (by omega)).nw hq_26 (by omega)).gr hg_30 (by omega)).ch hc_33 (by omega)).nw hq_37 (by omega)).gr hg_41 (by omega)).ch hc_44 (by omega)).nw hq_48 (by omega)).gr hg_52 (by omega)).ch hc_55 (by omega)).nw hq_59 (by omega)).ch hc_62 (by omega)).nw hq_66 (by omega)).gr hg_70 (by omega)).ch hc_73 (by omega)).nw hq_77 (by omega)).gr hg_81 (by omega)).ch hc_84 (by omega)).nw hq_88 (by omega)).gr hg_92 (by omega)).ch hc_95 (by omega)).nw hq_99 (by omega)).gr hg_103 (by omega)).ch hc_106 (by omega)).nw hq_110 (by omega)).gr hg_114 (by omega)).ch hc_117 (by omega)).nw hq_121 (by omega)).gr hg_125 (by omega)).ch hc_128 (by omega)).1 rfl (((((((((((((((((((((((((((((((((hR_7.ch hc_11 (by omega)).nw hq_15 (by omega)).gr hg_19 (by omega)).ch hc_22 (by omega)).nw hq_26 (by omega)).gr hg_30 (by omega)).ch hc_33 (by omega)).nw hq_37 (by omega)).gr hg_41 (by omega)).ch hc_44 (by omega)).nw hq_48 (by omega)).gr hg_52 (by omega)).ch hc_55 (by omega)).nw hq_59 (by omega)).ch hc_62 (by omega)).nw hq_66 (by omega)).gr hg_70 (by omega)).ch hc_73 (by omega)).nw hq_77 (by omega)).gr hg_81 (by omega)).ch hc_84 (by omega)).nw hq_88 (by omega)).gr hg_92 (by omega)).ch hc_95 (by omega)).nw hq_99 (by omega)).gr hg_103 (by omega)).ch hc_106 (by omega)).nw hq_110 (by omega)).gr hg_114 (by omega)).ch hc_117 (by omega)).nw hq_121 (by omega)).gr hg_125 (by omega)).ch hc_128 (by omega)) rfl hl.1 rfl (Nat.le_of_ble_eq_true rfl) d_St_init_161 ⟨Nat.le_of_ble_eq_true rfl, Nat.le_of_ble_eq_true rfl⟩ (g_wv (free := gAb b) hL (fun q h => gAb.mk (Nat.le_trans (by omega) h.1)) (fun H_129 locs hL ⟨hR_130, hf_131⟩ => ?_))
  refine lv_aload_n hx hb d_St_init_164 rfl (lv_at hl 0 rfl) ?_
  refine g_get C0 hK il_St (hA_127.fr hf_131 (by omega)) rfl 1 (by decide) fl_St_14 rfl d_St_init_165 ?_
  refine lv_bipush (v := nI 10) hx hb d_St_init_168 (by decide +kernel) ?_
  refine g_V C0 (k_Ro_add l G (b + 1) 3 (rAdd 3 (0, fun _ => 0) 30) 10) co_Ro_add im_Ro_add se_Ro_add in_Ro gc_Ro_add ml_St_54 ⟨Nat.le_of_ble_eq_true rfl, Nat.le_of_ble_eq_true rfl⟩ hK hR_130.1 rfl hR_130 rfl hl.1 rfl (Nat.le_of_ble_eq_true rfl) d_St_init_170 ⟨Nat.le_of_ble_eq_true rfl, Nat.le_of_ble_eq_true rfl⟩ (g_wv (free := gAb b) hL (fun q h => gAb.mk (Nat.le_trans (by omega) h.1)) (fun H_132 locs hL ⟨hR_133, hf_134⟩ => ?_))
  refine lv_aload_n hx hb d_St_init_173 rfl (lv_at hl 0 rfl) ?_
  refine g_get C0 hK il_St ((hA_127.fr hf_131 (by omega)).fr hf_134 (by omega)) rfl 1 (by decide) fl_St_14 rfl d_St_init_174 ?_
  refine lv_iconst (v := nI 3) hx hb d_St_init_177 (by decide +kernel) ?_
  refine g_V C0 (k_Ro_add l G (b + 1) 3 (rAdd 3 (rAdd 3 (0, fun _ => 0) 30) 10) 3) co_Ro_add im_Ro_add se_Ro_add in_Ro gc_Ro_add ml_St_54 ⟨Nat.le_of_ble_eq_true rfl, Nat.le_of_ble_eq_true rfl⟩ hK hR_133.1 rfl hR_133 rfl hl.1 rfl (Nat.le_of_ble_eq_true rfl) d_St_init_178 ⟨Nat.le_of_ble_eq_true rfl, Nat.le_of_ble_eq_true rfl⟩ (g_wv (free := gAb b) hL (fun q h => gAb.mk (Nat.le_trans (by omega) h.1)) (fun H_135 locs hL ⟨hR_136, hf_137⟩ => ?_))
  refine lv_iconst (v := nI 0) hx hb d_St_init_181 (by decide +kernel) ?_
  refine lv_istore_n (lv' := [(1, .int (nI 0)), (0, .ref b)]) hx hb d_St_init_182 rfl hl (by decide) rfl (fun ls hl => ?_)
  refine lv_iload_n hx hb d_St_init_183 rfl (lv_at hl 0 rfl) ?_
  refine lv_aload_n hx hb d_St_init_184 rfl (lv_at hl 1 rfl) ?_
  refine g_get C0 hK il_St (((hA_127.fr hf_131 (by omega)).fr hf_134 (by omega)).fr hf_137 (by omega)) rfl 6 (by decide) fl_St_32 rfl d_St_init_185 ?_
  refine g_alen C0 hK 3 ((((((((((((((((((((((hA_57.ch hc_62 (by omega)).nw hq_66 (by omega)).gr hg_70 (by omega)).ch hc_73 (by omega)).nw hq_77 (by omega)).gr hg_81 (by omega)).ch hc_84 (by omega)).nw hq_88 (by omega)).gr hg_92 (by omega)).ch hc_95 (by omega)).nw hq_99 (by omega)).gr hg_103 (by omega)).ch hc_106 (by omega)).nw hq_110 (by omega)).gr hg_114 (by omega)).ch hc_117 (by omega)).nw hq_121 (by omega)).gr hg_125 (by omega)).ch hc_128 (by omega)).fr hf_131 (by omega)).fr hf_134 (by omega)).fr hf_137 (by omega)) rfl d_St_init_188 ?_
  refine g_cge (tgt := 213) C0 d_St_init_189 (by decide) (by omega) (by omega) (fun c_189 => ?_) (fun c_189 => ?_)
  · omega
  · skip
    refine lv_aload_n hx hb d_St_init_192 rfl (lv_at hl 1 rfl) ?_
    refine g_get C0 hK il_St (((hA_127.fr hf_131 (by omega)).fr hf_134 (by omega)).fr hf_137 (by omega)) rfl 6 (by decide) fl_St_32 rfl d_St_init_193 ?_
    refine lv_iload_n hx hb d_St_init_196 rfl (lv_at hl 0 rfl) ?_
    refine g_new (ci := 2) (fs := [.null, .int 0]) C0 hK il_Ro t_Ro tk_Ro cl_St_9 is_Ro in_Ro rfl (dv_Ro) (Nat.le_of_ble_eq_true rfl) (Nat.le_of_ble_eq_true rfl) d_St_init_197 (hf_137.1.trans (hf_134.1.trans (hf_131.1.trans (hc_128.1.trans hz_123)))) (fun H_138 hA_139 hz_140 hq_141 => ?_)
    refine W.widen (k := 24) (n := 271) (by omega) (by omega) ?_
    refine lv_dup hx hb d_St_init_200 rfl ?_
    refine lv_bipush (v := nI 8) hx hb d_St_init_201 (by decide +kernel) ?_
    refine g_I C0 (k_Ro_init l G (b + 24) 8 (by omega)) co_Ro_init im_Ro_init rfl in_Ro gc_Ro_init ml_St_11 ⟨Nat.le_of_ble_eq_true rfl, Nat.le_of_ble_eq_true rfl⟩ hK ⟨hz_140, hA_139⟩ rfl hl.1 rfl (Nat.le_of_ble_eq_true rfl) d_St_init_203 ⟨Nat.le_of_ble_eq_true rfl, Nat.le_of_ble_eq_true rfl⟩ (g_wa (free := gAb b) hL (fun q h => gAb.mk (Nat.le_trans (by omega) h)) (fun H_142 locs hL ⟨hz_143, hR_144, hg_145⟩ => ?_))
    refine W.widen (k := 25) (n := 279) (by omega) (by omega) ?_
    refine g_aast (free := gAb b) C0 hK 3 ((((((((((((((((((((((((hA_57.ch hc_62 (by omega)).nw hq_66 (by omega)).gr hg_70 (by omega)).ch hc_73 (by omega)).nw hq_77 (by omega)).gr hg_81 (by omega)).ch hc_84 (by omega)).nw hq_88 (by omega)).gr hg_92 (by omega)).ch hc_95 (by omega)).nw hq_99 (by omega)).gr hg_103 (by omega)).ch hc_106 (by omega)).nw hq_110 (by omega)).gr hg_114 (by omega)).ch hc_117 (by omega)).nw hq_121 (by omega)).gr hg_125 (by omega)).ch hc_128 (by omega)).fr hf_131 (by omega)).fr hf_134 (by omega)).fr hf_137 (by omega)).nw hq_141 (by omega)).gr hg_145 (by omega)) rfl hR_144.1 rfl (by omega) (by omega) d_St_init_206 hL (gAb.mk (by omega)) (fun H_146 locs hL hA_147 hc_148 => ?_)
    refine lv_iinc (v := (nI 1)) (lv' := [(1, .int (nI 1)), (0, .ref b)]) hx hb d_St_init_207 hl (k := 0) rfl (gI_inc _) (by decide) rfl (fun ls hl => ?_)
    refine lv_goto (tgt := 183) hx hb d_St_init_210 (by decide) ?_
    refine lv_iload_n hx hb d_St_init_183 rfl (lv_at hl 0 rfl) ?_
    refine lv_aload_n hx hb d_St_init_184 rfl (lv_at hl 1 rfl) ?_
    refine g_get C0 hK il_St ((((((hA_127.fr hf_131 (by omega)).fr hf_134 (by omega)).fr hf_137 (by omega)).nw hq_141 (by omega)).gr hg_145 (by omega)).ch hc_148 (by omega)) rfl 6 (by decide) fl_St_32 rfl d_St_init_185 ?_
    refine g_alen C0 hK 3 hA_147 rfl d_St_init_188 ?_
    refine g_cge (tgt := 213) C0 d_St_init_189 (by decide) (by omega) (by omega) (fun c_189 => ?_) (fun c_189 => ?_)
    · omega
    · skip
      refine lv_aload_n hx hb d_St_init_192 rfl (lv_at hl 1 rfl) ?_
      refine g_get C0 hK il_St ((((((hA_127.fr hf_131 (by omega)).fr hf_134 (by omega)).fr hf_137 (by omega)).nw hq_141 (by omega)).gr hg_145 (by omega)).ch hc_148 (by omega)) rfl 6 (by decide) fl_St_32 rfl d_St_init_193 ?_
      refine lv_iload_n hx hb d_St_init_196 rfl (lv_at hl 0 rfl) ?_
      refine g_new (ci := 2) (fs := [.null, .int 0]) C0 hK il_Ro t_Ro tk_Ro cl_St_9 is_Ro in_Ro rfl (dv_Ro) (Nat.le_of_ble_eq_true rfl) (Nat.le_of_ble_eq_true rfl) d_St_init_197 (hc_148.1.trans hz_143) (fun H_149 hA_150 hz_151 hq_152 => ?_)
      refine W.widen (k := 26) (n := 281) (by omega) (by omega) ?_
      refine lv_dup hx hb d_St_init_200 rfl ?_
      refine lv_bipush (v := nI 8) hx hb d_St_init_201 (by decide +kernel) ?_
      refine g_I C0 (k_Ro_init l G (b + 26) 8 (by omega)) co_Ro_init im_Ro_init rfl in_Ro gc_Ro_init ml_St_11 ⟨Nat.le_of_ble_eq_true rfl, Nat.le_of_ble_eq_true rfl⟩ hK ⟨hz_151, hA_150⟩ rfl hl.1 rfl (Nat.le_of_ble_eq_true rfl) d_St_init_203 ⟨Nat.le_of_ble_eq_true rfl, Nat.le_of_ble_eq_true rfl⟩ (g_wa (free := gAb b) hL (fun q h => gAb.mk (Nat.le_trans (by omega) h)) (fun H_153 locs hL ⟨hz_154, hR_155, hg_156⟩ => ?_))
      refine W.widen (k := 27) (n := 289) (by omega) (by omega) ?_
      refine g_aast (free := gAb b) C0 hK 3 ((hA_147.nw hq_152 (by omega)).gr hg_156 (by omega)) rfl hR_155.1 rfl (by omega) (by omega) d_St_init_206 hL (gAb.mk (by omega)) (fun H_157 locs hL hA_158 hc_159 => ?_)
      refine lv_iinc (v := (nI 2)) (lv' := [(1, .int (nI 2)), (0, .ref b)]) hx hb d_St_init_207 hl (k := 0) rfl (gI_inc _) (by decide) rfl (fun ls hl => ?_)
      refine lv_goto (tgt := 183) hx hb d_St_init_210 (by decide) ?_
      refine lv_iload_n hx hb d_St_init_183 rfl (lv_at hl 0 rfl) ?_
      refine lv_aload_n hx hb d_St_init_184 rfl (lv_at hl 1 rfl) ?_
      refine g_get C0 hK il_St (((((((((hA_127.fr hf_131 (by omega)).fr hf_134 (by omega)).fr hf_137 (by omega)).nw hq_141 (by omega)).gr hg_145 (by omega)).ch hc_148 (by omega)).nw hq_152 (by omega)).gr hg_156 (by omega)).ch hc_159 (by omega)) rfl 6 (by decide) fl_St_32 rfl d_St_init_185 ?_
      refine g_alen C0 hK 3 hA_158 rfl d_St_init_188 ?_
      refine g_cge (tgt := 213) C0 d_St_init_189 (by decide) (by omega) (by omega) (fun c_189 => ?_) (fun c_189 => ?_)
      · omega
      · skip
        refine lv_aload_n hx hb d_St_init_192 rfl (lv_at hl 1 rfl) ?_
        refine g_get C0 hK il_St (((((((((hA_127.fr hf_131 (by omega)).fr hf_134 (by omega)).fr hf_137 (by omega)).nw hq_141 (by omega)).gr hg_145 (by omega)).ch hc_148 (by omega)).nw hq_152 (by omega)).gr hg_156 (by omega)).ch hc_159 (by omega)) rfl 6 (by decide) fl_St_32 rfl d_St_init_193 ?_
        refine lv_iload_n hx hb d_St_init_196 rfl (lv_at hl 0 rfl) ?_
        refine g_new (ci := 2) (fs := [.null, .int 0]) C0 hK il_Ro t_Ro tk_Ro cl_St_9 is_Ro in_Ro rfl (dv_Ro) (Nat.le_of_ble_eq_true rfl) (Nat.le_of_ble_eq_true rfl) d_St_init_197 (hc_159.1.trans hz_154) (fun H_160 hA_161 hz_162 hq_163 => ?_)
        refine W.widen (k := 28) (n := 291) (by omega) (by omega) ?_
        refine lv_dup hx hb d_St_init_200 rfl ?_
        refine lv_bipush (v := nI 8) hx hb d_St_init_201 (by decide +kernel) ?_
        refine g_I C0 (k_Ro_init l G (b + 28) 8 (by omega)) co_Ro_init im_Ro_init rfl in_Ro gc_Ro_init ml_St_11 ⟨Nat.le_of_ble_eq_true rfl, Nat.le_of_ble_eq_true rfl⟩ hK ⟨hz_162, hA_161⟩ rfl hl.1 rfl (Nat.le_of_ble_eq_true rfl) d_St_init_203 ⟨Nat.le_of_ble_eq_true rfl, Nat.le_of_ble_eq_true rfl⟩ (g_wa (free := gAb b) hL (fun q h => gAb.mk (Nat.le_trans (by omega) h)) (fun H_164 locs hL ⟨hz_165, hR_166, hg_167⟩ => ?_))
        refine W.widen (k := 29) (n := 299) (by omega) (by omega) ?_
        refine g_aast (free := gAb b) C0 hK 3 ((hA_158.nw hq_163 (by omega)).gr hg_167 (by omega)) rfl hR_166.1 rfl (by omega) (by omega) d_St_init_206 hL (gAb.mk (by omega)) (fun H_168 locs hL hA_169 hc_170 => ?_)
        refine lv_iinc (v := (nI 3)) (lv' := [(1, .int (nI 3)), (0, .ref b)]) hx hb d_St_init_207 hl (k := 0) rfl (gI_inc _) (by decide) rfl (fun ls hl => ?_)
        refine lv_goto (tgt := 183) hx hb d_St_init_210 (by decide) ?_
        refine lv_iload_n hx hb d_St_init_183 rfl (lv_at hl 0 rfl) ?_
        refine lv_aload_n hx hb d_St_init_184 rfl (lv_at hl 1 rfl) ?_
        refine g_get C0 hK il_St ((((((((((((hA_127.fr hf_131 (by omega)).fr hf_134 (by omega)).fr hf_137 (by omega)).nw hq_141 (by omega)).gr hg_145 (by omega)).ch hc_148 (by omega)).nw hq_152 (by omega)).gr hg_156 (by omega)).ch hc_159 (by omega)).nw hq_163 (by omega)).gr hg_167 (by omega)).ch hc_170 (by omega)) rfl 6 (by decide) fl_St_32 rfl d_St_init_185 ?_
        refine g_alen C0 hK 3 hA_169 rfl d_St_init_188 ?_
        refine g_cge (tgt := 213) C0 d_St_init_189 (by decide) (by omega) (by omega) (fun c_189 => ?_) (fun c_189 => ?_)
        · omega
        · skip
          refine lv_aload_n hx hb d_St_init_192 rfl (lv_at hl 1 rfl) ?_
          refine g_get C0 hK il_St ((((((((((((hA_127.fr hf_131 (by omega)).fr hf_134 (by omega)).fr hf_137 (by omega)).nw hq_141 (by omega)).gr hg_145 (by omega)).ch hc_148 (by omega)).nw hq_152 (by omega)).gr hg_156 (by omega)).ch hc_159 (by omega)).nw hq_163 (by omega)).gr hg_167 (by omega)).ch hc_170 (by omega)) rfl 6 (by decide) fl_St_32 rfl d_St_init_193 ?_
          refine lv_iload_n hx hb d_St_init_196 rfl (lv_at hl 0 rfl) ?_
          refine g_new (ci := 2) (fs := [.null, .int 0]) C0 hK il_Ro t_Ro tk_Ro cl_St_9 is_Ro in_Ro rfl (dv_Ro) (Nat.le_of_ble_eq_true rfl) (Nat.le_of_ble_eq_true rfl) d_St_init_197 (hc_170.1.trans hz_165) (fun H_171 hA_172 hz_173 hq_174 => ?_)
          refine W.widen (k := 30) (n := 301) (by omega) (by omega) ?_
          refine lv_dup hx hb d_St_init_200 rfl ?_
          refine lv_bipush (v := nI 8) hx hb d_St_init_201 (by decide +kernel) ?_
          refine g_I C0 (k_Ro_init l G (b + 30) 8 (by omega)) co_Ro_init im_Ro_init rfl in_Ro gc_Ro_init ml_St_11 ⟨Nat.le_of_ble_eq_true rfl, Nat.le_of_ble_eq_true rfl⟩ hK ⟨hz_173, hA_172⟩ rfl hl.1 rfl (Nat.le_of_ble_eq_true rfl) d_St_init_203 ⟨Nat.le_of_ble_eq_true rfl, Nat.le_of_ble_eq_true rfl⟩ (g_wa (free := gAb b) hL (fun q h => gAb.mk (Nat.le_trans (by omega) h)) (fun H_175 locs hL ⟨hz_176, hR_177, hg_178⟩ => ?_))
          refine W.widen (k := 31) (n := 309) (by omega) (by omega) ?_
          refine g_aast (free := gAb b) C0 hK 3 ((hA_169.nw hq_174 (by omega)).gr hg_178 (by omega)) rfl hR_177.1 rfl (by omega) (by omega) d_St_init_206 hL (gAb.mk (by omega)) (fun H_179 locs hL hA_180 hc_181 => ?_)
          refine lv_iinc (v := (nI 4)) (lv' := [(1, .int (nI 4)), (0, .ref b)]) hx hb d_St_init_207 hl (k := 0) rfl (gI_inc _) (by decide) rfl (fun ls hl => ?_)
          refine lv_goto (tgt := 183) hx hb d_St_init_210 (by decide) ?_
          refine lv_iload_n hx hb d_St_init_183 rfl (lv_at hl 0 rfl) ?_
          refine lv_aload_n hx hb d_St_init_184 rfl (lv_at hl 1 rfl) ?_
          refine g_get C0 hK il_St (((((((((((((((hA_127.fr hf_131 (by omega)).fr hf_134 (by omega)).fr hf_137 (by omega)).nw hq_141 (by omega)).gr hg_145 (by omega)).ch hc_148 (by omega)).nw hq_152 (by omega)).gr hg_156 (by omega)).ch hc_159 (by omega)).nw hq_163 (by omega)).gr hg_167 (by omega)).ch hc_170 (by omega)).nw hq_174 (by omega)).gr hg_178 (by omega)).ch hc_181 (by omega)) rfl 6 (by decide) fl_St_32 rfl d_St_init_185 ?_
          refine g_alen C0 hK 3 hA_180 rfl d_St_init_188 ?_
          refine g_cge (tgt := 213) C0 d_St_init_189 (by decide) (by omega) (by omega) (fun c_189 => ?_) (fun c_189 => ?_)
          · omega
          · skip
            refine lv_aload_n hx hb d_St_init_192 rfl (lv_at hl 1 rfl) ?_
            refine g_get C0 hK il_St (((((((((((((((hA_127.fr hf_131 (by omega)).fr hf_134 (by omega)).fr hf_137 (by omega)).nw hq_141 (by omega)).gr hg_145 (by omega)).ch hc_148 (by omega)).nw hq_152 (by omega)).gr hg_156 (by omega)).ch hc_159 (by omega)).nw hq_163 (by omega)).gr hg_167 (by omega)).ch hc_170 (by omega)).nw hq_174 (by omega)).gr hg_178 (by omega)).ch hc_181 (by omega)) rfl 6 (by decide) fl_St_32 rfl d_St_init_193 ?_
            refine lv_iload_n hx hb d_St_init_196 rfl (lv_at hl 0 rfl) ?_
            refine g_new (ci := 2) (fs := [.null, .int 0]) C0 hK il_Ro t_Ro tk_Ro cl_St_9 is_Ro in_Ro rfl (dv_Ro) (Nat.le_of_ble_eq_true rfl) (Nat.le_of_ble_eq_true rfl) d_St_init_197 (hc_181.1.trans hz_176) (fun H_182 hA_183 hz_184 hq_185 => ?_)
            refine W.widen (k := 32) (n := 311) (by omega) (by omega) ?_
            refine lv_dup hx hb d_St_init_200 rfl ?_
            refine lv_bipush (v := nI 8) hx hb d_St_init_201 (by decide +kernel) ?_
            refine g_I C0 (k_Ro_init l G (b + 32) 8 (by omega)) co_Ro_init im_Ro_init rfl in_Ro gc_Ro_init ml_St_11 ⟨Nat.le_of_ble_eq_true rfl, Nat.le_of_ble_eq_true rfl⟩ hK ⟨hz_184, hA_183⟩ rfl hl.1 rfl (Nat.le_of_ble_eq_true rfl) d_St_init_203 ⟨Nat.le_of_ble_eq_true rfl, Nat.le_of_ble_eq_true rfl⟩ (g_wa (free := gAb b) hL (fun q h => gAb.mk (Nat.le_trans (by omega) h)) (fun H_186 locs hL ⟨hz_187, hR_188, hg_189⟩ => ?_))
            refine W.widen (k := 33) (n := 319) (by omega) (by omega) ?_
            refine g_aast (free := gAb b) C0 hK 3 ((hA_180.nw hq_185 (by omega)).gr hg_189 (by omega)) rfl hR_188.1 rfl (by omega) (by omega) d_St_init_206 hL (gAb.mk (by omega)) (fun H_190 locs hL hA_191 hc_192 => ?_)
            refine lv_iinc (v := (nI 5)) (lv' := [(1, .int (nI 5)), (0, .ref b)]) hx hb d_St_init_207 hl (k := 0) rfl (gI_inc _) (by decide) rfl (fun ls hl => ?_)
            refine lv_goto (tgt := 183) hx hb d_St_init_210 (by decide) ?_
            refine lv_iload_n hx hb d_St_init_183 rfl (lv_at hl 0 rfl) ?_
            refine lv_aload_n hx hb d_St_init_184 rfl (lv_at hl 1 rfl) ?_
            refine g_get C0 hK il_St ((((((((((((((((((hA_127.fr hf_131 (by omega)).fr hf_134 (by omega)).fr hf_137 (by omega)).nw hq_141 (by omega)).gr hg_145 (by omega)).ch hc_148 (by omega)).nw hq_152 (by omega)).gr hg_156 (by omega)).ch hc_159 (by omega)).nw hq_163 (by omega)).gr hg_167 (by omega)).ch hc_170 (by omega)).nw hq_174 (by omega)).gr hg_178 (by omega)).ch hc_181 (by omega)).nw hq_185 (by omega)).gr hg_189 (by omega)).ch hc_192 (by omega)) rfl 6 (by decide) fl_St_32 rfl d_St_init_185 ?_
            refine g_alen C0 hK 3 hA_191 rfl d_St_init_188 ?_
            refine g_cge (tgt := 213) C0 d_St_init_189 (by decide) (by omega) (by omega) (fun c_189 => ?_) (fun c_189 => ?_)
            · omega
            · skip
              refine lv_aload_n hx hb d_St_init_192 rfl (lv_at hl 1 rfl) ?_
              refine g_get C0 hK il_St ((((((((((((((((((hA_127.fr hf_131 (by omega)).fr hf_134 (by omega)).fr hf_137 (by omega)).nw hq_141 (by omega)).gr hg_145 (by omega)).ch hc_148 (by omega)).nw hq_152 (by omega)).gr hg_156 (by omega)).ch hc_159 (by omega)).nw hq_163 (by omega)).gr hg_167 (by omega)).ch hc_170 (by omega)).nw hq_174 (by omega)).gr hg_178 (by omega)).ch hc_181 (by omega)).nw hq_185 (by omega)).gr hg_189 (by omega)).ch hc_192 (by omega)) rfl 6 (by decide) fl_St_32 rfl d_St_init_193 ?_
              refine lv_iload_n hx hb d_St_init_196 rfl (lv_at hl 0 rfl) ?_
              refine g_new (ci := 2) (fs := [.null, .int 0]) C0 hK il_Ro t_Ro tk_Ro cl_St_9 is_Ro in_Ro rfl (dv_Ro) (Nat.le_of_ble_eq_true rfl) (Nat.le_of_ble_eq_true rfl) d_St_init_197 (hc_192.1.trans hz_187) (fun H_193 hA_194 hz_195 hq_196 => ?_)
              refine W.widen (k := 34) (n := 321) (by omega) (by omega) ?_
              refine lv_dup hx hb d_St_init_200 rfl ?_
              refine lv_bipush (v := nI 8) hx hb d_St_init_201 (by decide +kernel) ?_
              refine g_I C0 (k_Ro_init l G (b + 34) 8 (by omega)) co_Ro_init im_Ro_init rfl in_Ro gc_Ro_init ml_St_11 ⟨Nat.le_of_ble_eq_true rfl, Nat.le_of_ble_eq_true rfl⟩ hK ⟨hz_195, hA_194⟩ rfl hl.1 rfl (Nat.le_of_ble_eq_true rfl) d_St_init_203 ⟨Nat.le_of_ble_eq_true rfl, Nat.le_of_ble_eq_true rfl⟩ (g_wa (free := gAb b) hL (fun q h => gAb.mk (Nat.le_trans (by omega) h)) (fun H_197 locs hL ⟨hz_198, hR_199, hg_200⟩ => ?_))
              refine W.widen (k := 35) (n := 329) (by omega) (by omega) ?_
              refine g_aast (free := gAb b) C0 hK 3 ((hA_191.nw hq_196 (by omega)).gr hg_200 (by omega)) rfl hR_199.1 rfl (by omega) (by omega) d_St_init_206 hL (gAb.mk (by omega)) (fun H_201 locs hL hA_202 hc_203 => ?_)
              refine lv_iinc (v := (nI 6)) (lv' := [(1, .int (nI 6)), (0, .ref b)]) hx hb d_St_init_207 hl (k := 0) rfl (gI_inc _) (by decide) rfl (fun ls hl => ?_)
              refine lv_goto (tgt := 183) hx hb d_St_init_210 (by decide) ?_
              refine lv_iload_n hx hb d_St_init_183 rfl (lv_at hl 0 rfl) ?_
              refine lv_aload_n hx hb d_St_init_184 rfl (lv_at hl 1 rfl) ?_
              refine g_get C0 hK il_St (((((((((((((((((((((hA_127.fr hf_131 (by omega)).fr hf_134 (by omega)).fr hf_137 (by omega)).nw hq_141 (by omega)).gr hg_145 (by omega)).ch hc_148 (by omega)).nw hq_152 (by omega)).gr hg_156 (by omega)).ch hc_159 (by omega)).nw hq_163 (by omega)).gr hg_167 (by omega)).ch hc_170 (by omega)).nw hq_174 (by omega)).gr hg_178 (by omega)).ch hc_181 (by omega)).nw hq_185 (by omega)).gr hg_189 (by omega)).ch hc_192 (by omega)).nw hq_196 (by omega)).gr hg_200 (by omega)).ch hc_203 (by omega)) rfl 6 (by decide) fl_St_32 rfl d_St_init_185 ?_
              refine g_alen C0 hK 3 hA_202 rfl d_St_init_188 ?_
              refine g_cge (tgt := 213) C0 d_St_init_189 (by decide) (by omega) (by omega) (fun c_189 => ?_) (fun c_189 => ?_)
              · skip
                refine g_vret C0 hlk hr d_St_init_213 hL ?_
                exact ⟨rfl, (hc_203.1.trans hz_198), ⟨(((((((((((((((((((((hA_127.fr hf_131 (by omega)).fr hf_134 (by omega)).fr hf_137 (by omega)).nw hq_141 (by omega)).gr hg_145 (by omega)).ch hc_148 (by omega)).nw hq_152 (by omega)).gr hg_156 (by omega)).ch hc_159 (by omega)).nw hq_163 (by omega)).gr hg_167 (by omega)).ch hc_170 (by omega)).nw hq_174 (by omega)).gr hg_178 (by omega)).ch hc_181 (by omega)).nw hq_185 (by omega)).gr hg_189 (by omega)).ch hc_192 (by omega)).nw hq_196 (by omega)).gr hg_200 (by omega)).ch hc_203 (by omega)), gE_q hA_202 (st6 b), ro_all ((((((((((((((((((hR_136.nw hq_141 (by omega)).gr hg_145 (by omega)).ch hc_148 (by omega)).nw hq_152 (by omega)).gr hg_156 (by omega)).ch hc_159 (by omega)).nw hq_163 (by omega)).gr hg_167 (by omega)).ch hc_170 (by omega)).nw hq_174 (by omega)).gr hg_178 (by omega)).ch hc_181 (by omega)).nw hq_185 (by omega)).gr hg_189 (by omega)).ch hc_192 (by omega)).nw hq_196 (by omega)).gr hg_200 (by omega)).ch hc_203 (by omega)) (((((((((((((((((((((((((((((((((((((((((((((((((((hR_18.ch hc_22 (by omega)).nw hq_26 (by omega)).gr hg_30 (by omega)).ch hc_33 (by omega)).nw hq_37 (by omega)).gr hg_41 (by omega)).ch hc_44 (by omega)).nw hq_48 (by omega)).gr hg_52 (by omega)).ch hc_55 (by omega)).nw hq_59 (by omega)).ch hc_62 (by omega)).nw hq_66 (by omega)).gr hg_70 (by omega)).ch hc_73 (by omega)).nw hq_77 (by omega)).gr hg_81 (by omega)).ch hc_84 (by omega)).nw hq_88 (by omega)).gr hg_92 (by omega)).ch hc_95 (by omega)).nw hq_99 (by omega)).gr hg_103 (by omega)).ch hc_106 (by omega)).nw hq_110 (by omega)).gr hg_114 (by omega)).ch hc_117 (by omega)).nw hq_121 (by omega)).gr hg_125 (by omega)).ch hc_128 (by omega)).fr hf_131 (by omega)).fr hf_134 (by omega)).fr hf_137 (by omega)).nw hq_141 (by omega)).gr hg_145 (by omega)).ch hc_148 (by omega)).nw hq_152 (by omega)).gr hg_156 (by omega)).ch hc_159 (by omega)).nw hq_163 (by omega)).gr hg_167 (by omega)).ch hc_170 (by omega)).nw hq_174 (by omega)).gr hg_178 (by omega)).ch hc_181 (by omega)).nw hq_185 (by omega)).gr hg_189 (by omega)).ch hc_192 (by omega)).nw hq_196 (by omega)).gr hg_200 (by omega)).ch hc_203 (by omega)) ((((((((((((((((((((((((((((((((((((((((((((((((hR_29.ch hc_33 (by omega)).nw hq_37 (by omega)).gr hg_41 (by omega)).ch hc_44 (by omega)).nw hq_48 (by omega)).gr hg_52 (by omega)).ch hc_55 (by omega)).nw hq_59 (by omega)).ch hc_62 (by omega)).nw hq_66 (by omega)).gr hg_70 (by omega)).ch hc_73 (by omega)).nw hq_77 (by omega)).gr hg_81 (by omega)).ch hc_84 (by omega)).nw hq_88 (by omega)).gr hg_92 (by omega)).ch hc_95 (by omega)).nw hq_99 (by omega)).gr hg_103 (by omega)).ch hc_106 (by omega)).nw hq_110 (by omega)).gr hg_114 (by omega)).ch hc_117 (by omega)).nw hq_121 (by omega)).gr hg_125 (by omega)).ch hc_128 (by omega)).fr hf_131 (by omega)).fr hf_134 (by omega)).fr hf_137 (by omega)).nw hq_141 (by omega)).gr hg_145 (by omega)).ch hc_148 (by omega)).nw hq_152 (by omega)).gr hg_156 (by omega)).ch hc_159 (by omega)).nw hq_163 (by omega)).gr hg_167 (by omega)).ch hc_170 (by omega)).nw hq_174 (by omega)).gr hg_178 (by omega)).ch hc_181 (by omega)).nw hq_185 (by omega)).gr hg_189 (by omega)).ch hc_192 (by omega)).nw hq_196 (by omega)).gr hg_200 (by omega)).ch hc_203 (by omega)) (((((((((((((((((((((((((((((((((((((((((((((hR_40.ch hc_44 (by omega)).nw hq_48 (by omega)).gr hg_52 (by omega)).ch hc_55 (by omega)).nw hq_59 (by omega)).ch hc_62 (by omega)).nw hq_66 (by omega)).gr hg_70 (by omega)).ch hc_73 (by omega)).nw hq_77 (by omega)).gr hg_81 (by omega)).ch hc_84 (by omega)).nw hq_88 (by omega)).gr hg_92 (by omega)).ch hc_95 (by omega)).nw hq_99 (by omega)).gr hg_103 (by omega)).ch hc_106 (by omega)).nw hq_110 (by omega)).gr hg_114 (by omega)).ch hc_117 (by omega)).nw hq_121 (by omega)).gr hg_125 (by omega)).ch hc_128 (by omega)).fr hf_131 (by omega)).fr hf_134 (by omega)).fr hf_137 (by omega)).nw hq_141 (by omega)).gr hg_145 (by omega)).ch hc_148 (by omega)).nw hq_152 (by omega)).gr hg_156 (by omega)).ch hc_159 (by omega)).nw hq_163 (by omega)).gr hg_167 (by omega)).ch hc_170 (by omega)).nw hq_174 (by omega)).gr hg_178 (by omega)).ch hc_181 (by omega)).nw hq_185 (by omega)).gr hg_189 (by omega)).ch hc_192 (by omega)).nw hq_196 (by omega)).gr hg_200 (by omega)).ch hc_203 (by omega)) ((((((((((((((((((((((((((((((((((((((((((hR_51.ch hc_55 (by omega)).nw hq_59 (by omega)).ch hc_62 (by omega)).nw hq_66 (by omega)).gr hg_70 (by omega)).ch hc_73 (by omega)).nw hq_77 (by omega)).gr hg_81 (by omega)).ch hc_84 (by omega)).nw hq_88 (by omega)).gr hg_92 (by omega)).ch hc_95 (by omega)).nw hq_99 (by omega)).gr hg_103 (by omega)).ch hc_106 (by omega)).nw hq_110 (by omega)).gr hg_114 (by omega)).ch hc_117 (by omega)).nw hq_121 (by omega)).gr hg_125 (by omega)).ch hc_128 (by omega)).fr hf_131 (by omega)).fr hf_134 (by omega)).fr hf_137 (by omega)).nw hq_141 (by omega)).gr hg_145 (by omega)).ch hc_148 (by omega)).nw hq_152 (by omega)).gr hg_156 (by omega)).ch hc_159 (by omega)).nw hq_163 (by omega)).gr hg_167 (by omega)).ch hc_170 (by omega)).nw hq_174 (by omega)).gr hg_178 (by omega)).ch hc_181 (by omega)).nw hq_185 (by omega)).gr hg_189 (by omega)).ch hc_192 (by omega)).nw hq_196 (by omega)).gr hg_200 (by omega)).ch hc_203 (by omega)) ((((((((((((((((hR_144.ch hc_148 (by omega)).nw hq_152 (by omega)).gr hg_156 (by omega)).ch hc_159 (by omega)).nw hq_163 (by omega)).gr hg_167 (by omega)).ch hc_170 (by omega)).nw hq_174 (by omega)).gr hg_178 (by omega)).ch hc_181 (by omega)).nw hq_185 (by omega)).gr hg_189 (by omega)).ch hc_192 (by omega)).nw hq_196 (by omega)).gr hg_200 (by omega)).ch hc_203 (by omega)) (((((((((((((hR_155.ch hc_159 (by omega)).nw hq_163 (by omega)).gr hg_167 (by omega)).ch hc_170 (by omega)).nw hq_174 (by omega)).gr hg_178 (by omega)).ch hc_181 (by omega)).nw hq_185 (by omega)).gr hg_189 (by omega)).ch hc_192 (by omega)).nw hq_196 (by omega)).gr hg_200 (by omega)).ch hc_203 (by omega)) ((((((((((hR_166.ch hc_170 (by omega)).nw hq_174 (by omega)).gr hg_178 (by omega)).ch hc_181 (by omega)).nw hq_185 (by omega)).gr hg_189 (by omega)).ch hc_192 (by omega)).nw hq_196 (by omega)).gr hg_200 (by omega)).ch hc_203 (by omega)) (((((((hR_177.ch hc_181 (by omega)).nw hq_185 (by omega)).gr hg_189 (by omega)).ch hc_192 (by omega)).nw hq_196 (by omega)).gr hg_200 (by omega)).ch hc_203 (by omega)) ((((hR_188.ch hc_192 (by omega)).nw hq_196 (by omega)).gr hg_200 (by omega)).ch hc_203 (by omega)) (hR_199.ch hc_203 (by omega)) (((((((((((((((((((((((((((((((((((((hR_69.ch hc_73 (by omega)).nw hq_77 (by omega)).gr hg_81 (by omega)).ch hc_84 (by omega)).nw hq_88 (by omega)).gr hg_92 (by omega)).ch hc_95 (by omega)).nw hq_99 (by omega)).gr hg_103 (by omega)).ch hc_106 (by omega)).nw hq_110 (by omega)).gr hg_114 (by omega)).ch hc_117 (by omega)).nw hq_121 (by omega)).gr hg_125 (by omega)).ch hc_128 (by omega)).fr hf_131 (by omega)).fr hf_134 (by omega)).fr hf_137 (by omega)).nw hq_141 (by omega)).gr hg_145 (by omega)).ch hc_148 (by omega)).nw hq_152 (by omega)).gr hg_156 (by omega)).ch hc_159 (by omega)).nw hq_163 (by omega)).gr hg_167 (by omega)).ch hc_170 (by omega)).nw hq_174 (by omega)).gr hg_178 (by omega)).ch hc_181 (by omega)).nw hq_185 (by omega)).gr hg_189 (by omega)).ch hc_192 (by omega)).nw hq_196 (by omega)).gr hg_200 (by omega)).ch hc_203 (by omega)) ((((((((((((((((((((((((((((((((((hR_80.ch hc_84 (by omega)).nw hq_88 (by omega)).gr hg_92 (by omega)).ch hc_95 (by omega)).nw hq_99 (by omega)).gr hg_103 (by omega)).ch hc_106 (by omega)).nw hq_110 (by omega)).gr hg_114 (by omega)).ch hc_117 (by omega)).nw hq_121 (by omega)).gr hg_125 (by omega)).ch hc_128 (by omega)).fr hf_131 (by omega)).fr hf_134 (by omega)).fr hf_137 (by omega)).nw hq_141 (by omega)).gr hg_145 (by omega)).ch hc_148 (by omega)).nw hq_152 (by omega)).gr hg_156 (by omega)).ch hc_159 (by omega)).nw hq_163 (by omega)).gr hg_167 (by omega)).ch hc_170 (by omega)).nw hq_174 (by omega)).gr hg_178 (by omega)).ch hc_181 (by omega)).nw hq_185 (by omega)).gr hg_189 (by omega)).ch hc_192 (by omega)).nw hq_196 (by omega)).gr hg_200 (by omega)).ch hc_203 (by omega)) (((((((((((((((((((((((((((((((hR_91.ch hc_95 (by omega)).nw hq_99 (by omega)).gr hg_103 (by omega)).ch hc_106 (by omega)).nw hq_110 (by omega)).gr hg_114 (by omega)).ch hc_117 (by omega)).nw hq_121 (by omega)).gr hg_125 (by omega)).ch hc_128 (by omega)).fr hf_131 (by omega)).fr hf_134 (by omega)).fr hf_137 (by omega)).nw hq_141 (by omega)).gr hg_145 (by omega)).ch hc_148 (by omega)).nw hq_152 (by omega)).gr hg_156 (by omega)).ch hc_159 (by omega)).nw hq_163 (by omega)).gr hg_167 (by omega)).ch hc_170 (by omega)).nw hq_174 (by omega)).gr hg_178 (by omega)).ch hc_181 (by omega)).nw hq_185 (by omega)).gr hg_189 (by omega)).ch hc_192 (by omega)).nw hq_196 (by omega)).gr hg_200 (by omega)).ch hc_203 (by omega)) ((((((((((((((((((((((((((((hR_102.ch hc_106 (by omega)).nw hq_110 (by omega)).gr hg_114 (by omega)).ch hc_117 (by omega)).nw hq_121 (by omega)).gr hg_125 (by omega)).ch hc_128 (by omega)).fr hf_131 (by omega)).fr hf_134 (by omega)).fr hf_137 (by omega)).nw hq_141 (by omega)).gr hg_145 (by omega)).ch hc_148 (by omega)).nw hq_152 (by omega)).gr hg_156 (by omega)).ch hc_159 (by omega)).nw hq_163 (by omega)).gr hg_167 (by omega)).ch hc_170 (by omega)).nw hq_174 (by omega)).gr hg_178 (by omega)).ch hc_181 (by omega)).nw hq_185 (by omega)).gr hg_189 (by omega)).ch hc_192 (by omega)).nw hq_196 (by omega)).gr hg_200 (by omega)).ch hc_203 (by omega)) (((((((((((((((((((((((((hR_113.ch hc_117 (by omega)).nw hq_121 (by omega)).gr hg_125 (by omega)).ch hc_128 (by omega)).fr hf_131 (by omega)).fr hf_134 (by omega)).fr hf_137 (by omega)).nw hq_141 (by omega)).gr hg_145 (by omega)).ch hc_148 (by omega)).nw hq_152 (by omega)).gr hg_156 (by omega)).ch hc_159 (by omega)).nw hq_163 (by omega)).gr hg_167 (by omega)).ch hc_170 (by omega)).nw hq_174 (by omega)).gr hg_178 (by omega)).ch hc_181 (by omega)).nw hq_185 (by omega)).gr hg_189 (by omega)).ch hc_192 (by omega)).nw hq_196 (by omega)).gr hg_200 (by omega)).ch hc_203 (by omega)) ((((((((((((((((((((((hR_124.ch hc_128 (by omega)).fr hf_131 (by omega)).fr hf_134 (by omega)).fr hf_137 (by omega)).nw hq_141 (by omega)).gr hg_145 (by omega)).ch hc_148 (by omega)).nw hq_152 (by omega)).gr hg_156 (by omega)).ch hc_159 (by omega)).nw hq_163 (by omega)).gr hg_167 (by omega)).ch hc_170 (by omega)).nw hq_174 (by omega)).gr hg_178 (by omega)).ch hc_181 (by omega)).nw hq_185 (by omega)).gr hg_189 (by omega)).ch hc_192 (by omega)).nw hq_196 (by omega)).gr hg_200 (by omega)).ch hc_203 (by omega))⟩, ((((((((((((((((((((((((((((((((((((((((((((((((((((((((gGr.rf.tr (gGr.nw hz_3 hP.1 hq_4 (by omega))).tr (hg_8.mono (by omega))).tr (gGr.ch hc_11 (by omega))).tr (gGr.nw hz_14 (hc_11.1.trans hz_6) hq_15 (by omega))).tr (hg_19.mono (by omega))).tr (gGr.ch hc_22 (by omega))).tr (gGr.nw hz_25 (hc_22.1.trans hz_17) hq_26 (by omega))).tr (hg_30.mono (by omega))).tr (gGr.ch hc_33 (by omega))).tr (gGr.nw hz_36 (hc_33.1.trans hz_28) hq_37 (by omega))).tr (hg_41.mono (by omega))).tr (gGr.ch hc_44 (by omega))).tr (gGr.nw hz_47 (hc_44.1.trans hz_39) hq_48 (by omega))).tr (hg_52.mono (by omega))).tr (gGr.ch hc_55 (by omega))).tr (gGr.nw hz_58 (hc_55.1.trans hz_50) hq_59 (by omega))).tr (gGr.ch hc_62 (by omega))).tr (gGr.nw hz_65 (hc_62.1.trans hz_58) hq_66 (by omega))).tr (hg_70.mono (by omega))).tr (gGr.ch hc_73 (by omega))).tr (gGr.nw hz_76 (hc_73.1.trans hz_68) hq_77 (by omega))).tr (hg_81.mono (by omega))).tr (gGr.ch hc_84 (by omega))).tr (gGr.nw hz_87 (hc_84.1.trans hz_79) hq_88 (by omega))).tr (hg_92.mono (by omega))).tr (gGr.ch hc_95 (by omega))).tr (gGr.nw hz_98 (hc_95.1.trans hz_90) hq_99 (by omega))).tr (hg_103.mono (by omega))).tr (gGr.ch hc_106 (by omega))).tr (gGr.nw hz_109 (hc_106.1.trans hz_101) hq_110 (by omega))).tr (hg_114.mono (by omega))).tr (gGr.ch hc_117 (by omega))).tr (gGr.nw hz_120 (hc_117.1.trans hz_112) hq_121 (by omega))).tr (hg_125.mono (by omega))).tr (gGr.ch hc_128 (by omega))).tr (gGr.fr hf_131 (by omega))).tr (gGr.fr hf_134 (by omega))).tr (gGr.fr hf_137 (by omega))).tr (gGr.nw hz_140 (hf_137.1.trans (hf_134.1.trans (hf_131.1.trans (hc_128.1.trans hz_123)))) hq_141 (by omega))).tr (hg_145.mono (by omega))).tr (gGr.ch hc_148 (by omega))).tr (gGr.nw hz_151 (hc_148.1.trans hz_143) hq_152 (by omega))).tr (hg_156.mono (by omega))).tr (gGr.ch hc_159 (by omega))).tr (gGr.nw hz_162 (hc_159.1.trans hz_154) hq_163 (by omega))).tr (hg_167.mono (by omega))).tr (gGr.ch hc_170 (by omega))).tr (gGr.nw hz_173 (hc_170.1.trans hz_165) hq_174 (by omega))).tr (hg_178.mono (by omega))).tr (gGr.ch hc_181 (by omega))).tr (gGr.nw hz_184 (hc_181.1.trans hz_176) hq_185 (by omega))).tr (hg_189.mono (by omega))).tr (gGr.ch hc_192 (by omega))).tr (gGr.nw hz_195 (hc_192.1.trans hz_187) hq_196 (by omega))).tr (hg_200.mono (by omega))).tr (gGr.ch hc_203 (by omega)))⟩
              · omega
