set_option maxHeartbeats 4000000 in
set_option maxRecDepth 100000 in
theorem k_St_copyList (l : Launch) (G : gT) (r cap f capF : Nat) (A F : Rw) (hrf : r + 2 ≤ f ∨ f + 2 ≤ r) (hF : F.1 ≤ cap) : gM l y_St_copyList c_St_copyList 2 none 2 40 0 0 G [.ref r, .ref f] (fun H => RowAt G r cap A H ∧ RowAt G f capF F H) (wv (fun H H1 => RowAt G r cap (rCp A F) H1 ∧ gFr r (r + 2) H H1)) (gRg r (r + 2)) := by
  refine g_enter "GaleNames$State" (by decide +kernel) rfl (Nat.le_of_ble_eq_true rfl) ?_
  intro p e s m args below meth c C0 hlk hr hnm hP hK ls hl
  have hx := C0.1
  have hb := C0.2.1
  have hl : lv_has ls 2 [(0, .ref r), (1, .ref f)] := hl
  refine lv_aload_n hx hb d_St_copyList_0 rfl (lv_at hl 0 rfl) ?_
  refine lv_ifnull hx hb d_St_copyList_1 ?_
  refine lv_aload_n hx hb d_St_copyList_4 rfl (lv_at hl 1 rfl) ?_
  refine lv_ifnull hx hb d_St_copyList_5 ?_
  refine lv_aload_n hx hb d_St_copyList_8 rfl (lv_at hl 0 rfl) ?_
  refine lv_aload_n hx hb d_St_copyList_9 rfl (lv_at hl 1 rfl) ?_
  refine g_V C0 (k_Ro_copy l G r cap f capF A F (by omega) hF) co_Ro_copy im_Ro_copy se_Ro_copy in_Ro gc_Ro_copy ml_St_61 ⟨Nat.le_of_ble_eq_true rfl, Nat.le_of_ble_eq_true rfl⟩ hK hP.1.1 rfl ⟨hP.1, hP.2⟩ rfl hl.1 rfl (Nat.le_of_ble_eq_true rfl) d_St_copyList_10 ⟨Nat.le_of_ble_eq_true rfl, Nat.le_of_ble_eq_true rfl⟩ (g_wv (free := gRg r (r + 2)) t_nil (fun _ h => h) (fun H_1 locs hL ⟨hR_2, hf_3⟩ => ?_))
  refine g_vret C0 hlk hr d_St_copyList_13 hL ?_
  exact ⟨rfl, hR_2, (gFr.rf.tr hf_3)⟩

set_option maxHeartbeats 4000000 in
set_option maxRecDepth 100000 in
theorem k_St_copy (l : Launch) (G : gT) (b : Nat) (Y : ST) (f : Nat) (F : ST) (hbf : b + 36 ≤ f ∨ f + 36 ≤ b) : gM l y_St_copy c_St_copy 4 none 3 61 0 0 G [.ref b, .ref f] (fun H => StAt G b Y H ∧ StAt G f F H) (wv (fun H H1 => StAt G b (cpL Y F 17) H1 ∧ gFr b (b + 36) H H1)) (gRg b (b + 36)) := by
  refine g_enter "GaleNames$State" (by decide +kernel) rfl (Nat.le_of_ble_eq_true rfl) ?_
  intro p e s m args below meth c C0 hlk hr hnm hP hK ls hl
  have hx := C0.1
  have hb := C0.2.1
  have hl : lv_has ls 4 [(0, .ref b), (1, .ref f)] := hl
  refine lv_aload_n hx hb d_St_copy_0 rfl (lv_at hl 0 rfl) ?_
  refine lv_aload_n hx hb d_St_copy_1 rfl (lv_at hl 1 rfl) ?_
  refine g_get C0 hK il_St hP.2.1 rfl 0 (by decide) fl_St_57 rfl d_St_copy_2 ?_
  refine g_put (free := gRg b (b + 36)) C0 hK il_St tk_St nm_St hP.1.1 rfl 0 (by decide) fl_St_57 rfl rfl rfl (Nat.le_of_ble_eq_true rfl) d_St_copy_5 t_nil (gRg.mk (by omega) (by omega)) (fun H_1 locs hL hA_2 hc_3 => ?_)
  have hS_2 := hP.1.yr hA_2 hc_3
  refine lv_aload_n hx hb d_St_copy_8 rfl (lv_at hl 0 rfl) ?_
  refine g_get C0 hK il_St hS_2.1 rfl 1 (by decide) fl_St_14 rfl d_St_copy_9 ?_
  refine lv_aload_n hx hb d_St_copy_12 rfl (lv_at hl 1 rfl) ?_
  refine g_get C0 hK il_St (hP.2.ch hc_3 (by omega)).1 rfl 1 (by decide) fl_St_14 rfl d_St_copy_13 ?_
  refine g_V C0 (k_Ro_copy l G (b + 1) 3 (f + 1) 3 (Y.2 0) (F.2 0) (by omega) ((hP.2.ch hc_3 (by omega)).2.2 0 (by decide)).2.2.1) co_Ro_copy im_Ro_copy se_Ro_copy in_Ro gc_Ro_copy ml_St_61 ⟨Nat.le_of_ble_eq_true rfl, Nat.le_of_ble_eq_true rfl⟩ hK (hS_2.2.2 0 (by decide)).1 rfl ⟨(hS_2.2.2 0 (by decide)), ((hP.2.ch hc_3 (by omega)).2.2 0 (by decide))⟩ rfl hl.1 rfl (Nat.le_of_ble_eq_true rfl) d_St_copy_16 ⟨Nat.le_of_ble_eq_true rfl, Nat.le_of_ble_eq_true rfl⟩ (g_wv (free := gRg b (b + 36)) hL (gRg.mono (by omega) (by omega)) (fun H_4 locs hL ⟨hR_5, hf_6⟩ => ?_))
  have hS_5 := hS_2.up 0 (by decide) hR_5 hf_6
  refine lv_aload_n hx hb d_St_copy_19 rfl (lv_at hl 0 rfl) ?_
  refine g_get C0 hK il_St hS_5.1 rfl 2 (by decide) fl_St_20 rfl d_St_copy_20 ?_
  refine lv_aload_n hx hb d_St_copy_23 rfl (lv_at hl 1 rfl) ?_
  refine g_get C0 hK il_St ((hP.2.ch hc_3 (by omega)).fr hf_6 (by omega)).1 rfl 2 (by decide) fl_St_20 rfl d_St_copy_24 ?_
  refine g_V C0 (k_Ro_copy l G (b + 3) 40 (f + 3) 40 (Y.2 1) (F.2 1) (by omega) (((hP.2.ch hc_3 (by omega)).fr hf_6 (by omega)).2.2 1 (by decide)).2.2.1) co_Ro_copy im_Ro_copy se_Ro_copy in_Ro gc_Ro_copy ml_St_61 ⟨Nat.le_of_ble_eq_true rfl, Nat.le_of_ble_eq_true rfl⟩ hK (hS_5.2.2 1 (by decide)).1 rfl ⟨(hS_5.2.2 1 (by decide)), (((hP.2.ch hc_3 (by omega)).fr hf_6 (by omega)).2.2 1 (by decide))⟩ rfl hl.1 rfl (Nat.le_of_ble_eq_true rfl) d_St_copy_27 ⟨Nat.le_of_ble_eq_true rfl, Nat.le_of_ble_eq_true rfl⟩ (g_wv (free := gRg b (b + 36)) hL (gRg.mono (by omega) (by omega)) (fun H_7 locs hL ⟨hR_8, hf_9⟩ => ?_))
  have hS_8 := hS_5.up 1 (by decide) hR_8 hf_9
  refine lv_aload_n hx hb d_St_copy_30 rfl (lv_at hl 0 rfl) ?_
  refine g_get C0 hK il_St hS_8.1 rfl 3 (by decide) fl_St_23 rfl d_St_copy_31 ?_
  refine lv_aload_n hx hb d_St_copy_34 rfl (lv_at hl 1 rfl) ?_
  refine g_get C0 hK il_St (((hP.2.ch hc_3 (by omega)).fr hf_6 (by omega)).fr hf_9 (by omega)).1 rfl 3 (by decide) fl_St_23 rfl d_St_copy_35 ?_
  refine g_V C0 (k_Ro_copy l G (b + 5) 40 (f + 5) 40 (Y.2 2) (F.2 2) (by omega) ((((hP.2.ch hc_3 (by omega)).fr hf_6 (by omega)).fr hf_9 (by omega)).2.2 2 (by decide)).2.2.1) co_Ro_copy im_Ro_copy se_Ro_copy in_Ro gc_Ro_copy ml_St_61 ⟨Nat.le_of_ble_eq_true rfl, Nat.le_of_ble_eq_true rfl⟩ hK (hS_8.2.2 2 (by decide)).1 rfl ⟨(hS_8.2.2 2 (by decide)), ((((hP.2.ch hc_3 (by omega)).fr hf_6 (by omega)).fr hf_9 (by omega)).2.2 2 (by decide))⟩ rfl hl.1 rfl (Nat.le_of_ble_eq_true rfl) d_St_copy_38 ⟨Nat.le_of_ble_eq_true rfl, Nat.le_of_ble_eq_true rfl⟩ (g_wv (free := gRg b (b + 36)) hL (gRg.mono (by omega) (by omega)) (fun H_10 locs hL ⟨hR_11, hf_12⟩ => ?_))
  have hS_11 := hS_8.up 2 (by decide) hR_11 hf_12
  refine lv_aload_n hx hb d_St_copy_41 rfl (lv_at hl 0 rfl) ?_
  refine g_get C0 hK il_St hS_11.1 rfl 4 (by decide) fl_St_26 rfl d_St_copy_42 ?_
  refine lv_aload_n hx hb d_St_copy_45 rfl (lv_at hl 1 rfl) ?_
  refine g_get C0 hK il_St ((((hP.2.ch hc_3 (by omega)).fr hf_6 (by omega)).fr hf_9 (by omega)).fr hf_12 (by omega)).1 rfl 4 (by decide) fl_St_26 rfl d_St_copy_46 ?_
  refine g_V C0 (k_Ro_copy l G (b + 7) 40 (f + 7) 40 (Y.2 3) (F.2 3) (by omega) (((((hP.2.ch hc_3 (by omega)).fr hf_6 (by omega)).fr hf_9 (by omega)).fr hf_12 (by omega)).2.2 3 (by decide)).2.2.1) co_Ro_copy im_Ro_copy se_Ro_copy in_Ro gc_Ro_copy ml_St_61 ⟨Nat.le_of_ble_eq_true rfl, Nat.le_of_ble_eq_true rfl⟩ hK (hS_11.2.2 3 (by decide)).1 rfl ⟨(hS_11.2.2 3 (by decide)), (((((hP.2.ch hc_3 (by omega)).fr hf_6 (by omega)).fr hf_9 (by omega)).fr hf_12 (by omega)).2.2 3 (by decide))⟩ rfl hl.1 rfl (Nat.le_of_ble_eq_true rfl) d_St_copy_49 ⟨Nat.le_of_ble_eq_true rfl, Nat.le_of_ble_eq_true rfl⟩ (g_wv (free := gRg b (b + 36)) hL (gRg.mono (by omega) (by omega)) (fun H_13 locs hL ⟨hR_14, hf_15⟩ => ?_))
  have hS_14 := hS_11.up 3 (by decide) hR_14 hf_15
  refine lv_aload_n hx hb d_St_copy_52 rfl (lv_at hl 0 rfl) ?_
  refine g_get C0 hK il_St hS_14.1 rfl 5 (by decide) fl_St_29 rfl d_St_copy_53 ?_
  refine lv_aload_n hx hb d_St_copy_56 rfl (lv_at hl 1 rfl) ?_
  refine g_get C0 hK il_St (((((hP.2.ch hc_3 (by omega)).fr hf_6 (by omega)).fr hf_9 (by omega)).fr hf_12 (by omega)).fr hf_15 (by omega)).1 rfl 5 (by decide) fl_St_29 rfl d_St_copy_57 ?_
  refine g_V C0 (k_Ro_copy l G (b + 9) 40 (f + 9) 40 (Y.2 4) (F.2 4) (by omega) ((((((hP.2.ch hc_3 (by omega)).fr hf_6 (by omega)).fr hf_9 (by omega)).fr hf_12 (by omega)).fr hf_15 (by omega)).2.2 4 (by decide)).2.2.1) co_Ro_copy im_Ro_copy se_Ro_copy in_Ro gc_Ro_copy ml_St_61 ⟨Nat.le_of_ble_eq_true rfl, Nat.le_of_ble_eq_true rfl⟩ hK (hS_14.2.2 4 (by decide)).1 rfl ⟨(hS_14.2.2 4 (by decide)), ((((((hP.2.ch hc_3 (by omega)).fr hf_6 (by omega)).fr hf_9 (by omega)).fr hf_12 (by omega)).fr hf_15 (by omega)).2.2 4 (by decide))⟩ rfl hl.1 rfl (Nat.le_of_ble_eq_true rfl) d_St_copy_60 ⟨Nat.le_of_ble_eq_true rfl, Nat.le_of_ble_eq_true rfl⟩ (g_wv (free := gRg b (b + 36)) hL (gRg.mono (by omega) (by omega)) (fun H_16 locs hL ⟨hR_17, hf_18⟩ => ?_))
  have hS_17 := hS_14.up 4 (by decide) hR_17 hf_18
  refine lv_iconst (v := nI 0) hx hb d_St_copy_63 (by decide +kernel) ?_
  refine lv_istore_n (lv' := [(2, .int (nI 0)), (0, .ref b), (1, .ref f)]) hx hb d_St_copy_64 rfl hl (by decide) rfl (fun ls hl => ?_)
  have lp65 : ∀ (fu : Nat) (i : Nat) (H : Heap) (locs : List Loc), (2 - i) < fu → i ≤ 2 → (∀ q ∈ locs, (gRg b (b + 36)) q.base) → StAt G b (cpL Y F (5 + lix i 0)) H → StAt G f F H → gFr b (b + 36) s.heap H → ∀ ls : Array Slot, lv_has ls 4 [(2, .int (nI i)), (0, .ref b), (1, .ref f)] → W p l e ({ frames := 3, cells := 0, slots := 0, locals := 61 } : Room) s m args below meth c H locs 0 0 (MQ below (gQ (wv (fun H H1 => StAt G b (cpL Y F 17) H1 ∧ gFr b (b + 36) H H1))) args s 0 0 (gRg b (b + 36))) (F0 m 65 ls []) := by
    intro fu
    induction fu with
    | zero => intro i H locs hfu; exact absurd hfu (Nat.not_lt_zero _)
    | succ fu ih65 =>
      intro i H locs hfu hi hL hP hPf hF ls hl
      refine lv_iload_n hx hb d_St_copy_65 rfl (lv_at hl 0 rfl) ?_
      refine lv_iconst (v := nI 2) hx hb d_St_copy_66 (by decide +kernel) ?_
      refine g_cge (tgt := 104) C0 d_St_copy_67 (by decide) (by omega) (by omega) (fun c_67 => ?_) (fun c_67 => ?_)
      · skip
        have ei : i = 2 := by omega
        subst ei
        have hP : StAt G b (cpL Y F 11) H := hP
        refine lv_aload_n hx hb d_St_copy_104 rfl (lv_at hl 1 rfl) ?_
        refine g_get C0 hK il_St hP.1 rfl 7 (by decide) fl_St_36 rfl d_St_copy_105 ?_
        refine lv_aload_n hx hb d_St_copy_108 rfl (lv_at hl 2 rfl) ?_
        refine g_get C0 hK il_St hPf.1 rfl 7 (by decide) fl_St_36 rfl d_St_copy_109 ?_
        refine g_V C0 (k_Ro_copy l G (b + 12) 16 (f + 12) 16 ((cpL Y F 11).2 11) (F.2 11) (by omega) (hPf.2.2 11 (by decide)).2.2.1) co_Ro_copy im_Ro_copy se_Ro_copy in_Ro gc_Ro_copy ml_St_61 ⟨Nat.le_of_ble_eq_true rfl, Nat.le_of_ble_eq_true rfl⟩ hK (hP.2.2 11 (by decide)).1 rfl ⟨(hP.2.2 11 (by decide)), (hPf.2.2 11 (by decide))⟩ rfl hl.1 rfl (Nat.le_of_ble_eq_true rfl) d_St_copy_112 ⟨Nat.le_of_ble_eq_true rfl, Nat.le_of_ble_eq_true rfl⟩ (g_wv (free := gRg b (b + 36)) hL (gRg.mono (by omega) (by omega)) (fun H_19 locs hL ⟨hR_20, hf_21⟩ => ?_))
        have hS_20 := hP.up 11 (by decide) hR_20 hf_21
        refine lv_aload_n hx hb d_St_copy_115 rfl (lv_at hl 1 rfl) ?_
        refine g_get C0 hK il_St hS_20.1 rfl 8 (by decide) fl_St_39 rfl d_St_copy_116 ?_
        refine lv_aload_n hx hb d_St_copy_119 rfl (lv_at hl 2 rfl) ?_
        refine g_get C0 hK il_St (hPf.fr hf_21 (by omega)).1 rfl 8 (by decide) fl_St_39 rfl d_St_copy_120 ?_
        refine g_V C0 (k_Ro_copy l G (b + 14) 16 (f + 14) 16 ((cpL Y F 11).2 12) (F.2 12) (by omega) ((hPf.fr hf_21 (by omega)).2.2 12 (by decide)).2.2.1) co_Ro_copy im_Ro_copy se_Ro_copy in_Ro gc_Ro_copy ml_St_61 ⟨Nat.le_of_ble_eq_true rfl, Nat.le_of_ble_eq_true rfl⟩ hK (hS_20.2.2 12 (by decide)).1 rfl ⟨(hS_20.2.2 12 (by decide)), ((hPf.fr hf_21 (by omega)).2.2 12 (by decide))⟩ rfl hl.1 rfl (Nat.le_of_ble_eq_true rfl) d_St_copy_123 ⟨Nat.le_of_ble_eq_true rfl, Nat.le_of_ble_eq_true rfl⟩ (g_wv (free := gRg b (b + 36)) hL (gRg.mono (by omega) (by omega)) (fun H_22 locs hL ⟨hR_23, hf_24⟩ => ?_))
        have hS_23 := hS_20.up 12 (by decide) hR_23 hf_24
        refine lv_aload_n hx hb d_St_copy_126 rfl (lv_at hl 1 rfl) ?_
        refine g_get C0 hK il_St hS_23.1 rfl 9 (by decide) fl_St_42 rfl d_St_copy_127 ?_
        refine lv_aload_n hx hb d_St_copy_130 rfl (lv_at hl 2 rfl) ?_
        refine g_get C0 hK il_St ((hPf.fr hf_21 (by omega)).fr hf_24 (by omega)).1 rfl 9 (by decide) fl_St_42 rfl d_St_copy_131 ?_
        refine g_V C0 (k_Ro_copy l G (b + 16) 16 (f + 16) 16 ((cpL Y F 11).2 13) (F.2 13) (by omega) (((hPf.fr hf_21 (by omega)).fr hf_24 (by omega)).2.2 13 (by decide)).2.2.1) co_Ro_copy im_Ro_copy se_Ro_copy in_Ro gc_Ro_copy ml_St_61 ⟨Nat.le_of_ble_eq_true rfl, Nat.le_of_ble_eq_true rfl⟩ hK (hS_23.2.2 13 (by decide)).1 rfl ⟨(hS_23.2.2 13 (by decide)), (((hPf.fr hf_21 (by omega)).fr hf_24 (by omega)).2.2 13 (by decide))⟩ rfl hl.1 rfl (Nat.le_of_ble_eq_true rfl) d_St_copy_134 ⟨Nat.le_of_ble_eq_true rfl, Nat.le_of_ble_eq_true rfl⟩ (g_wv (free := gRg b (b + 36)) hL (gRg.mono (by omega) (by omega)) (fun H_25 locs hL ⟨hR_26, hf_27⟩ => ?_))
        have hS_26 := hS_23.up 13 (by decide) hR_26 hf_27
        refine lv_aload_n hx hb d_St_copy_137 rfl (lv_at hl 1 rfl) ?_
        refine g_get C0 hK il_St hS_26.1 rfl 10 (by decide) fl_St_45 rfl d_St_copy_138 ?_
        refine lv_aload_n hx hb d_St_copy_141 rfl (lv_at hl 2 rfl) ?_
        refine g_get C0 hK il_St (((hPf.fr hf_21 (by omega)).fr hf_24 (by omega)).fr hf_27 (by omega)).1 rfl 10 (by decide) fl_St_45 rfl d_St_copy_142 ?_
        refine g_V C0 (k_Ro_copy l G (b + 18) 10 (f + 18) 10 ((cpL Y F 11).2 14) (F.2 14) (by omega) ((((hPf.fr hf_21 (by omega)).fr hf_24 (by omega)).fr hf_27 (by omega)).2.2 14 (by decide)).2.2.1) co_Ro_copy im_Ro_copy se_Ro_copy in_Ro gc_Ro_copy ml_St_61 ⟨Nat.le_of_ble_eq_true rfl, Nat.le_of_ble_eq_true rfl⟩ hK (hS_26.2.2 14 (by decide)).1 rfl ⟨(hS_26.2.2 14 (by decide)), ((((hPf.fr hf_21 (by omega)).fr hf_24 (by omega)).fr hf_27 (by omega)).2.2 14 (by decide))⟩ rfl hl.1 rfl (Nat.le_of_ble_eq_true rfl) d_St_copy_145 ⟨Nat.le_of_ble_eq_true rfl, Nat.le_of_ble_eq_true rfl⟩ (g_wv (free := gRg b (b + 36)) hL (gRg.mono (by omega) (by omega)) (fun H_28 locs hL ⟨hR_29, hf_30⟩ => ?_))
        have hS_29 := hS_26.up 14 (by decide) hR_29 hf_30
        refine lv_aload_n hx hb d_St_copy_148 rfl (lv_at hl 1 rfl) ?_
        refine g_get C0 hK il_St hS_29.1 rfl 11 (by decide) fl_St_48 rfl d_St_copy_149 ?_
        refine lv_aload_n hx hb d_St_copy_152 rfl (lv_at hl 2 rfl) ?_
        refine g_get C0 hK il_St ((((hPf.fr hf_21 (by omega)).fr hf_24 (by omega)).fr hf_27 (by omega)).fr hf_30 (by omega)).1 rfl 11 (by decide) fl_St_48 rfl d_St_copy_153 ?_
        refine g_V C0 (k_Ro_copy l G (b + 20) 10 (f + 20) 10 ((cpL Y F 11).2 15) (F.2 15) (by omega) (((((hPf.fr hf_21 (by omega)).fr hf_24 (by omega)).fr hf_27 (by omega)).fr hf_30 (by omega)).2.2 15 (by decide)).2.2.1) co_Ro_copy im_Ro_copy se_Ro_copy in_Ro gc_Ro_copy ml_St_61 ⟨Nat.le_of_ble_eq_true rfl, Nat.le_of_ble_eq_true rfl⟩ hK (hS_29.2.2 15 (by decide)).1 rfl ⟨(hS_29.2.2 15 (by decide)), (((((hPf.fr hf_21 (by omega)).fr hf_24 (by omega)).fr hf_27 (by omega)).fr hf_30 (by omega)).2.2 15 (by decide))⟩ rfl hl.1 rfl (Nat.le_of_ble_eq_true rfl) d_St_copy_156 ⟨Nat.le_of_ble_eq_true rfl, Nat.le_of_ble_eq_true rfl⟩ (g_wv (free := gRg b (b + 36)) hL (gRg.mono (by omega) (by omega)) (fun H_31 locs hL ⟨hR_32, hf_33⟩ => ?_))
        have hS_32 := hS_29.up 15 (by decide) hR_32 hf_33
        refine lv_aload_n hx hb d_St_copy_159 rfl (lv_at hl 1 rfl) ?_
        refine g_get C0 hK il_St hS_32.1 rfl 12 (by decide) fl_St_51 rfl d_St_copy_160 ?_
        refine lv_aload_n hx hb d_St_copy_163 rfl (lv_at hl 2 rfl) ?_
        refine g_get C0 hK il_St (((((hPf.fr hf_21 (by omega)).fr hf_24 (by omega)).fr hf_27 (by omega)).fr hf_30 (by omega)).fr hf_33 (by omega)).1 rfl 12 (by decide) fl_St_51 rfl d_St_copy_164 ?_
        refine g_V C0 (k_Ro_copy l G (b + 22) 10 (f + 22) 10 ((cpL Y F 11).2 16) (F.2 16) (by omega) ((((((hPf.fr hf_21 (by omega)).fr hf_24 (by omega)).fr hf_27 (by omega)).fr hf_30 (by omega)).fr hf_33 (by omega)).2.2 16 (by decide)).2.2.1) co_Ro_copy im_Ro_copy se_Ro_copy in_Ro gc_Ro_copy ml_St_61 ⟨Nat.le_of_ble_eq_true rfl, Nat.le_of_ble_eq_true rfl⟩ hK (hS_32.2.2 16 (by decide)).1 rfl ⟨(hS_32.2.2 16 (by decide)), ((((((hPf.fr hf_21 (by omega)).fr hf_24 (by omega)).fr hf_27 (by omega)).fr hf_30 (by omega)).fr hf_33 (by omega)).2.2 16 (by decide))⟩ rfl hl.1 rfl (Nat.le_of_ble_eq_true rfl) d_St_copy_167 ⟨Nat.le_of_ble_eq_true rfl, Nat.le_of_ble_eq_true rfl⟩ (g_wv (free := gRg b (b + 36)) hL (gRg.mono (by omega) (by omega)) (fun H_34 locs hL ⟨hR_35, hf_36⟩ => ?_))
        have hS_35 := hS_32.up 16 (by decide) hR_35 hf_36
        refine g_vret C0 hlk hr d_St_copy_170 hL ?_
        exact ⟨rfl, (show StAt G b (cpL Y F 17) _ by rw [← cpL_s, ← cpL_s, ← cpL_s, ← cpL_s, ← cpL_s, ← cpL_s]; exact hS_35), ((((((hF.tr (hf_21.mono (by omega) (by omega))).tr (hf_24.mono (by omega) (by omega))).tr (hf_27.mono (by omega) (by omega))).tr (hf_30.mono (by omega) (by omega))).tr (hf_33.mono (by omega) (by omega))).tr (hf_36.mono (by omega) (by omega)))⟩
      · skip
        refine lv_iconst (v := nI 0) hx hb d_St_copy_70 (by decide +kernel) ?_
        refine lv_istore_n (lv' := [(3, .int (nI 0)), (2, .int (nI i)), (0, .ref b), (1, .ref f)]) hx hb d_St_copy_71 rfl hl (by decide) rfl (fun ls hl => ?_)
        have lp72 : ∀ (fu : Nat) (j : Nat) (H : Heap) (locs : List Loc), (3 - j) < fu → j ≤ 3 → (∀ q ∈ locs, (gRg b (b + 36)) q.base) → StAt G b (cpL Y F (5 + lix i j)) H → StAt G f F H → gFr b (b + 36) s.heap H → ∀ ls : Array Slot, lv_has ls 4 [(3, .int (nI j)), (2, .int (nI i)), (0, .ref b), (1, .ref f)] → W p l e ({ frames := 3, cells := 0, slots := 0, locals := 61 } : Room) s m args below meth c H locs 0 0 (MQ below (gQ (wv (fun H H1 => StAt G b (cpL Y F 17) H1 ∧ gFr b (b + 36) H H1))) args s 0 0 (gRg b (b + 36))) (F0 m 72 ls []) := by
          intro fu
          induction fu with
          | zero => intro j H locs hfu; exact absurd hfu (Nat.not_lt_zero _)
          | succ fu ih72 =>
            intro j H locs hfu hj hL hP hPf hF ls hl
            refine lv_iload_n hx hb d_St_copy_72 rfl (lv_at hl 0 rfl) ?_
            refine lv_iconst (v := nI 3) hx hb d_St_copy_73 (by decide +kernel) ?_
            refine g_cge (tgt := 98) C0 d_St_copy_74 (by decide) (by omega) (by omega) (fun c_74 => ?_) (fun c_74 => ?_)
            · skip
              refine lv_iinc (v := (nI (i + 1))) (lv' := [(2, .int (nI (i + 1))), (3, .int (nI j)), (0, .ref b), (1, .ref f)]) hx hb d_St_copy_98 hl (k := 1) rfl (gI_inc _) (by decide) rfl (fun ls hl => ?_)
              refine lv_goto (tgt := 65) hx hb d_St_copy_101 (by decide) ?_
              exact ih65 (i + 1) H locs (by omega) (by omega) hL (by rw [show lix (i + 1) 0 = lix i j by unfold lix; omega]; exact hP) hPf hF ls (lv_sub hl [0, 2, 3] rfl)
            · skip
              have hlix := lix_lt (c := i) (k := j) (by omega) (by omega)
              refine lv_aload_n hx hb d_St_copy_77 rfl (lv_at hl 2 rfl) ?_
              refine lv_iload_n hx hb d_St_copy_78 rfl (lv_at hl 1 rfl) ?_
              refine lv_iload_n hx hb d_St_copy_79 rfl (lv_at hl 0 rfl) ?_
              refine g_V C0 (k_St_listOfN l G b (cpL Y F (5 + lix i j)) i j (by omega) (by omega)) co_St_listOf im_St_listOf se_St_listOf in_St gc_St_listOf ml_St_65 ⟨Nat.le_of_ble_eq_true rfl, Nat.le_of_ble_eq_true rfl⟩ hK hP.1 rfl hP rfl hl.1 rfl (Nat.le_of_ble_eq_true rfl) d_St_copy_80 ⟨Nat.le_of_ble_eq_true rfl, Nat.le_of_ble_eq_true rfl⟩ (g_r rfl ?_)
              refine lv_aload_n hx hb d_St_copy_83 rfl (lv_at hl 3 rfl) ?_
              refine lv_iload_n hx hb d_St_copy_84 rfl (lv_at hl 1 rfl) ?_
              refine lv_iload_n hx hb d_St_copy_85 rfl (lv_at hl 0 rfl) ?_
              refine g_V C0 (k_St_listOfN l G f F i j (by omega) (by omega)) co_St_listOf im_St_listOf se_St_listOf in_St gc_St_listOf ml_St_65 ⟨Nat.le_of_ble_eq_true rfl, Nat.le_of_ble_eq_true rfl⟩ hK hPf.1 rfl hPf rfl hl.1 rfl (Nat.le_of_ble_eq_true rfl) d_St_copy_86 ⟨Nat.le_of_ble_eq_true rfl, Nat.le_of_ble_eq_true rfl⟩ (g_r rfl ?_)
              refine g_S C0 (k_St_copyList l G (b + 24 + 2 * lix i j) 8 (f + 24 + 2 * lix i j) 8 ((cpL Y F (5 + lix i j)).2 (5 + (lix i j))) (F.2 (5 + (lix i j))) (by omega) (hPf.ls (lix_lt (by omega) (by omega))).2.2.1) co_St_copyList sm_St_copyList in_St gc_St_copyList ml_St_69 ⟨Nat.le_of_ble_eq_true rfl, Nat.le_of_ble_eq_true rfl⟩ hK ⟨(hP.ls (lix_lt (by omega) (by omega))), (hPf.ls (lix_lt (by omega) (by omega)))⟩ rfl hl.1 rfl (Nat.le_of_ble_eq_true rfl) d_St_copy_89 ⟨Nat.le_of_ble_eq_true rfl, Nat.le_of_ble_eq_true rfl⟩ (g_wv (free := gRg b (b + 36)) hL (gRg.mono (by omega) (by omega)) (fun H_37 locs hL ⟨hR_38, hf_39⟩ => ?_))
              have hS_38 := hP.upl (lix_lt (by omega) (by omega)) hR_38 hf_39
              refine lv_iinc (v := (nI (j + 1))) (lv' := [(3, .int (nI (j + 1))), (2, .int (nI i)), (0, .ref b), (1, .ref f)]) hx hb d_St_copy_92 hl (k := 0) rfl (gI_inc _) (by decide) rfl (fun ls hl => ?_)
              refine lv_goto (tgt := 72) hx hb d_St_copy_95 (by decide) ?_
              exact ih72 (j + 1) H_37 locs (by omega) (by omega) hL (by have h := hS_38; rw [cpL_s (n := 5 + lix i j)] at h; exact h) (hPf.fr hf_39 (by omega)) (hF.tr (hf_39.mono (by omega) (by omega))) ls (lv_sub hl [0, 1, 2, 3] rfl)
        exact lp72 ((3 - 0) + 1) 0 H locs (by omega) (by omega) hL hP hPf hF ls (lv_sub hl [0, 1, 2, 3] rfl)
  exact lp65 ((2 - 0) + 1) 0 H_16 locs (by omega) (by omega) hL (show StAt G b (cpL Y F 5) _ by rw [← cpL_s, ← cpL_s, ← cpL_s, ← cpL_s, ← cpL_s, cpL_0]; exact hS_17) ((((((hP.2.ch hc_3 (by omega)).fr hf_6 (by omega)).fr hf_9 (by omega)).fr hf_12 (by omega)).fr hf_15 (by omega)).fr hf_18 (by omega)) ((((((gFr.rf.tr (gFr.ch hc_3 (by omega) (by omega))).tr (hf_6.mono (by omega) (by omega))).tr (hf_9.mono (by omega) (by omega))).tr (hf_12.mono (by omega) (by omega))).tr (hf_15.mono (by omega) (by omega))).tr (hf_18.mono (by omega) (by omega))) ls (lv_sub hl [0, 1, 2] rfl)
