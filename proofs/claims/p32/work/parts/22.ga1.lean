set_option maxHeartbeats 4000000 in
set_option maxRecDepth 100000 in
theorem k_Ga_of (l : Launch) (G : gT) (x : Nat) (X : XS) (a w : Int32) (hX : XOk X) : gM l y_Ga_of c_Ga_of 3 (some .int) 6 132 0 0 G [.ref x, .int a, .int w] (fun H => XAt G x X H) (rd (.int (cOf X.1 a w))) noF := by
  refine g_enter "GaleNames" (by decide +kernel) rfl (Nat.le_of_ble_eq_true rfl) ?_
  intro p e s m args below meth c C0 hlk hr hnm hP hK ls hl
  have hx := C0.1
  have hb := C0.2.1
  have hl : lv_has ls 3 [(0, .ref x), (1, .int a), (2, .int w)] := hl
  have hsv : SvAt G x X.2.2.2.1 X.2.2.2.2 s.heap := hP.2.2.2.2.2.1
  refine lv_aload_n hx hb d_Ga_of_0 rfl (lv_at hl 0 rfl) ?_
  refine g_get C0 hK il_Ga hP.1 rfl 0 (by decide) fl_Ga_12 rfl d_Ga_of_1 ?_
  refine g_getN C0 hK il_St hP.2.1.1 rfl 2 (by decide) fn_Ga_149 rfl d_Ga_of_4 ?_
  refine lv_iload_n hx hb d_Ga_of_7 rfl (lv_at hl 1 rfl) ?_
  refine g_V C0 (k_Ro_has l G (x + 4) 40 (X.1.2 1) a) co_Ro_has im_Ro_has se_Ro_has in_Ro gc_Ro_has ml_Ga_91 ⟨Nat.le_of_ble_eq_true rfl, Nat.le_of_ble_eq_true rfl⟩ hK (hP.2.1.2.2 1 (by decide)).1 rfl (hP.2.1.2.2 1 (by decide)) rfl hl.1 rfl (Nat.le_of_ble_eq_true rfl) d_Ga_of_8 ⟨Nat.le_of_ble_eq_true rfl, Nat.le_of_ble_eq_true rfl⟩ (g_r rfl ?_)
  refine g_zne (tgt := 16) C0 d_Ga_of_11 (by decide) (fun c_11 => ?_) (fun c_11 => ?_)
  · skip
    obtain ⟨i, hi, hi31, rfl⟩ := inR_t c_11
    refine lv_iload_n hx hb d_Ga_of_16 rfl (lv_at hl 2 rfl) ?_
    rcases inR_or w 7 with ht | ⟨it, hit, hit31, het⟩
    · refine lv_tableOut (tgt := 138) hx hb d_Ga_of_17 (inR_out ht (by decide)) (by decide) ?_
      refine lv_bipush (v := -2) hx hb d_Ga_of_138 (by decide +kernel) ?_
      refine g_iret C0 hlk hr d_Ga_of_140 (t_nil (free := noF)) ?_
      exact ⟨rdI (by rw [cOf, c_11, ht]; rfl), rfl⟩
    · have hd : it = 0 ∨ it = 1 ∨ it = 2 ∨ it = 3 ∨ it = 4 ∨ it = 5 ∨ it = 6 := by omega
      rcases hd with rfl | rfl | rfl | rfl | rfl | rfl | rfl
      · subst het
        refine lv_tableIn (tgt := 60) hx hb d_Ga_of_17 (by decide +kernel) (by decide +kernel) (show _ = some _ from rfl) (by decide +kernel) ?_
        refine lv_aload_n hx hb d_Ga_of_60 rfl (lv_at hl 0 rfl) ?_
        refine g_get C0 hK il_Ga hP.1 rfl 0 (by decide) fl_Ga_12 rfl d_Ga_of_61 ?_
        refine g_getN C0 hK il_St hP.2.1.1 rfl 2 (by decide) fn_Ga_149 rfl d_Ga_of_64 ?_
        refine lv_iload_n hx hb d_Ga_of_67 rfl (lv_at hl 1 rfl) ?_
        refine g_V C0 (k_Ro_at l G (x + 4) 40 (X.1.2 1) i (by omega)) co_Ro_at im_Ro_at se_Ro_at in_Ro gc_Ro_at ml_Ga_45 ⟨Nat.le_of_ble_eq_true rfl, Nat.le_of_ble_eq_true rfl⟩ hK (hP.2.1.2.2 1 (by decide)).1 rfl (hP.2.1.2.2 1 (by decide)) rfl hl.1 rfl (Nat.le_of_ble_eq_true rfl) d_Ga_of_68 ⟨Nat.le_of_ble_eq_true rfl, Nat.le_of_ble_eq_true rfl⟩ (g_r rfl ?_)
        refine g_S C0 (k_Ke_length l G (rA (X.1.2 1) i) (rA_lt (hX.1.b (by decide)) (by decide))) co_Ke_length sm_Ke_length in_Ke gc_Ke_length ml_Ga_155 ⟨Nat.le_of_ble_eq_true rfl, Nat.le_of_ble_eq_true rfl⟩ hK trivial rfl hl.1 rfl (Nat.le_of_ble_eq_true rfl) d_Ga_of_71 ⟨Nat.le_of_ble_eq_true rfl, Nat.le_of_ble_eq_true rfl⟩ (g_r rfl ?_)
        refine g_iret C0 hlk hr d_Ga_of_74 (t_nil (free := noF)) ?_
        exact ⟨rdI (by rw [cOf, c_11, inR_i (by decide) (by decide), if_pos rfl, if_pos rfl, nI_clamp hi31, nI_clamp (by decide)]; rfl), rfl⟩
      · subst het
        refine lv_tableIn (tgt := 75) hx hb d_Ga_of_17 (by decide +kernel) (by decide +kernel) (show _ = some _ from rfl) (by decide +kernel) ?_
        refine lv_aload_n hx hb d_Ga_of_75 rfl (lv_at hl 0 rfl) ?_
        refine g_get C0 hK il_Ga hP.1 rfl 0 (by decide) fl_Ga_12 rfl d_Ga_of_76 ?_
        refine g_getN C0 hK il_St hP.2.1.1 rfl 3 (by decide) fn_Ga_160 rfl d_Ga_of_79 ?_
        refine lv_iload_n hx hb d_Ga_of_82 rfl (lv_at hl 1 rfl) ?_
        refine g_V C0 (k_Ro_at l G (x + 6) 40 (X.1.2 2) i (by omega)) co_Ro_at im_Ro_at se_Ro_at in_Ro gc_Ro_at ml_Ga_45 ⟨Nat.le_of_ble_eq_true rfl, Nat.le_of_ble_eq_true rfl⟩ hK (hP.2.1.2.2 2 (by decide)).1 rfl (hP.2.1.2.2 2 (by decide)) rfl hl.1 rfl (Nat.le_of_ble_eq_true rfl) d_Ga_of_83 ⟨Nat.le_of_ble_eq_true rfl, Nat.le_of_ble_eq_true rfl⟩ (g_r rfl ?_)
        refine g_iret C0 hlk hr d_Ga_of_86 (t_nil (free := noF)) ?_
        exact ⟨rdI (by rw [cOf, c_11, inR_i (by decide) (by decide), if_pos rfl, if_pos rfl, nI_clamp hi31, nI_clamp (by decide)]; rfl), rfl⟩
      · subst het
        refine lv_tableIn (tgt := 87) hx hb d_Ga_of_17 (by decide +kernel) (by decide +kernel) (show _ = some _ from rfl) (by decide +kernel) ?_
        refine lv_aload_n hx hb d_Ga_of_87 rfl (lv_at hl 0 rfl) ?_
        refine g_get C0 hK il_Ga hP.1 rfl 0 (by decide) fl_Ga_12 rfl d_Ga_of_88 ?_
        refine lv_iload_n hx hb d_Ga_of_91 rfl (lv_at hl 1 rfl) ?_
        refine g_V C0 (k_St_coastsOf l G (x + 1) X.1 i (by omega) hX.1) co_St_coastsOf im_St_coastsOf se_St_coastsOf in_St gc_St_coastsOf ml_Ga_163 ⟨Nat.le_of_ble_eq_true rfl, Nat.le_of_ble_eq_true rfl⟩ hK hP.2.1.1 rfl hP.2.1 rfl hl.1 rfl (Nat.le_of_ble_eq_true rfl) d_Ga_of_92 ⟨Nat.le_of_ble_eq_true rfl, Nat.le_of_ble_eq_true rfl⟩ (g_r rfl ?_)
        refine g_iret C0 hlk hr d_Ga_of_95 (t_nil (free := noF)) ?_
        exact ⟨rdI (by rw [cOf, c_11, inR_i (by decide) (by decide), if_pos rfl, if_pos rfl, nI_clamp hi31, nI_clamp (by decide)]; rfl), rfl⟩
      · subst het
        refine lv_tableIn (tgt := 96) hx hb d_Ga_of_17 (by decide +kernel) (by decide +kernel) (show _ = some _ from rfl) (by decide +kernel) ?_
        refine lv_aload_n hx hb d_Ga_of_96 rfl (lv_at hl 0 rfl) ?_
        refine g_get C0 hK il_Ga hP.1 rfl 0 (by decide) fl_Ga_12 rfl d_Ga_of_97 ?_
        refine g_getN C0 hK il_St hP.2.1.1 rfl 4 (by decide) fn_Ga_166 rfl d_Ga_of_100 ?_
        refine lv_iload_n hx hb d_Ga_of_103 rfl (lv_at hl 1 rfl) ?_
        refine g_V C0 (k_Ro_at l G (x + 8) 40 (X.1.2 3) i (by omega)) co_Ro_at im_Ro_at se_Ro_at in_Ro gc_Ro_at ml_Ga_45 ⟨Nat.le_of_ble_eq_true rfl, Nat.le_of_ble_eq_true rfl⟩ hK (hP.2.1.2.2 3 (by decide)).1 rfl (hP.2.1.2.2 3 (by decide)) rfl hl.1 rfl (Nat.le_of_ble_eq_true rfl) d_Ga_of_104 ⟨Nat.le_of_ble_eq_true rfl, Nat.le_of_ble_eq_true rfl⟩ (g_r rfl ?_)
        refine g_iret C0 hlk hr d_Ga_of_107 (t_nil (free := noF)) ?_
        exact ⟨rdI (by rw [cOf, c_11, inR_i (by decide) (by decide), if_pos rfl, if_pos rfl, nI_clamp hi31, nI_clamp (by decide)]; rfl), rfl⟩
      · subst het
        refine lv_tableIn (tgt := 108) hx hb d_Ga_of_17 (by decide +kernel) (by decide +kernel) (show _ = some _ from rfl) (by decide +kernel) ?_
        refine lv_aload_n hx hb d_Ga_of_108 rfl (lv_at hl 0 rfl) ?_
        refine g_get C0 hK il_Ga hP.1 rfl 0 (by decide) fl_Ga_12 rfl d_Ga_of_109 ?_
        refine g_getN C0 hK il_St hP.2.1.1 rfl 5 (by decide) fn_Ga_111 rfl d_Ga_of_112 ?_
        refine lv_iload_n hx hb d_Ga_of_115 rfl (lv_at hl 1 rfl) ?_
        refine g_V C0 (k_Ro_at l G (x + 10) 40 (X.1.2 4) i (by omega)) co_Ro_at im_Ro_at se_Ro_at in_Ro gc_Ro_at ml_Ga_45 ⟨Nat.le_of_ble_eq_true rfl, Nat.le_of_ble_eq_true rfl⟩ hK (hP.2.1.2.2 4 (by decide)).1 rfl (hP.2.1.2.2 4 (by decide)) rfl hl.1 rfl (Nat.le_of_ble_eq_true rfl) d_Ga_of_116 ⟨Nat.le_of_ble_eq_true rfl, Nat.le_of_ble_eq_true rfl⟩ (g_r rfl ?_)
        refine g_iret C0 hlk hr d_Ga_of_119 (t_nil (free := noF)) ?_
        exact ⟨rdI (by rw [cOf, c_11, inR_i (by decide) (by decide), if_pos rfl, if_pos rfl, nI_clamp hi31, nI_clamp (by decide)]; rfl), rfl⟩
      · subst het
        refine lv_tableIn (tgt := 120) hx hb d_Ga_of_17 (by decide +kernel) (by decide +kernel) (show _ = some _ from rfl) (by decide +kernel) ?_
        refine lv_aload_n hx hb d_Ga_of_120 rfl (lv_at hl 0 rfl) ?_
        refine g_get C0 hK il_Ga hP.1 rfl 0 (by decide) fl_Ga_12 rfl d_Ga_of_121 ?_
        refine lv_iload_n hx hb d_Ga_of_124 rfl (lv_at hl 1 rfl) ?_
        refine g_V C0 (k_St_namesakesOf l G (x + 1) X.1 i (by omega) hX.1) co_St_namesakesOf im_St_namesakesOf se_St_namesakesOf in_St gc_St_namesakesOf ml_Ga_169 ⟨Nat.le_of_ble_eq_true rfl, Nat.le_of_ble_eq_true rfl⟩ hK hP.2.1.1 rfl hP.2.1 rfl hl.1 rfl (Nat.le_of_ble_eq_true rfl) d_Ga_of_125 ⟨Nat.le_of_ble_eq_true rfl, Nat.le_of_ble_eq_true rfl⟩ (g_r rfl ?_)
        refine g_iret C0 hlk hr d_Ga_of_128 (t_nil (free := noF)) ?_
        exact ⟨rdI (by rw [cOf, c_11, inR_i (by decide) (by decide), if_pos rfl, if_pos rfl, nI_clamp hi31, nI_clamp (by decide)]; rfl), rfl⟩
      · subst het
        refine lv_tableIn (tgt := 129) hx hb d_Ga_of_17 (by decide +kernel) (by decide +kernel) (show _ = some _ from rfl) (by decide +kernel) ?_
        refine lv_aload_n hx hb d_Ga_of_129 rfl (lv_at hl 0 rfl) ?_
        refine g_get C0 hK il_Ga hP.1 rfl 0 (by decide) fl_Ga_12 rfl d_Ga_of_130 ?_
        refine lv_iload_n hx hb d_Ga_of_133 rfl (lv_at hl 1 rfl) ?_
        refine g_V C0 (k_St_alikeTo l G (x + 1) X.1 i (by omega) hX.1) co_St_alikeTo im_St_alikeTo se_St_alikeTo in_St gc_St_alikeTo ml_Ga_172 ⟨Nat.le_of_ble_eq_true rfl, Nat.le_of_ble_eq_true rfl⟩ hK hP.2.1.1 rfl hP.2.1 rfl hl.1 rfl (Nat.le_of_ble_eq_true rfl) d_Ga_of_134 ⟨Nat.le_of_ble_eq_true rfl, Nat.le_of_ble_eq_true rfl⟩ (g_r rfl ?_)
        refine g_iret C0 hlk hr d_Ga_of_137 (t_nil (free := noF)) ?_
        exact ⟨rdI (by rw [cOf, c_11, inR_i (by decide) (by decide), if_pos rfl, if_pos rfl, nI_clamp hi31, nI_clamp (by decide)]; rfl), rfl⟩
  · skip
    refine lv_iconst (v := -1) hx hb d_Ga_of_14 (by decide +kernel) ?_
    refine g_iret C0 hlk hr d_Ga_of_15 (t_nil (free := noF)) ?_
    exact ⟨rdI (by rw [cOf, c_11]; rfl), rfl⟩

set_option maxHeartbeats 4000000 in
set_option maxRecDepth 100000 in
theorem k_Ga_letter (l : Launch) (G : gT) (x : Nat) (X : XS) (a j : Int32) (hX : XOk X) : gM l y_Ga_letter c_Ga_letter 4 (some .int) 2 42 0 0 G [.ref x, .int a, .int j] (fun H => XAt G x X H) (rd (.int (cLetter X.1 a j))) noF := by
  refine g_enter "GaleNames" (by decide +kernel) rfl (Nat.le_of_ble_eq_true rfl) ?_
  intro p e s m args below meth c C0 hlk hr hnm hP hK ls hl
  have hx := C0.1
  have hb := C0.2.1
  have hl : lv_has ls 4 [(0, .ref x), (1, .int a), (2, .int j)] := hl
  have hsv : SvAt G x X.2.2.2.1 X.2.2.2.2 s.heap := hP.2.2.2.2.2.1
  refine lv_aload_n hx hb d_Ga_letter_0 rfl (lv_at hl 0 rfl) ?_
  refine g_get C0 hK il_Ga hP.1 rfl 0 (by decide) fl_Ga_12 rfl d_Ga_letter_1 ?_
  refine g_getN C0 hK il_St hP.2.1.1 rfl 2 (by decide) fn_Ga_149 rfl d_Ga_letter_4 ?_
  refine lv_iload_n hx hb d_Ga_letter_7 rfl (lv_at hl 1 rfl) ?_
  refine g_V C0 (k_Ro_has l G (x + 4) 40 (X.1.2 1) a) co_Ro_has im_Ro_has se_Ro_has in_Ro gc_Ro_has ml_Ga_91 ⟨Nat.le_of_ble_eq_true rfl, Nat.le_of_ble_eq_true rfl⟩ hK (hP.2.1.2.2 1 (by decide)).1 rfl (hP.2.1.2.2 1 (by decide)) rfl hl.1 rfl (Nat.le_of_ble_eq_true rfl) d_Ga_letter_8 ⟨Nat.le_of_ble_eq_true rfl, Nat.le_of_ble_eq_true rfl⟩ (g_r rfl ?_)
  refine g_zne (tgt := 16) C0 d_Ga_letter_11 (by decide) (fun c_11 => ?_) (fun c_11 => ?_)
  · skip
    obtain ⟨i, hi, hi31, rfl⟩ := inR_t c_11
    refine lv_aload_n hx hb d_Ga_letter_16 rfl (lv_at hl 0 rfl) ?_
    refine g_get C0 hK il_Ga hP.1 rfl 0 (by decide) fl_Ga_12 rfl d_Ga_letter_17 ?_
    refine g_getN C0 hK il_St hP.2.1.1 rfl 2 (by decide) fn_Ga_149 rfl d_Ga_letter_20 ?_
    refine lv_iload_n hx hb d_Ga_letter_23 rfl (lv_at hl 1 rfl) ?_
    refine g_V C0 (k_Ro_at l G (x + 4) 40 (X.1.2 1) i (by omega)) co_Ro_at im_Ro_at se_Ro_at in_Ro gc_Ro_at ml_Ga_45 ⟨Nat.le_of_ble_eq_true rfl, Nat.le_of_ble_eq_true rfl⟩ hK (hP.2.1.2.2 1 (by decide)).1 rfl (hP.2.1.2.2 1 (by decide)) rfl hl.1 rfl (Nat.le_of_ble_eq_true rfl) d_Ga_letter_24 ⟨Nat.le_of_ble_eq_true rfl, Nat.le_of_ble_eq_true rfl⟩ (g_r rfl ?_)
    refine lv_iload_n hx hb d_Ga_letter_27 rfl (lv_at hl 2 rfl) ?_
    refine g_S C0 (k_Ke_letterAt l G (rA (X.1.2 1) i) j (rA_lt (hX.1.b (by decide)) (by decide))) co_Ke_letterAt sm_Ke_letterAt in_Ke gc_Ke_letterAt ml_Ga_175 ⟨Nat.le_of_ble_eq_true rfl, Nat.le_of_ble_eq_true rfl⟩ hK trivial rfl hl.1 rfl (Nat.le_of_ble_eq_true rfl) d_Ga_letter_28 ⟨Nat.le_of_ble_eq_true rfl, Nat.le_of_ble_eq_true rfl⟩ (g_r rfl ?_)
    refine lv_istore_n (lv' := [(3, .int (nI (kA (rA (X.1.2 1) i) j))), (0, .ref x), (1, .int (nI i)), (2, .int j)]) hx hb d_Ga_letter_31 rfl hl (by decide) rfl (fun ls hl => ?_)
    refine lv_iload_n hx hb d_Ga_letter_32 rfl (lv_at hl 0 rfl) ?_
    refine lv_if_ne (tgt := 40) hx hb d_Ga_letter_33 (by decide) (fun c_33 => ?_) (fun c_33 => ?_)
    · skip
      have c_33 : ¬ kA (rA (X.1.2 1) i) j = 0 := fun h => c_33 (by rw [h]; rfl)
      refine lv_iload_n hx hb d_Ga_letter_40 rfl (lv_at hl 0 rfl) ?_
      refine g_S C0 (k_Ke_signOf l G (kA (rA (X.1.2 1) i) j)) co_Ke_signOf sm_Ke_signOf in_Ke gc_Ke_signOf ml_Ga_178 ⟨Nat.le_of_ble_eq_true rfl, Nat.le_of_ble_eq_true rfl⟩ hK trivial rfl hl.1 rfl (Nat.le_of_ble_eq_true rfl) d_Ga_letter_41 ⟨Nat.le_of_ble_eq_true rfl, Nat.le_of_ble_eq_true rfl⟩ (g_r rfl ?_)
      refine g_iret C0 hlk hr d_Ga_letter_44 (t_nil (free := noF)) ?_
      exact ⟨rdI (by rw [cLetter, c_11, if_pos rfl, nI_clamp hi31, if_neg c_33]), rfl⟩
    · skip
      have c_33 : kA (rA (X.1.2 1) i) j = 0 := (nI_eqi (b := 0) (Nat.lt_trans (kA_lt _ _) (by decide)) (by omega)).mp c_33
      refine lv_iconst (v := -1) hx hb d_Ga_letter_36 (by decide +kernel) ?_
      refine lv_goto (tgt := 44) hx hb d_Ga_letter_37 (by decide) ?_
      refine g_iret C0 hlk hr d_Ga_letter_44 (t_nil (free := noF)) ?_
      exact ⟨rdI (by rw [cLetter, c_11, if_pos rfl, nI_clamp hi31, if_pos c_33]), rfl⟩
  · skip
    refine lv_iconst (v := -1) hx hb d_Ga_letter_14 (by decide +kernel) ?_
    refine g_iret C0 hlk hr d_Ga_letter_15 (t_nil (free := noF)) ?_
    exact ⟨rdI (by rw [cLetter, c_11]; rfl), rfl⟩

set_option maxHeartbeats 4000000 in
set_option maxRecDepth 100000 in
theorem k_Ga_ofStorm (l : Launch) (G : gT) (x : Nat) (X : XS) (a w : Int32) (hX : XOk X) : gM l y_Ga_ofStorm c_Ga_ofStorm 3 (some .int) 3 64 0 0 G [.ref x, .int a, .int w] (fun H => XAt G x X H) (rd (.int (cOfS X.1 a w))) noF := by
  refine g_enter "GaleNames" (by decide +kernel) rfl (Nat.le_of_ble_eq_true rfl) ?_
  intro p e s m args below meth c C0 hlk hr hnm hP hK ls hl
  have hx := C0.1
  have hb := C0.2.1
  have hl : lv_has ls 3 [(0, .ref x), (1, .int a), (2, .int w)] := hl
  have hsv : SvAt G x X.2.2.2.1 X.2.2.2.2 s.heap := hP.2.2.2.2.2.1
  refine lv_aload_n hx hb d_Ga_ofStorm_0 rfl (lv_at hl 0 rfl) ?_
  refine g_get C0 hK il_Ga hP.1 rfl 0 (by decide) fl_Ga_12 rfl d_Ga_ofStorm_1 ?_
  refine g_getN C0 hK il_St hP.2.1.1 rfl 7 (by decide) fn_Ga_104 rfl d_Ga_ofStorm_4 ?_
  refine lv_iload_n hx hb d_Ga_ofStorm_7 rfl (lv_at hl 1 rfl) ?_
  refine g_V C0 (k_Ro_has l G (x + 13) 16 (X.1.2 11) a) co_Ro_has im_Ro_has se_Ro_has in_Ro gc_Ro_has ml_Ga_91 ⟨Nat.le_of_ble_eq_true rfl, Nat.le_of_ble_eq_true rfl⟩ hK (hP.2.1.2.2 11 (by decide)).1 rfl (hP.2.1.2.2 11 (by decide)) rfl hl.1 rfl (Nat.le_of_ble_eq_true rfl) d_Ga_ofStorm_8 ⟨Nat.le_of_ble_eq_true rfl, Nat.le_of_ble_eq_true rfl⟩ (g_r rfl ?_)
  refine g_zne (tgt := 16) C0 d_Ga_ofStorm_11 (by decide) (fun c_11 => ?_) (fun c_11 => ?_)
  · skip
    obtain ⟨i, hi, hi31, rfl⟩ := inR_t c_11
    refine lv_iload_n hx hb d_Ga_ofStorm_16 rfl (lv_at hl 2 rfl) ?_
    rcases inR_or w 4 with ht | ⟨it, hit, hit31, het⟩
    · refine lv_tableOut (tgt := 93) hx hb d_Ga_ofStorm_17 (inR_out ht (by decide)) (by decide) ?_
      refine lv_bipush (v := -2) hx hb d_Ga_ofStorm_93 (by decide +kernel) ?_
      refine g_iret C0 hlk hr d_Ga_ofStorm_95 (t_nil (free := noF)) ?_
      exact ⟨rdI (by rw [cOfS, c_11, ht]; rfl), rfl⟩
    · have hd : it = 0 ∨ it = 1 ∨ it = 2 ∨ it = 3 := by omega
      rcases hd with rfl | rfl | rfl | rfl
      · subst het
        refine lv_tableIn (tgt := 48) hx hb d_Ga_ofStorm_17 (by decide +kernel) (by decide +kernel) (show _ = some _ from rfl) (by decide +kernel) ?_
        refine lv_aload_n hx hb d_Ga_ofStorm_48 rfl (lv_at hl 0 rfl) ?_
        refine g_get C0 hK il_Ga hP.1 rfl 0 (by decide) fl_Ga_12 rfl d_Ga_ofStorm_49 ?_
        refine g_getN C0 hK il_St hP.2.1.1 rfl 7 (by decide) fn_Ga_104 rfl d_Ga_ofStorm_52 ?_
        refine lv_iload_n hx hb d_Ga_ofStorm_55 rfl (lv_at hl 1 rfl) ?_
        refine g_V C0 (k_Ro_at l G (x + 13) 16 (X.1.2 11) i (by omega)) co_Ro_at im_Ro_at se_Ro_at in_Ro gc_Ro_at ml_Ga_45 ⟨Nat.le_of_ble_eq_true rfl, Nat.le_of_ble_eq_true rfl⟩ hK (hP.2.1.2.2 11 (by decide)).1 rfl (hP.2.1.2.2 11 (by decide)) rfl hl.1 rfl (Nat.le_of_ble_eq_true rfl) d_Ga_ofStorm_56 ⟨Nat.le_of_ble_eq_true rfl, Nat.le_of_ble_eq_true rfl⟩ (g_r rfl ?_)
        refine g_iret C0 hlk hr d_Ga_ofStorm_59 (t_nil (free := noF)) ?_
        exact ⟨rdI (by rw [cOfS, c_11, inR_i (by decide) (by decide), if_pos rfl, if_pos rfl, nI_clamp hi31, nI_clamp (by decide)]; rfl), rfl⟩
      · subst het
        refine lv_tableIn (tgt := 60) hx hb d_Ga_ofStorm_17 (by decide +kernel) (by decide +kernel) (show _ = some _ from rfl) (by decide +kernel) ?_
        refine lv_aload_n hx hb d_Ga_ofStorm_60 rfl (lv_at hl 0 rfl) ?_
        refine g_get C0 hK il_Ga hP.1 rfl 0 (by decide) fl_Ga_12 rfl d_Ga_ofStorm_61 ?_
        refine g_getN C0 hK il_St hP.2.1.1 rfl 8 (by decide) fn_Ga_181 rfl d_Ga_ofStorm_64 ?_
        refine lv_iload_n hx hb d_Ga_ofStorm_67 rfl (lv_at hl 1 rfl) ?_
        refine g_V C0 (k_Ro_at l G (x + 15) 16 (X.1.2 12) i (by omega)) co_Ro_at im_Ro_at se_Ro_at in_Ro gc_Ro_at ml_Ga_45 ⟨Nat.le_of_ble_eq_true rfl, Nat.le_of_ble_eq_true rfl⟩ hK (hP.2.1.2.2 12 (by decide)).1 rfl (hP.2.1.2.2 12 (by decide)) rfl hl.1 rfl (Nat.le_of_ble_eq_true rfl) d_Ga_ofStorm_68 ⟨Nat.le_of_ble_eq_true rfl, Nat.le_of_ble_eq_true rfl⟩ (g_r rfl ?_)
        refine g_iret C0 hlk hr d_Ga_ofStorm_71 (t_nil (free := noF)) ?_
        exact ⟨rdI (by rw [cOfS, c_11, inR_i (by decide) (by decide), if_pos rfl, if_pos rfl, nI_clamp hi31, nI_clamp (by decide)]; rfl), rfl⟩
      · subst het
        refine lv_tableIn (tgt := 72) hx hb d_Ga_ofStorm_17 (by decide +kernel) (by decide +kernel) (show _ = some _ from rfl) (by decide +kernel) ?_
        refine lv_aload_n hx hb d_Ga_ofStorm_72 rfl (lv_at hl 0 rfl) ?_
        refine g_get C0 hK il_Ga hP.1 rfl 0 (by decide) fl_Ga_12 rfl d_Ga_ofStorm_73 ?_
        refine g_getN C0 hK il_St hP.2.1.1 rfl 9 (by decide) fn_Ga_117 rfl d_Ga_ofStorm_76 ?_
        refine lv_iload_n hx hb d_Ga_ofStorm_79 rfl (lv_at hl 1 rfl) ?_
        refine g_V C0 (k_Ro_at l G (x + 17) 16 (X.1.2 13) i (by omega)) co_Ro_at im_Ro_at se_Ro_at in_Ro gc_Ro_at ml_Ga_45 ⟨Nat.le_of_ble_eq_true rfl, Nat.le_of_ble_eq_true rfl⟩ hK (hP.2.1.2.2 13 (by decide)).1 rfl (hP.2.1.2.2 13 (by decide)) rfl hl.1 rfl (Nat.le_of_ble_eq_true rfl) d_Ga_ofStorm_80 ⟨Nat.le_of_ble_eq_true rfl, Nat.le_of_ble_eq_true rfl⟩ (g_r rfl ?_)
        refine g_iret C0 hlk hr d_Ga_ofStorm_83 (t_nil (free := noF)) ?_
        exact ⟨rdI (by rw [cOfS, c_11, inR_i (by decide) (by decide), if_pos rfl, if_pos rfl, nI_clamp hi31, nI_clamp (by decide)]; rfl), rfl⟩
      · subst het
        refine lv_tableIn (tgt := 84) hx hb d_Ga_ofStorm_17 (by decide +kernel) (by decide +kernel) (show _ = some _ from rfl) (by decide +kernel) ?_
        refine lv_aload_n hx hb d_Ga_ofStorm_84 rfl (lv_at hl 0 rfl) ?_
        refine g_get C0 hK il_Ga hP.1 rfl 0 (by decide) fl_Ga_12 rfl d_Ga_ofStorm_85 ?_
        refine lv_iload_n hx hb d_Ga_ofStorm_88 rfl (lv_at hl 1 rfl) ?_
        refine g_V C0 (k_St_twinOf l G (x + 1) X.1 i (by omega) hX.1) co_St_twinOf im_St_twinOf se_St_twinOf in_St gc_St_twinOf ml_Ga_184 ⟨Nat.le_of_ble_eq_true rfl, Nat.le_of_ble_eq_true rfl⟩ hK hP.2.1.1 rfl hP.2.1 rfl hl.1 rfl (Nat.le_of_ble_eq_true rfl) d_Ga_ofStorm_89 ⟨Nat.le_of_ble_eq_true rfl, Nat.le_of_ble_eq_true rfl⟩ (g_r rfl ?_)
        refine g_iret C0 hlk hr d_Ga_ofStorm_92 (t_nil (free := noF)) ?_
        exact ⟨rdI (by rw [cOfS, c_11, inR_i (by decide) (by decide), if_pos rfl, if_pos rfl, nI_clamp hi31, nI_clamp (by decide)]; rfl), rfl⟩
  · skip
    refine lv_iconst (v := -1) hx hb d_Ga_ofStorm_14 (by decide +kernel) ?_
    refine g_iret C0 hlk hr d_Ga_ofStorm_15 (t_nil (free := noF)) ?_
    exact ⟨rdI (by rw [cOfS, c_11]; rfl), rfl⟩

set_option maxHeartbeats 4000000 in
set_option maxRecDepth 100000 in
theorem k_Ga_ofNamesake (l : Launch) (G : gT) (x : Nat) (X : XS) (a w : Int32) (hX : XOk X) : gM l y_Ga_ofNamesake c_Ga_ofNamesake 3 (some .int) 2 42 0 0 G [.ref x, .int a, .int w] (fun H => XAt G x X H) (rd (.int (cOfN X.1 a w))) noF := by
  refine g_enter "GaleNames" (by decide +kernel) rfl (Nat.le_of_ble_eq_true rfl) ?_
  intro p e s m args below meth c C0 hlk hr hnm hP hK ls hl
  have hx := C0.1
  have hb := C0.2.1
  have hl : lv_has ls 3 [(0, .ref x), (1, .int a), (2, .int w)] := hl
  have hsv : SvAt G x X.2.2.2.1 X.2.2.2.2 s.heap := hP.2.2.2.2.2.1
  refine lv_aload_n hx hb d_Ga_ofNamesake_0 rfl (lv_at hl 0 rfl) ?_
  refine g_get C0 hK il_Ga hP.1 rfl 0 (by decide) fl_Ga_12 rfl d_Ga_ofNamesake_1 ?_
  refine g_getN C0 hK il_St hP.2.1.1 rfl 10 (by decide) fn_Ga_137 rfl d_Ga_ofNamesake_4 ?_
  refine lv_iload_n hx hb d_Ga_ofNamesake_7 rfl (lv_at hl 1 rfl) ?_
  refine g_V C0 (k_Ro_has l G (x + 19) 10 (X.1.2 14) a) co_Ro_has im_Ro_has se_Ro_has in_Ro gc_Ro_has ml_Ga_91 ⟨Nat.le_of_ble_eq_true rfl, Nat.le_of_ble_eq_true rfl⟩ hK (hP.2.1.2.2 14 (by decide)).1 rfl (hP.2.1.2.2 14 (by decide)) rfl hl.1 rfl (Nat.le_of_ble_eq_true rfl) d_Ga_ofNamesake_8 ⟨Nat.le_of_ble_eq_true rfl, Nat.le_of_ble_eq_true rfl⟩ (g_r rfl ?_)
  refine g_zne (tgt := 16) C0 d_Ga_ofNamesake_11 (by decide) (fun c_11 => ?_) (fun c_11 => ?_)
  · skip
    obtain ⟨i, hi, hi31, rfl⟩ := inR_t c_11
    refine lv_iload_n hx hb d_Ga_ofNamesake_16 rfl (lv_at hl 2 rfl) ?_
    rcases inR_or w 3 with ht | ⟨it, hit, hit31, het⟩
    · refine lv_tableOut (tgt := 80) hx hb d_Ga_ofNamesake_17 (inR_out ht (by decide)) (by decide) ?_
      refine lv_bipush (v := -2) hx hb d_Ga_ofNamesake_80 (by decide +kernel) ?_
      refine g_iret C0 hlk hr d_Ga_ofNamesake_82 (t_nil (free := noF)) ?_
      exact ⟨rdI (by rw [cOfN, c_11, ht]; rfl), rfl⟩
    · have hd : it = 0 ∨ it = 1 ∨ it = 2 := by omega
      rcases hd with rfl | rfl | rfl
      · subst het
        refine lv_tableIn (tgt := 44) hx hb d_Ga_ofNamesake_17 (by decide +kernel) (by decide +kernel) (show _ = some _ from rfl) (by decide +kernel) ?_
        refine lv_aload_n hx hb d_Ga_ofNamesake_44 rfl (lv_at hl 0 rfl) ?_
        refine g_get C0 hK il_Ga hP.1 rfl 0 (by decide) fl_Ga_12 rfl d_Ga_ofNamesake_45 ?_
        refine g_getN C0 hK il_St hP.2.1.1 rfl 10 (by decide) fn_Ga_137 rfl d_Ga_ofNamesake_48 ?_
        refine lv_iload_n hx hb d_Ga_ofNamesake_51 rfl (lv_at hl 1 rfl) ?_
        refine g_V C0 (k_Ro_at l G (x + 19) 10 (X.1.2 14) i (by omega)) co_Ro_at im_Ro_at se_Ro_at in_Ro gc_Ro_at ml_Ga_45 ⟨Nat.le_of_ble_eq_true rfl, Nat.le_of_ble_eq_true rfl⟩ hK (hP.2.1.2.2 14 (by decide)).1 rfl (hP.2.1.2.2 14 (by decide)) rfl hl.1 rfl (Nat.le_of_ble_eq_true rfl) d_Ga_ofNamesake_52 ⟨Nat.le_of_ble_eq_true rfl, Nat.le_of_ble_eq_true rfl⟩ (g_r rfl ?_)
        refine g_iret C0 hlk hr d_Ga_ofNamesake_55 (t_nil (free := noF)) ?_
        exact ⟨rdI (by rw [cOfN, c_11, inR_i (by decide) (by decide), if_pos rfl, if_pos rfl, nI_clamp hi31, nI_clamp (by decide)]; rfl), rfl⟩
      · subst het
        refine lv_tableIn (tgt := 56) hx hb d_Ga_ofNamesake_17 (by decide +kernel) (by decide +kernel) (show _ = some _ from rfl) (by decide +kernel) ?_
        refine lv_aload_n hx hb d_Ga_ofNamesake_56 rfl (lv_at hl 0 rfl) ?_
        refine g_get C0 hK il_Ga hP.1 rfl 0 (by decide) fl_Ga_12 rfl d_Ga_ofNamesake_57 ?_
        refine g_getN C0 hK il_St hP.2.1.1 rfl 11 (by decide) fn_Ga_143 rfl d_Ga_ofNamesake_60 ?_
        refine lv_iload_n hx hb d_Ga_ofNamesake_63 rfl (lv_at hl 1 rfl) ?_
        refine g_V C0 (k_Ro_at l G (x + 21) 10 (X.1.2 15) i (by omega)) co_Ro_at im_Ro_at se_Ro_at in_Ro gc_Ro_at ml_Ga_45 ⟨Nat.le_of_ble_eq_true rfl, Nat.le_of_ble_eq_true rfl⟩ hK (hP.2.1.2.2 15 (by decide)).1 rfl (hP.2.1.2.2 15 (by decide)) rfl hl.1 rfl (Nat.le_of_ble_eq_true rfl) d_Ga_ofNamesake_64 ⟨Nat.le_of_ble_eq_true rfl, Nat.le_of_ble_eq_true rfl⟩ (g_r rfl ?_)
        refine g_iret C0 hlk hr d_Ga_ofNamesake_67 (t_nil (free := noF)) ?_
        exact ⟨rdI (by rw [cOfN, c_11, inR_i (by decide) (by decide), if_pos rfl, if_pos rfl, nI_clamp hi31, nI_clamp (by decide)]; rfl), rfl⟩
      · subst het
        refine lv_tableIn (tgt := 68) hx hb d_Ga_ofNamesake_17 (by decide +kernel) (by decide +kernel) (show _ = some _ from rfl) (by decide +kernel) ?_
        refine lv_aload_n hx hb d_Ga_ofNamesake_68 rfl (lv_at hl 0 rfl) ?_
        refine g_get C0 hK il_Ga hP.1 rfl 0 (by decide) fl_Ga_12 rfl d_Ga_ofNamesake_69 ?_
        refine g_getN C0 hK il_St hP.2.1.1 rfl 12 (by decide) fn_Ga_146 rfl d_Ga_ofNamesake_72 ?_
        refine lv_iload_n hx hb d_Ga_ofNamesake_75 rfl (lv_at hl 1 rfl) ?_
        refine g_V C0 (k_Ro_at l G (x + 23) 10 (X.1.2 16) i (by omega)) co_Ro_at im_Ro_at se_Ro_at in_Ro gc_Ro_at ml_Ga_45 ⟨Nat.le_of_ble_eq_true rfl, Nat.le_of_ble_eq_true rfl⟩ hK (hP.2.1.2.2 16 (by decide)).1 rfl (hP.2.1.2.2 16 (by decide)) rfl hl.1 rfl (Nat.le_of_ble_eq_true rfl) d_Ga_ofNamesake_76 ⟨Nat.le_of_ble_eq_true rfl, Nat.le_of_ble_eq_true rfl⟩ (g_r rfl ?_)
        refine g_iret C0 hlk hr d_Ga_ofNamesake_79 (t_nil (free := noF)) ?_
        exact ⟨rdI (by rw [cOfN, c_11, inR_i (by decide) (by decide), if_pos rfl, if_pos rfl, nI_clamp hi31, nI_clamp (by decide)]; rfl), rfl⟩
  · skip
    refine lv_iconst (v := -1) hx hb d_Ga_ofNamesake_14 (by decide +kernel) ?_
    refine g_iret C0 hlk hr d_Ga_ofNamesake_15 (t_nil (free := noF)) ?_
    exact ⟨rdI (by rw [cOfN, c_11]; rfl), rfl⟩

set_option maxHeartbeats 4000000 in
set_option maxRecDepth 100000 in
theorem k_Ga_sign (l : Launch) (G : gT) (x : Nat) (X : XS) (a : Int32) (hX : XOk X) : gM l y_Ga_sign c_Ga_sign 2 (some .int) 2 42 0 0 G [.ref x, .int a] (fun H => XAt G x X H) (rd (.int (cSign X.2.1.1 a))) noF := by
  refine g_enter "GaleNames" (by decide +kernel) rfl (Nat.le_of_ble_eq_true rfl) ?_
  intro p e s m args below meth c C0 hlk hr hnm hP hK ls hl
  have hx := C0.1
  have hb := C0.2.1
  have hl : lv_has ls 2 [(0, .ref x), (1, .int a)] := hl
  have hsv : SvAt G x X.2.2.2.1 X.2.2.2.2 s.heap := hP.2.2.2.2.2.1
  refine lv_aload_n hx hb d_Ga_sign_0 rfl (lv_at hl 0 rfl) ?_
  refine g_get C0 hK il_Ga hP.1 rfl 1 (by decide) fl_Ga_19 rfl d_Ga_sign_1 ?_
  refine g_V C0 (k_Pa_signs l G (x + 37) X.2.1.1 X.2.1.2) co_Pa_signs im_Pa_signs se_Pa_signs in_Pa gc_Pa_signs ml_Ga_85 ⟨Nat.le_of_ble_eq_true rfl, Nat.le_of_ble_eq_true rfl⟩ hK hP.2.2.1.1 rfl ⟨hP.2.2.1.1, hP.2.2.1.2.1, hP.2.2.1.2.2⟩ rfl hl.1 rfl (Nat.le_of_ble_eq_true rfl) d_Ga_sign_4 ⟨Nat.le_of_ble_eq_true rfl, Nat.le_of_ble_eq_true rfl⟩ (g_r rfl ?_)
  refine lv_iload_n hx hb d_Ga_sign_7 rfl (lv_at hl 1 rfl) ?_
  refine g_V C0 (k_Ro_has l G (x + 38) 80 X.2.1.1 a) co_Ro_has im_Ro_has se_Ro_has in_Ro gc_Ro_has ml_Ga_91 ⟨Nat.le_of_ble_eq_true rfl, Nat.le_of_ble_eq_true rfl⟩ hK hP.2.2.1.2.1.1 rfl hP.2.2.1.2.1 rfl hl.1 rfl (Nat.le_of_ble_eq_true rfl) d_Ga_sign_8 ⟨Nat.le_of_ble_eq_true rfl, Nat.le_of_ble_eq_true rfl⟩ (g_r rfl ?_)
  refine g_zeq (tgt := 28) C0 d_Ga_sign_11 (by decide) (fun c_11 => ?_) (fun c_11 => ?_)
  · skip
    refine lv_iconst (v := -1) hx hb d_Ga_sign_28 (by decide +kernel) ?_
    refine g_iret C0 hlk hr d_Ga_sign_29 (t_nil (free := noF)) ?_
    exact ⟨rdI (by rw [cSign, c_11]; rfl), rfl⟩
  · skip
    obtain ⟨i, hi, hi31, rfl⟩ := inR_t c_11
    refine lv_aload_n hx hb d_Ga_sign_14 rfl (lv_at hl 0 rfl) ?_
    refine g_get C0 hK il_Ga hP.1 rfl 1 (by decide) fl_Ga_19 rfl d_Ga_sign_15 ?_
    refine g_V C0 (k_Pa_signs l G (x + 37) X.2.1.1 X.2.1.2) co_Pa_signs im_Pa_signs se_Pa_signs in_Pa gc_Pa_signs ml_Ga_85 ⟨Nat.le_of_ble_eq_true rfl, Nat.le_of_ble_eq_true rfl⟩ hK hP.2.2.1.1 rfl ⟨hP.2.2.1.1, hP.2.2.1.2.1, hP.2.2.1.2.2⟩ rfl hl.1 rfl (Nat.le_of_ble_eq_true rfl) d_Ga_sign_18 ⟨Nat.le_of_ble_eq_true rfl, Nat.le_of_ble_eq_true rfl⟩ (g_r rfl ?_)
    refine lv_iload_n hx hb d_Ga_sign_21 rfl (lv_at hl 1 rfl) ?_
    refine g_V C0 (k_Ro_at l G (x + 38) 80 X.2.1.1 i (by omega)) co_Ro_at im_Ro_at se_Ro_at in_Ro gc_Ro_at ml_Ga_45 ⟨Nat.le_of_ble_eq_true rfl, Nat.le_of_ble_eq_true rfl⟩ hK hP.2.2.1.2.1.1 rfl hP.2.2.1.2.1 rfl hl.1 rfl (Nat.le_of_ble_eq_true rfl) d_Ga_sign_22 ⟨Nat.le_of_ble_eq_true rfl, Nat.le_of_ble_eq_true rfl⟩ (g_r rfl ?_)
    refine lv_goto (tgt := 29) hx hb d_Ga_sign_25 (by decide) ?_
    refine g_iret C0 hlk hr d_Ga_sign_29 (t_nil (free := noF)) ?_
    exact ⟨rdI (by rw [cSign, c_11, if_pos rfl, nI_clamp hi31]), rfl⟩

set_option maxHeartbeats 4000000 in
set_option maxRecDepth 100000 in
theorem k_Ga_count (l : Launch) (G : gT) (x : Nat) (X : XS) (w : Int32) (hX : XOk X) : gM l y_Ga_count c_Ga_count 2 (some .int) 4 86 0 0 G [.ref x, .int w] (fun H => XAt G x X H) (rd (.int (cCount X w))) noF := by
  refine g_enter "GaleNames" (by decide +kernel) rfl (Nat.le_of_ble_eq_true rfl) ?_
  intro p e s m args below meth c C0 hlk hr hnm hP hK ls hl
  have hx := C0.1
  have hb := C0.2.1
  have hl : lv_has ls 2 [(0, .ref x), (1, .int w)] := hl
  have hsv : SvAt G x X.2.2.2.1 X.2.2.2.2 s.heap := hP.2.2.2.2.2.1
  refine lv_iload_n hx hb d_Ga_count_0 rfl (lv_at hl 1 rfl) ?_
  rcases inR_or w 14 with ht | ⟨it, hit, hit31, het⟩
  · refine lv_tableOut (tgt := 220) hx hb d_Ga_count_1 (inR_out ht (by decide)) (by decide) ?_
    refine lv_bipush (v := -2) hx hb d_Ga_count_220 (by decide +kernel) ?_
    refine g_iret C0 hlk hr d_Ga_count_222 (t_nil (free := noF)) ?_
    exact ⟨rdI (by rw [cCount, ht]; rfl), rfl⟩
  · have hd : it = 0 ∨ it = 1 ∨ it = 2 ∨ it = 3 ∨ it = 4 ∨ it = 5 ∨ it = 6 ∨ it = 7 ∨ it = 8 ∨ it = 9 ∨ it = 10 ∨ it = 11 ∨ it = 12 ∨ it = 13 := by omega
    rcases hd with rfl | rfl | rfl | rfl | rfl | rfl | rfl | rfl | rfl | rfl | rfl | rfl | rfl | rfl
    · subst het
      refine lv_tableIn (tgt := 72) hx hb d_Ga_count_1 (by decide +kernel) (by decide +kernel) (show _ = some _ from rfl) (by decide +kernel) ?_
      refine lv_aload_n hx hb d_Ga_count_72 rfl (lv_at hl 0 rfl) ?_
      refine g_get C0 hK il_Ga hP.1 rfl 0 (by decide) fl_Ga_12 rfl d_Ga_count_73 ?_
      refine g_getN C0 hK il_St hP.2.1.1 rfl 0 (by decide) fn_Ga_120 rfl d_Ga_count_76 ?_
      refine g_iret C0 hlk hr d_Ga_count_79 (t_nil (free := noF)) ?_
      exact ⟨rdI (by rw [cCount, inR_i (by decide) (by decide), if_pos rfl, nI_clamp (by decide)]; rfl), rfl⟩
    · subst het
      refine lv_tableIn (tgt := 80) hx hb d_Ga_count_1 (by decide +kernel) (by decide +kernel) (show _ = some _ from rfl) (by decide +kernel) ?_
      refine lv_aload_n hx hb d_Ga_count_80 rfl (lv_at hl 0 rfl) ?_
      refine g_get C0 hK il_Ga hP.1 rfl 0 (by decide) fl_Ga_12 rfl d_Ga_count_81 ?_
      refine g_getN C0 hK il_St hP.2.1.1 rfl 2 (by decide) fn_Ga_149 rfl d_Ga_count_84 ?_
      refine g_V C0 (k_Ro_size l G (x + 4) 40 (X.1.2 1) ) co_Ro_size im_Ro_size se_Ro_size in_Ro gc_Ro_size ml_Ga_71 ⟨Nat.le_of_ble_eq_true rfl, Nat.le_of_ble_eq_true rfl⟩ hK (hP.2.1.2.2 1 (by decide)).1 rfl (hP.2.1.2.2 1 (by decide)) rfl hl.1 rfl (Nat.le_of_ble_eq_true rfl) d_Ga_count_87 ⟨Nat.le_of_ble_eq_true rfl, Nat.le_of_ble_eq_true rfl⟩ (g_r rfl ?_)
      refine g_iret C0 hlk hr d_Ga_count_90 (t_nil (free := noF)) ?_
      exact ⟨rdI (by rw [cCount, inR_i (by decide) (by decide), if_pos rfl, nI_clamp (by decide)]; rfl), rfl⟩
    · subst het
      refine lv_tableIn (tgt := 91) hx hb d_Ga_count_1 (by decide +kernel) (by decide +kernel) (show _ = some _ from rfl) (by decide +kernel) ?_
      refine lv_aload_n hx hb d_Ga_count_91 rfl (lv_at hl 0 rfl) ?_
      refine g_get C0 hK il_Ga hP.1 rfl 0 (by decide) fl_Ga_12 rfl d_Ga_count_92 ?_
      refine g_getN C0 hK il_St hP.2.1.1 rfl 3 (by decide) fn_Ga_160 rfl d_Ga_count_95 ?_
      refine g_V C0 (k_Ro_total l G (x + 6) 40 (X.1.2 2) ) co_Ro_total im_Ro_total se_Ro_total in_Ro gc_Ro_total ml_Ga_190 ⟨Nat.le_of_ble_eq_true rfl, Nat.le_of_ble_eq_true rfl⟩ hK (hP.2.1.2.2 2 (by decide)).1 rfl (hP.2.1.2.2 2 (by decide)) rfl hl.1 rfl (Nat.le_of_ble_eq_true rfl) d_Ga_count_98 ⟨Nat.le_of_ble_eq_true rfl, Nat.le_of_ble_eq_true rfl⟩ (g_r rfl ?_)
      refine g_iret C0 hlk hr d_Ga_count_101 (t_nil (free := noF)) ?_
      exact ⟨rdI (by rw [cCount, inR_i (by decide) (by decide), if_pos rfl, nI_clamp (by decide)]; rfl), rfl⟩
    · subst het
      refine lv_tableIn (tgt := 102) hx hb d_Ga_count_1 (by decide +kernel) (by decide +kernel) (show _ = some _ from rfl) (by decide +kernel) ?_
      refine lv_aload_n hx hb d_Ga_count_102 rfl (lv_at hl 0 rfl) ?_
      refine g_get C0 hK il_Ga hP.1 rfl 0 (by decide) fl_Ga_12 rfl d_Ga_count_103 ?_
      refine g_getN C0 hK il_St hP.2.1.1 rfl 7 (by decide) fn_Ga_104 rfl d_Ga_count_106 ?_
      refine g_V C0 (k_Ro_size l G (x + 13) 16 (X.1.2 11) ) co_Ro_size im_Ro_size se_Ro_size in_Ro gc_Ro_size ml_Ga_71 ⟨Nat.le_of_ble_eq_true rfl, Nat.le_of_ble_eq_true rfl⟩ hK (hP.2.1.2.2 11 (by decide)).1 rfl (hP.2.1.2.2 11 (by decide)) rfl hl.1 rfl (Nat.le_of_ble_eq_true rfl) d_Ga_count_109 ⟨Nat.le_of_ble_eq_true rfl, Nat.le_of_ble_eq_true rfl⟩ (g_r rfl ?_)
      refine g_iret C0 hlk hr d_Ga_count_112 (t_nil (free := noF)) ?_
      exact ⟨rdI (by rw [cCount, inR_i (by decide) (by decide), if_pos rfl, nI_clamp (by decide)]; rfl), rfl⟩
    · subst het
      refine lv_tableIn (tgt := 113) hx hb d_Ga_count_1 (by decide +kernel) (by decide +kernel) (show _ = some _ from rfl) (by decide +kernel) ?_
      refine lv_aload_n hx hb d_Ga_count_113 rfl (lv_at hl 0 rfl) ?_
      refine g_get C0 hK il_Ga hP.1 rfl 0 (by decide) fl_Ga_12 rfl d_Ga_count_114 ?_
      refine g_getN C0 hK il_St hP.2.1.1 rfl 4 (by decide) fn_Ga_166 rfl d_Ga_count_117 ?_
      refine g_V C0 (k_Ro_total l G (x + 8) 40 (X.1.2 3) ) co_Ro_total im_Ro_total se_Ro_total in_Ro gc_Ro_total ml_Ga_190 ⟨Nat.le_of_ble_eq_true rfl, Nat.le_of_ble_eq_true rfl⟩ hK (hP.2.1.2.2 3 (by decide)).1 rfl (hP.2.1.2.2 3 (by decide)) rfl hl.1 rfl (Nat.le_of_ble_eq_true rfl) d_Ga_count_120 ⟨Nat.le_of_ble_eq_true rfl, Nat.le_of_ble_eq_true rfl⟩ (g_r rfl ?_)
      refine g_iret C0 hlk hr d_Ga_count_123 (t_nil (free := noF)) ?_
      exact ⟨rdI (by rw [cCount, inR_i (by decide) (by decide), if_pos rfl, nI_clamp (by decide)]; rfl), rfl⟩
    · subst het
      refine lv_tableIn (tgt := 124) hx hb d_Ga_count_1 (by decide +kernel) (by decide +kernel) (show _ = some _ from rfl) (by decide +kernel) ?_
      refine lv_aload_n hx hb d_Ga_count_124 rfl (lv_at hl 0 rfl) ?_
      refine g_get C0 hK il_Ga hP.1 rfl 0 (by decide) fl_Ga_12 rfl d_Ga_count_125 ?_
      refine g_V C0 (k_St_twins l G (x + 1) X.1 hX.1) co_St_twins im_St_twins se_St_twins in_St gc_St_twins ml_Ga_193 ⟨Nat.le_of_ble_eq_true rfl, Nat.le_of_ble_eq_true rfl⟩ hK hP.2.1.1 rfl hP.2.1 rfl hl.1 rfl (Nat.le_of_ble_eq_true rfl) d_Ga_count_128 ⟨Nat.le_of_ble_eq_true rfl, Nat.le_of_ble_eq_true rfl⟩ (g_r rfl ?_)
      refine g_iret C0 hlk hr d_Ga_count_131 (t_nil (free := noF)) ?_
      exact ⟨rdI (by rw [cCount, inR_i (by decide) (by decide), if_pos rfl, nI_clamp (by decide)]; rfl), rfl⟩
    · subst het
      refine lv_tableIn (tgt := 132) hx hb d_Ga_count_1 (by decide +kernel) (by decide +kernel) (show _ = some _ from rfl) (by decide +kernel) ?_
      refine lv_aload_n hx hb d_Ga_count_132 rfl (lv_at hl 0 rfl) ?_
      refine g_get C0 hK il_Ga hP.1 rfl 0 (by decide) fl_Ga_12 rfl d_Ga_count_133 ?_
      refine g_getN C0 hK il_St hP.2.1.1 rfl 10 (by decide) fn_Ga_137 rfl d_Ga_count_136 ?_
      refine g_V C0 (k_Ro_size l G (x + 19) 10 (X.1.2 14) ) co_Ro_size im_Ro_size se_Ro_size in_Ro gc_Ro_size ml_Ga_71 ⟨Nat.le_of_ble_eq_true rfl, Nat.le_of_ble_eq_true rfl⟩ hK (hP.2.1.2.2 14 (by decide)).1 rfl (hP.2.1.2.2 14 (by decide)) rfl hl.1 rfl (Nat.le_of_ble_eq_true rfl) d_Ga_count_139 ⟨Nat.le_of_ble_eq_true rfl, Nat.le_of_ble_eq_true rfl⟩ (g_r rfl ?_)
      refine g_iret C0 hlk hr d_Ga_count_142 (t_nil (free := noF)) ?_
      exact ⟨rdI (by rw [cCount, inR_i (by decide) (by decide), if_pos rfl, nI_clamp (by decide)]; rfl), rfl⟩
    · subst het
      refine lv_tableIn (tgt := 143) hx hb d_Ga_count_1 (by decide +kernel) (by decide +kernel) (show _ = some _ from rfl) (by decide +kernel) ?_
      refine lv_aload_n hx hb d_Ga_count_143 rfl (lv_at hl 0 rfl) ?_
      refine g_get C0 hK il_Ga hP.1 rfl 0 (by decide) fl_Ga_12 rfl d_Ga_count_144 ?_
      refine g_getN C0 hK il_St hP.2.1.1 rfl 11 (by decide) fn_Ga_143 rfl d_Ga_count_147 ?_
      refine g_V C0 (k_Ro_total l G (x + 21) 10 (X.1.2 15) ) co_Ro_total im_Ro_total se_Ro_total in_Ro gc_Ro_total ml_Ga_190 ⟨Nat.le_of_ble_eq_true rfl, Nat.le_of_ble_eq_true rfl⟩ hK (hP.2.1.2.2 15 (by decide)).1 rfl (hP.2.1.2.2 15 (by decide)) rfl hl.1 rfl (Nat.le_of_ble_eq_true rfl) d_Ga_count_150 ⟨Nat.le_of_ble_eq_true rfl, Nat.le_of_ble_eq_true rfl⟩ (g_r rfl ?_)
      refine g_iret C0 hlk hr d_Ga_count_153 (t_nil (free := noF)) ?_
      exact ⟨rdI (by rw [cCount, inR_i (by decide) (by decide), if_pos rfl, nI_clamp (by decide)]; rfl), rfl⟩
    · subst het
      refine lv_tableIn (tgt := 154) hx hb d_Ga_count_1 (by decide +kernel) (by decide +kernel) (show _ = some _ from rfl) (by decide +kernel) ?_
      refine lv_aload_n hx hb d_Ga_count_154 rfl (lv_at hl 0 rfl) ?_
      refine g_get C0 hK il_Ga hP.1 rfl 0 (by decide) fl_Ga_12 rfl d_Ga_count_155 ?_
      refine g_getN C0 hK il_St hP.2.1.1 rfl 12 (by decide) fn_Ga_146 rfl d_Ga_count_158 ?_
      refine g_V C0 (k_Ro_total l G (x + 23) 10 (X.1.2 16) ) co_Ro_total im_Ro_total se_Ro_total in_Ro gc_Ro_total ml_Ga_190 ⟨Nat.le_of_ble_eq_true rfl, Nat.le_of_ble_eq_true rfl⟩ hK (hP.2.1.2.2 16 (by decide)).1 rfl (hP.2.1.2.2 16 (by decide)) rfl hl.1 rfl (Nat.le_of_ble_eq_true rfl) d_Ga_count_161 ⟨Nat.le_of_ble_eq_true rfl, Nat.le_of_ble_eq_true rfl⟩ (g_r rfl ?_)
      refine g_iret C0 hlk hr d_Ga_count_164 (t_nil (free := noF)) ?_
      exact ⟨rdI (by rw [cCount, inR_i (by decide) (by decide), if_pos rfl, nI_clamp (by decide)]; rfl), rfl⟩
    · subst het
      refine lv_tableIn (tgt := 165) hx hb d_Ga_count_1 (by decide +kernel) (by decide +kernel) (show _ = some _ from rfl) (by decide +kernel) ?_
      refine lv_aload_n hx hb d_Ga_count_165 rfl (lv_at hl 0 rfl) ?_
      refine g_get C0 hK il_Ga hP.1 rfl 0 (by decide) fl_Ga_12 rfl d_Ga_count_166 ?_
      refine g_getN C0 hK il_St hP.2.1.1 rfl 1 (by decide) fn_Ga_41 rfl d_Ga_count_169 ?_
      refine lv_iconst (v := nI 0) hx hb d_Ga_count_172 (by decide +kernel) ?_
      refine g_V C0 (k_Ro_at l G (x + 2) 3 (X.1.2 0) 0 (by omega)) co_Ro_at im_Ro_at se_Ro_at in_Ro gc_Ro_at ml_Ga_45 ⟨Nat.le_of_ble_eq_true rfl, Nat.le_of_ble_eq_true rfl⟩ hK (hP.2.1.2.2 0 (by decide)).1 rfl (hP.2.1.2.2 0 (by decide)) rfl hl.1 rfl (Nat.le_of_ble_eq_true rfl) d_Ga_count_173 ⟨Nat.le_of_ble_eq_true rfl, Nat.le_of_ble_eq_true rfl⟩ (g_r rfl ?_)
      refine g_iret C0 hlk hr d_Ga_count_176 (t_nil (free := noF)) ?_
      exact ⟨rdI (by rw [cCount, inR_i (by decide) (by decide), if_pos rfl, nI_clamp (by decide)]; rfl), rfl⟩
    · subst het
      refine lv_tableIn (tgt := 177) hx hb d_Ga_count_1 (by decide +kernel) (by decide +kernel) (show _ = some _ from rfl) (by decide +kernel) ?_
      refine lv_aload_n hx hb d_Ga_count_177 rfl (lv_at hl 0 rfl) ?_
      refine g_get C0 hK il_Ga hP.1 rfl 0 (by decide) fl_Ga_12 rfl d_Ga_count_178 ?_
      refine g_getN C0 hK il_St hP.2.1.1 rfl 1 (by decide) fn_Ga_41 rfl d_Ga_count_181 ?_
      refine lv_iconst (v := nI 1) hx hb d_Ga_count_184 (by decide +kernel) ?_
      refine g_V C0 (k_Ro_at l G (x + 2) 3 (X.1.2 0) 1 (by omega)) co_Ro_at im_Ro_at se_Ro_at in_Ro gc_Ro_at ml_Ga_45 ⟨Nat.le_of_ble_eq_true rfl, Nat.le_of_ble_eq_true rfl⟩ hK (hP.2.1.2.2 0 (by decide)).1 rfl (hP.2.1.2.2 0 (by decide)) rfl hl.1 rfl (Nat.le_of_ble_eq_true rfl) d_Ga_count_185 ⟨Nat.le_of_ble_eq_true rfl, Nat.le_of_ble_eq_true rfl⟩ (g_r rfl ?_)
      refine g_iret C0 hlk hr d_Ga_count_188 (t_nil (free := noF)) ?_
      exact ⟨rdI (by rw [cCount, inR_i (by decide) (by decide), if_pos rfl, nI_clamp (by decide)]; rfl), rfl⟩
    · subst het
      refine lv_tableIn (tgt := 189) hx hb d_Ga_count_1 (by decide +kernel) (by decide +kernel) (show _ = some _ from rfl) (by decide +kernel) ?_
      refine lv_aload_n hx hb d_Ga_count_189 rfl (lv_at hl 0 rfl) ?_
      refine g_get C0 hK il_Ga hP.1 rfl 0 (by decide) fl_Ga_12 rfl d_Ga_count_190 ?_
      refine g_getN C0 hK il_St hP.2.1.1 rfl 1 (by decide) fn_Ga_41 rfl d_Ga_count_193 ?_
      refine lv_iconst (v := nI 2) hx hb d_Ga_count_196 (by decide +kernel) ?_
      refine g_V C0 (k_Ro_at l G (x + 2) 3 (X.1.2 0) 2 (by omega)) co_Ro_at im_Ro_at se_Ro_at in_Ro gc_Ro_at ml_Ga_45 ⟨Nat.le_of_ble_eq_true rfl, Nat.le_of_ble_eq_true rfl⟩ hK (hP.2.1.2.2 0 (by decide)).1 rfl (hP.2.1.2.2 0 (by decide)) rfl hl.1 rfl (Nat.le_of_ble_eq_true rfl) d_Ga_count_197 ⟨Nat.le_of_ble_eq_true rfl, Nat.le_of_ble_eq_true rfl⟩ (g_r rfl ?_)
      refine g_iret C0 hlk hr d_Ga_count_200 (t_nil (free := noF)) ?_
      exact ⟨rdI (by rw [cCount, inR_i (by decide) (by decide), if_pos rfl, nI_clamp (by decide)]; rfl), rfl⟩
    · subst het
      refine lv_tableIn (tgt := 201) hx hb d_Ga_count_1 (by decide +kernel) (by decide +kernel) (show _ = some _ from rfl) (by decide +kernel) ?_
      refine lv_aload_n hx hb d_Ga_count_201 rfl (lv_at hl 0 rfl) ?_
      refine g_get C0 hK il_Ga hP.1 rfl 1 (by decide) fl_Ga_19 rfl d_Ga_count_202 ?_
      refine g_V C0 (k_Pa_signs l G (x + 37) X.2.1.1 X.2.1.2) co_Pa_signs im_Pa_signs se_Pa_signs in_Pa gc_Pa_signs ml_Ga_85 ⟨Nat.le_of_ble_eq_true rfl, Nat.le_of_ble_eq_true rfl⟩ hK hP.2.2.1.1 rfl ⟨hP.2.2.1.1, hP.2.2.1.2.1, hP.2.2.1.2.2⟩ rfl hl.1 rfl (Nat.le_of_ble_eq_true rfl) d_Ga_count_205 ⟨Nat.le_of_ble_eq_true rfl, Nat.le_of_ble_eq_true rfl⟩ (g_r rfl ?_)
      refine g_V C0 (k_Ro_size l G (x + 38) 80 X.2.1.1 ) co_Ro_size im_Ro_size se_Ro_size in_Ro gc_Ro_size ml_Ga_71 ⟨Nat.le_of_ble_eq_true rfl, Nat.le_of_ble_eq_true rfl⟩ hK hP.2.2.1.2.1.1 rfl hP.2.2.1.2.1 rfl hl.1 rfl (Nat.le_of_ble_eq_true rfl) d_Ga_count_208 ⟨Nat.le_of_ble_eq_true rfl, Nat.le_of_ble_eq_true rfl⟩ (g_r rfl ?_)
      refine g_iret C0 hlk hr d_Ga_count_211 (t_nil (free := noF)) ?_
      exact ⟨rdI (by rw [cCount, inR_i (by decide) (by decide), if_pos rfl, nI_clamp (by decide)]; rfl), rfl⟩
    · subst het
      refine lv_tableIn (tgt := 212) hx hb d_Ga_count_1 (by decide +kernel) (by decide +kernel) (show _ = some _ from rfl) (by decide +kernel) ?_
      refine lv_aload_n hx hb d_Ga_count_212 rfl (lv_at hl 0 rfl) ?_
      refine g_get C0 hK il_Ga hP.1 rfl 2 (by decide) fl_Ga_26 rfl d_Ga_count_213 ?_
      refine g_V C0 (k_Hi_size l G (x + 42) X.2.2.1.1 X.2.2.1.2.1 X.2.2.1.2.2) co_Hi_size im_Hi_size se_Hi_size in_Hi gc_Hi_size ml_Ga_196 ⟨Nat.le_of_ble_eq_true rfl, Nat.le_of_ble_eq_true rfl⟩ hK hP.2.2.2.1.1 rfl hP.2.2.2.1 rfl hl.1 rfl (Nat.le_of_ble_eq_true rfl) d_Ga_count_216 ⟨Nat.le_of_ble_eq_true rfl, Nat.le_of_ble_eq_true rfl⟩ (g_r rfl ?_)
      refine g_iret C0 hlk hr d_Ga_count_219 (t_nil (free := noF)) ?_
      exact ⟨rdI (by rw [cCount, inR_i (by decide) (by decide), if_pos rfl, nI_clamp (by decide)]; rfl), rfl⟩

set_option maxHeartbeats 4000000 in
set_option maxRecDepth 100000 in
theorem k_Ga_next (l : Launch) (G : gT) (x : Nat) (X : XS) (a : Int32) (hX : XOk X) : gM l y_Ga_next c_Ga_next 2 (some .int) 4 88 0 0 G [.ref x, .int a] (fun H => XAt G x X H) (rd (.int (cNext X.1 a))) noF := by
  refine g_enter "GaleNames" (by decide +kernel) rfl (Nat.le_of_ble_eq_true rfl) ?_
  intro p e s m args below meth c C0 hlk hr hnm hP hK ls hl
  have hx := C0.1
  have hb := C0.2.1
  have hl : lv_has ls 2 [(0, .ref x), (1, .int a)] := hl
  have hsv : SvAt G x X.2.2.2.1 X.2.2.2.2 s.heap := hP.2.2.2.2.2.1
  refine lv_iload_n hx hb d_Ga_next_0 rfl (lv_at hl 1 rfl) ?_
  refine g_S C0 (k_Ga_isCoast l G a) co_Ga_isCoast sm_Ga_isCoast in_Ga gc_Ga_isCoast ml_Ga_98 ⟨Nat.le_of_ble_eq_true rfl, Nat.le_of_ble_eq_true rfl⟩ hK trivial rfl hl.1 rfl (Nat.le_of_ble_eq_true rfl) d_Ga_next_1 ⟨Nat.le_of_ble_eq_true rfl, Nat.le_of_ble_eq_true rfl⟩ (g_r rfl ?_)
  refine g_zeq (tgt := 18) C0 d_Ga_next_4 (by decide) (fun c_4 => ?_) (fun c_4 => ?_)
  · skip
    refine lv_iconst (v := -1) hx hb d_Ga_next_18 (by decide +kernel) ?_
    refine g_iret C0 hlk hr d_Ga_next_19 (t_nil (free := noF)) ?_
    exact ⟨rdI (by rw [cNext, c_4]; rfl), rfl⟩
  · skip
    obtain ⟨i, hi, hi31, rfl⟩ := inR_t c_4
    refine lv_aload_n hx hb d_Ga_next_7 rfl (lv_at hl 0 rfl) ?_
    refine g_get C0 hK il_Ga hP.1 rfl 0 (by decide) fl_Ga_12 rfl d_Ga_next_8 ?_
    refine lv_iload_n hx hb d_Ga_next_11 rfl (lv_at hl 1 rfl) ?_
    refine g_V C0 (k_St_nextName l G (x + 1) X.1 i (by omega) hX.1) co_St_nextName im_St_nextName se_St_nextName in_St gc_St_nextName ml_Ga_101 ⟨Nat.le_of_ble_eq_true rfl, Nat.le_of_ble_eq_true rfl⟩ hK hP.2.1.1 rfl hP.2.1 rfl hl.1 rfl (Nat.le_of_ble_eq_true rfl) d_Ga_next_12 ⟨Nat.le_of_ble_eq_true rfl, Nat.le_of_ble_eq_true rfl⟩ (g_r rfl ?_)
    refine lv_goto (tgt := 19) hx hb d_Ga_next_15 (by decide) ?_
    refine g_iret C0 hlk hr d_Ga_next_19 (t_nil (free := noF)) ?_
    exact ⟨rdI (by rw [cNext, c_4, if_pos rfl, nI_clamp hi31]), rfl⟩

set_option maxHeartbeats 4000000 in
set_option maxRecDepth 100000 in
theorem k_Ga_left (l : Launch) (G : gT) (x : Nat) (X : XS) (a w : Int32) (hX : XOk X) : gM l y_Ga_left c_Ga_left 3 (some .int) 4 90 0 0 G [.ref x, .int a, .int w] (fun H => XAt G x X H) (rd (.int (cLeft X.1 a w))) noF := by
  refine g_enter "GaleNames" (by decide +kernel) rfl (Nat.le_of_ble_eq_true rfl) ?_
  intro p e s m args below meth c C0 hlk hr hnm hP hK ls hl
  have hx := C0.1
  have hb := C0.2.1
  have hl : lv_has ls 3 [(0, .ref x), (1, .int a), (2, .int w)] := hl
  have hsv : SvAt G x X.2.2.2.1 X.2.2.2.2 s.heap := hP.2.2.2.2.2.1
  refine lv_iload_n hx hb d_Ga_left_0 rfl (lv_at hl 1 rfl) ?_
  refine g_S C0 (k_Ga_isCoast l G a) co_Ga_isCoast sm_Ga_isCoast in_Ga gc_Ga_isCoast ml_Ga_98 ⟨Nat.le_of_ble_eq_true rfl, Nat.le_of_ble_eq_true rfl⟩ hK trivial rfl hl.1 rfl (Nat.le_of_ble_eq_true rfl) d_Ga_left_1 ⟨Nat.le_of_ble_eq_true rfl, Nat.le_of_ble_eq_true rfl⟩ (g_r rfl ?_)
  refine g_zne (tgt := 9) C0 d_Ga_left_4 (by decide) (fun c_4 => ?_) (fun c_4 => ?_)
  · skip
    obtain ⟨i, hi, hi31, rfl⟩ := inR_t c_4
    refine lv_iload_n hx hb d_Ga_left_9 rfl (lv_at hl 2 rfl) ?_
    refine lv_if_lt (tgt := 18) hx hb d_Ga_left_10 (by decide) (fun c_10 => ?_) (fun c_10 => ?_)
    · skip
      refine lv_bipush (v := -2) hx hb d_Ga_left_18 (by decide +kernel) ?_
      refine g_iret C0 hlk hr d_Ga_left_20 (t_nil (free := noF)) ?_
      exact ⟨rdI (by rw [cLeft, c_4, if_pos rfl, inR_neg c_10]; rfl), rfl⟩
    · skip
      obtain ⟨j, hj, rfl⟩ := gI_ex c_10
      refine lv_iload_n hx hb d_Ga_left_13 rfl (lv_at hl 2 rfl) ?_
      refine lv_iconst (v := nI 3) hx hb d_Ga_left_14 (by decide +kernel) ?_
      refine g_clt (tgt := 21) C0 d_Ga_left_15 (by decide) (by omega) (by omega) (fun c_15 => ?_) (fun c_15 => ?_)
      · skip
        refine lv_aload_n hx hb d_Ga_left_21 rfl (lv_at hl 0 rfl) ?_
        refine g_get C0 hK il_Ga hP.1 rfl 0 (by decide) fl_Ga_12 rfl d_Ga_left_22 ?_
        refine lv_iload_n hx hb d_Ga_left_25 rfl (lv_at hl 1 rfl) ?_
        refine lv_iload_n hx hb d_Ga_left_26 rfl (lv_at hl 2 rfl) ?_
        refine g_V C0 (k_St_namesLeft l G (x + 1) X.1 i j (by omega) (by omega) hX.1) co_St_namesLeft im_St_namesLeft se_St_namesLeft in_St gc_St_namesLeft ml_Ga_203 ⟨Nat.le_of_ble_eq_true rfl, Nat.le_of_ble_eq_true rfl⟩ hK hP.2.1.1 rfl hP.2.1 rfl hl.1 rfl (Nat.le_of_ble_eq_true rfl) d_Ga_left_27 ⟨Nat.le_of_ble_eq_true rfl, Nat.le_of_ble_eq_true rfl⟩ (g_r rfl ?_)
        refine g_iret C0 hlk hr d_Ga_left_30 (t_nil (free := noF)) ?_
        exact ⟨rdI (by rw [cLeft, c_4, if_pos rfl, inR_nI hj, if_pos (by simp; omega), nI_clamp hi31, nI_clamp hj]), rfl⟩
      · skip
        refine lv_bipush (v := -2) hx hb d_Ga_left_18 (by decide +kernel) ?_
        refine g_iret C0 hlk hr d_Ga_left_20 (t_nil (free := noF)) ?_
        exact ⟨rdI (by rw [cLeft, c_4, if_pos rfl, inR_nI hj, if_neg (by simp; omega)]), rfl⟩
  · skip
    refine lv_iconst (v := -1) hx hb d_Ga_left_7 (by decide +kernel) ?_
    refine g_iret C0 hlk hr d_Ga_left_8 (t_nil (free := noF)) ?_
    exact ⟨rdI (by rw [cLeft, c_4]; rfl), rfl⟩

set_option maxHeartbeats 4000000 in
set_option maxRecDepth 100000 in
theorem k_Ga_same (l : Launch) (G : gT) (x : Nat) (X : XS) (a w : Int32) (hX : XOk X) : gM l y_Ga_same c_Ga_same 3 (some .int) 2 43 0 0 G [.ref x, .int a, .int w] (fun H => XAt G x X H) (rd (.int (cSame X.1 a w))) noF := by
  refine g_enter "GaleNames" (by decide +kernel) rfl (Nat.le_of_ble_eq_true rfl) ?_
  intro p e s m args below meth c C0 hlk hr hnm hP hK ls hl
  have hx := C0.1
  have hb := C0.2.1
  have hl : lv_has ls 3 [(0, .ref x), (1, .int a), (2, .int w)] := hl
  have hsv : SvAt G x X.2.2.2.1 X.2.2.2.2 s.heap := hP.2.2.2.2.2.1
  refine lv_aload_n hx hb d_Ga_same_0 rfl (lv_at hl 0 rfl) ?_
  refine g_get C0 hK il_Ga hP.1 rfl 0 (by decide) fl_Ga_12 rfl d_Ga_same_1 ?_
  refine g_getN C0 hK il_St hP.2.1.1 rfl 2 (by decide) fn_Ga_149 rfl d_Ga_same_4 ?_
  refine lv_iload_n hx hb d_Ga_same_7 rfl (lv_at hl 1 rfl) ?_
  refine g_V C0 (k_Ro_has l G (x + 4) 40 (X.1.2 1) a) co_Ro_has im_Ro_has se_Ro_has in_Ro gc_Ro_has ml_Ga_91 ⟨Nat.le_of_ble_eq_true rfl, Nat.le_of_ble_eq_true rfl⟩ hK (hP.2.1.2.2 1 (by decide)).1 rfl (hP.2.1.2.2 1 (by decide)) rfl hl.1 rfl (Nat.le_of_ble_eq_true rfl) d_Ga_same_8 ⟨Nat.le_of_ble_eq_true rfl, Nat.le_of_ble_eq_true rfl⟩ (g_r rfl ?_)
  refine g_zeq (tgt := 28) C0 d_Ga_same_11 (by decide) (fun c_11 => ?_) (fun c_11 => ?_)
  · skip
    refine lv_iconst (v := -1) hx hb d_Ga_same_28 (by decide +kernel) ?_
    refine g_iret C0 hlk hr d_Ga_same_29 (t_nil (free := noF)) ?_
    exact ⟨rdI (by rw [cSame, c_11]; rfl), rfl⟩
  · skip
    obtain ⟨i, hi, hi31, rfl⟩ := inR_t c_11
    refine lv_aload_n hx hb d_Ga_same_14 rfl (lv_at hl 0 rfl) ?_
    refine g_get C0 hK il_Ga hP.1 rfl 0 (by decide) fl_Ga_12 rfl d_Ga_same_15 ?_
    refine g_getN C0 hK il_St hP.2.1.1 rfl 2 (by decide) fn_Ga_149 rfl d_Ga_same_18 ?_
    refine lv_iload_n hx hb d_Ga_same_21 rfl (lv_at hl 2 rfl) ?_
    refine g_V C0 (k_Ro_has l G (x + 4) 40 (X.1.2 1) w) co_Ro_has im_Ro_has se_Ro_has in_Ro gc_Ro_has ml_Ga_91 ⟨Nat.le_of_ble_eq_true rfl, Nat.le_of_ble_eq_true rfl⟩ hK (hP.2.1.2.2 1 (by decide)).1 rfl (hP.2.1.2.2 1 (by decide)) rfl hl.1 rfl (Nat.le_of_ble_eq_true rfl) d_Ga_same_22 ⟨Nat.le_of_ble_eq_true rfl, Nat.le_of_ble_eq_true rfl⟩ (g_r rfl ?_)
    refine g_zne (tgt := 30) C0 d_Ga_same_25 (by decide) (fun c_25 => ?_) (fun c_25 => ?_)
    · skip
      obtain ⟨j, hj, hj31, rfl⟩ := inR_t c_25
      refine lv_aload_n hx hb d_Ga_same_30 rfl (lv_at hl 0 rfl) ?_
      refine g_get C0 hK il_Ga hP.1 rfl 0 (by decide) fl_Ga_12 rfl d_Ga_same_31 ?_
      refine g_getN C0 hK il_St hP.2.1.1 rfl 2 (by decide) fn_Ga_149 rfl d_Ga_same_34 ?_
      refine lv_iload_n hx hb d_Ga_same_37 rfl (lv_at hl 1 rfl) ?_
      refine g_V C0 (k_Ro_at l G (x + 4) 40 (X.1.2 1) i (by omega)) co_Ro_at im_Ro_at se_Ro_at in_Ro gc_Ro_at ml_Ga_45 ⟨Nat.le_of_ble_eq_true rfl, Nat.le_of_ble_eq_true rfl⟩ hK (hP.2.1.2.2 1 (by decide)).1 rfl (hP.2.1.2.2 1 (by decide)) rfl hl.1 rfl (Nat.le_of_ble_eq_true rfl) d_Ga_same_38 ⟨Nat.le_of_ble_eq_true rfl, Nat.le_of_ble_eq_true rfl⟩ (g_r rfl ?_)
      refine lv_aload_n hx hb d_Ga_same_41 rfl (lv_at hl 0 rfl) ?_
      refine g_get C0 hK il_Ga hP.1 rfl 0 (by decide) fl_Ga_12 rfl d_Ga_same_42 ?_
      refine g_getN C0 hK il_St hP.2.1.1 rfl 2 (by decide) fn_Ga_149 rfl d_Ga_same_45 ?_
      refine lv_iload_n hx hb d_Ga_same_48 rfl (lv_at hl 2 rfl) ?_
      refine g_V C0 (k_Ro_at l G (x + 4) 40 (X.1.2 1) j (by omega)) co_Ro_at im_Ro_at se_Ro_at in_Ro gc_Ro_at ml_Ga_45 ⟨Nat.le_of_ble_eq_true rfl, Nat.le_of_ble_eq_true rfl⟩ hK (hP.2.1.2.2 1 (by decide)).1 rfl (hP.2.1.2.2 1 (by decide)) rfl hl.1 rfl (Nat.le_of_ble_eq_true rfl) d_Ga_same_49 ⟨Nat.le_of_ble_eq_true rfl, Nat.le_of_ble_eq_true rfl⟩ (g_r rfl ?_)
      refine g_S C0 (k_Ke_shared l G (rA (X.1.2 1) i) (rA (X.1.2 1) j) (rA_lt (hX.1.b (by decide)) (by decide)) (rA_lt (hX.1.b (by decide)) (by decide))) co_Ke_shared sm_Ke_shared in_Ke gc_Ke_shared ml_Ga_209 ⟨Nat.le_of_ble_eq_true rfl, Nat.le_of_ble_eq_true rfl⟩ hK trivial rfl hl.1 rfl (Nat.le_of_ble_eq_true rfl) d_Ga_same_52 ⟨Nat.le_of_ble_eq_true rfl, Nat.le_of_ble_eq_true rfl⟩ (g_r rfl ?_)
      refine g_iret C0 hlk hr d_Ga_same_55 (t_nil (free := noF)) ?_
      exact ⟨rdI (by rw [cSame, c_11, c_25, Bool.and_self, if_pos rfl, nI_clamp hi31, nI_clamp hj31]), rfl⟩
    · skip
      refine lv_iconst (v := -1) hx hb d_Ga_same_28 (by decide +kernel) ?_
      refine g_iret C0 hlk hr d_Ga_same_29 (t_nil (free := noF)) ?_
      exact ⟨rdI (by rw [cSame, c_25, Bool.and_false]; rfl), rfl⟩

theorem k_St_listOfX (l : Launch) (G : gT) (b : Nat) (Y : ST) (x y : Int32) (h : loA b x y = none) : gM l y_St_listOf c_St_listOf 4 (some (.object "GaleNames$Row")) 1 20 0 0 G [.ref b, .int x, .int y] (fun H => StAt G b Y H) (rd .null) noF := by
  have h1 := k_St_listOf l G b Y x y
  rw [h] at h1
  exact h1

set_option maxHeartbeats 4000000 in
set_option maxRecDepth 100000 in
theorem k_Ga_listed (l : Launch) (G : gT) (x : Nat) (X : XS) (a k q : Int32) (hX : XOk X) : gM l y_Ga_listed c_Ga_listed 5 (some .int) 2 43 0 0 G [.ref x, .int a, .int k, .int q] (fun H => XAt G x X H) (rd (.int (cListed X.1 a k q))) noF := by
  refine g_enter "GaleNames" (by decide +kernel) rfl (Nat.le_of_ble_eq_true rfl) ?_
  intro p e s m args below meth c C0 hlk hr hnm hP hK ls hl
  have hx := C0.1
  have hb := C0.2.1
  have hl : lv_has ls 5 [(0, .ref x), (1, .int a), (2, .int k), (3, .int q)] := hl
  have hsv : SvAt G x X.2.2.2.1 X.2.2.2.2 s.heap := hP.2.2.2.2.2.1
  rcases hlo : loA (x + 1) a k with _ | z0
  · skip
    refine lv_aload_n hx hb d_Ga_listed_0 rfl (lv_at hl 0 rfl) ?_
    refine g_get C0 hK il_Ga hP.1 rfl 0 (by decide) fl_Ga_12 rfl d_Ga_listed_1 ?_
    refine lv_iload_n hx hb d_Ga_listed_4 rfl (lv_at hl 1 rfl) ?_
    refine lv_iload_n hx hb d_Ga_listed_5 rfl (lv_at hl 2 rfl) ?_
    refine g_V C0 (k_St_listOfX l G (x + 1) X.1 a k hlo) co_St_listOf im_St_listOf se_St_listOf in_St gc_St_listOf ml_Ga_55 ⟨Nat.le_of_ble_eq_true rfl, Nat.le_of_ble_eq_true rfl⟩ hK hP.2.1.1 rfl hP.2.1 rfl hl.1 rfl (Nat.le_of_ble_eq_true rfl) d_Ga_listed_6 ⟨Nat.le_of_ble_eq_true rfl, Nat.le_of_ble_eq_true rfl⟩ (g_r rfl ?_)
    refine lv_astoreN (lv' := [(4, .null), (0, .ref x), (1, .int a), (2, .int k), (3, .int q)]) hx hb d_Ga_listed_9 hl (by decide) rfl (fun ls hl => ?_)
    refine lv_aloadN hx hb d_Ga_listed_11 (lv_at hl 0 rfl) ?_
    refine lv_ifnullN (tgt := 25) hx hb d_Ga_listed_13 (by decide) ?_
    refine lv_iconst (v := -1) hx hb d_Ga_listed_25 (by decide +kernel) ?_
    refine g_iret C0 hlk hr d_Ga_listed_26 (t_nil (free := noF)) ?_
    exact ⟨rdI (by rw [cListed, inL_f hlo, Bool.false_and]; rfl), rfl⟩
  · skip
    obtain ⟨i, j, hi, hj, rfl, rfl⟩ := inL_t hlo
    have hlx := lix_lt hi hj
    refine lv_aload_n hx hb d_Ga_listed_0 rfl (lv_at hl 0 rfl) ?_
    refine g_get C0 hK il_Ga hP.1 rfl 0 (by decide) fl_Ga_12 rfl d_Ga_listed_1 ?_
    refine lv_iload_n hx hb d_Ga_listed_4 rfl (lv_at hl 1 rfl) ?_
    refine lv_iload_n hx hb d_Ga_listed_5 rfl (lv_at hl 2 rfl) ?_
    refine g_V C0 (k_St_listOfN l G (x + 1) X.1 i j (by omega) (by omega)) co_St_listOf im_St_listOf se_St_listOf in_St gc_St_listOf ml_Ga_55 ⟨Nat.le_of_ble_eq_true rfl, Nat.le_of_ble_eq_true rfl⟩ hK hP.2.1.1 rfl hP.2.1 rfl hl.1 rfl (Nat.le_of_ble_eq_true rfl) d_Ga_listed_6 ⟨Nat.le_of_ble_eq_true rfl, Nat.le_of_ble_eq_true rfl⟩ (g_r rfl ?_)
    refine lv_astore (lv' := [(4, .ref (x + 1 + 24 + 2 * lix i j)), (0, .ref x), (1, .int (nI i)), (2, .int (nI j)), (3, .int q)]) hx hb d_Ga_listed_9 hl (by decide) rfl (fun ls hl => ?_)
    refine lv_aload hx hb d_Ga_listed_11 (lv_at hl 0 rfl) ?_
    refine lv_ifnull hx hb d_Ga_listed_13 ?_
    refine lv_aload hx hb d_Ga_listed_16 (lv_at hl 0 rfl) ?_
    refine lv_iload_n hx hb d_Ga_listed_18 rfl (lv_at hl 4 rfl) ?_
    refine g_V C0 (k_Ro_has l G (x + 1 + 24 + 2 * lix i j) 8 (X.1.2 (5 + (lix i j))) q) co_Ro_has im_Ro_has se_Ro_has in_Ro gc_Ro_has ml_Ga_91 ⟨Nat.le_of_ble_eq_true rfl, Nat.le_of_ble_eq_true rfl⟩ hK (hP.2.1.ls (lix_lt (by omega) (by omega))).1 rfl (hP.2.1.ls (lix_lt (by omega) (by omega))) rfl hl.1 rfl (Nat.le_of_ble_eq_true rfl) d_Ga_listed_19 ⟨Nat.le_of_ble_eq_true rfl, Nat.le_of_ble_eq_true rfl⟩ (g_r rfl ?_)
    refine g_zne (tgt := 27) C0 d_Ga_listed_22 (by decide) (fun c_22 => ?_) (fun c_22 => ?_)
    · skip
      obtain ⟨w, hw, hw31, rfl⟩ := inR_t c_22
      refine lv_aload hx hb d_Ga_listed_27 (lv_at hl 0 rfl) ?_
      refine lv_iload_n hx hb d_Ga_listed_29 rfl (lv_at hl 4 rfl) ?_
      refine g_V C0 (k_Ro_at l G (x + 1 + 24 + 2 * lix i j) 8 (X.1.2 (5 + (lix i j))) w (by omega)) co_Ro_at im_Ro_at se_Ro_at in_Ro gc_Ro_at ml_Ga_45 ⟨Nat.le_of_ble_eq_true rfl, Nat.le_of_ble_eq_true rfl⟩ hK (hP.2.1.ls (lix_lt (by omega) (by omega))).1 rfl (hP.2.1.ls (lix_lt (by omega) (by omega))) rfl hl.1 rfl (Nat.le_of_ble_eq_true rfl) d_Ga_listed_30 ⟨Nat.le_of_ble_eq_true rfl, Nat.le_of_ble_eq_true rfl⟩ (g_r rfl ?_)
      refine g_iret C0 hlk hr d_Ga_listed_33 (t_nil (free := noF)) ?_
      exact ⟨rdI (by rw [cListed, inL_nI hi hj, ixL_nI hi hj, c_22, Bool.and_self, if_pos rfl, nI_clamp hw31]), rfl⟩
    · skip
      refine lv_iconst (v := -1) hx hb d_Ga_listed_25 (by decide +kernel) ?_
      refine g_iret C0 hlk hr d_Ga_listed_26 (t_nil (free := noF)) ?_
      exact ⟨rdI (by rw [cListed, inL_nI hi hj, ixL_nI hi hj, c_22]; rfl), rfl⟩

set_option maxHeartbeats 4000000 in
set_option maxRecDepth 100000 in
theorem k_Ga_ranked (l : Launch) (G : gT) (x : Nat) (X : XS) (r : Int32) (hX : XOk X) : gM l y_Ga_ranked c_Ga_ranked 3 (some .int) 3 65 0 0 G [.ref x, .int r] (fun H => XAt G x X H) (rd (.int (cRanked X.1 r))) noF := by
  refine g_enter "GaleNames" (by decide +kernel) rfl (Nat.le_of_ble_eq_true rfl) ?_
  intro p e s m args below meth c C0 hlk hr hnm hP hK ls hl
  have hx := C0.1
  have hb := C0.2.1
  have hl : lv_has ls 3 [(0, .ref x), (1, .int r)] := hl
  have hsv : SvAt G x X.2.2.2.1 X.2.2.2.2 s.heap := hP.2.2.2.2.2.1
  have hlt := (hP.2.1.2.2 1 (by decide)).lt
  refine lv_iconst (v := nI 0) hx hb d_Ga_ranked_0 (by decide +kernel) ?_
  refine lv_istore_n (lv' := [(2, .int (nI 0)), (0, .ref x), (1, .int r)]) hx hb d_Ga_ranked_1 rfl hl (by decide) rfl (fun ls hl => ?_)
  have lp2 : ∀ (fu : Nat) (i : Nat), ((X.1.2 1).1 - i) < fu → i ≤ (X.1.2 1).1 → (∀ j, j < i → decide (nI (rnk X.1 j) = r) = false) → ∀ ls : Array Slot, lv_has ls 3 [(2, .int (nI i)), (0, .ref x), (1, .int r)] → W p l e ({ frames := 3, cells := 0, slots := 0, locals := 65 } : Room) s m args below meth c s.heap [] 0 0 (MQ below (gQ (rd (.int (cRanked X.1 r)))) args s 0 0 noF) (F0 m 2 ls []) := by
    intro fu
    induction fu with
    | zero => intro i  hfu; exact absurd hfu (Nat.not_lt_zero _)
    | succ fu ih2 =>
      intro i hfu hi hj ls hl
      refine lv_iload_n hx hb d_Ga_ranked_2 rfl (lv_at hl 0 rfl) ?_
      refine lv_aload_n hx hb d_Ga_ranked_3 rfl (lv_at hl 1 rfl) ?_
      refine g_get C0 hK il_Ga hP.1 rfl 0 (by decide) fl_Ga_12 rfl d_Ga_ranked_4 ?_
      refine g_getN C0 hK il_St hP.2.1.1 rfl 2 (by decide) fn_Ga_149 rfl d_Ga_ranked_7 ?_
      refine g_V C0 (k_Ro_size l G (x + 4) 40 (X.1.2 1) ) co_Ro_size im_Ro_size se_Ro_size in_Ro gc_Ro_size ml_Ga_71 ⟨Nat.le_of_ble_eq_true rfl, Nat.le_of_ble_eq_true rfl⟩ hK (hP.2.1.2.2 1 (by decide)).1 rfl (hP.2.1.2.2 1 (by decide)) rfl hl.1 rfl (Nat.le_of_ble_eq_true rfl) d_Ga_ranked_10 ⟨Nat.le_of_ble_eq_true rfl, Nat.le_of_ble_eq_true rfl⟩ (g_r rfl ?_)
      refine g_cge (tgt := 36) C0 d_Ga_ranked_13 (by decide) (by omega) (by omega) (fun c_13 => ?_) (fun c_13 => ?_)
      · skip
        refine lv_iconst (v := -1) hx hb d_Ga_ranked_36 (by decide +kernel) ?_
        refine g_iret C0 hlk hr d_Ga_ranked_37 (t_nil (free := noF)) ?_
        exact ⟨rdI (by rw [cRanked, fF_none (fun j h => hj j (by omega))]; rfl), rfl⟩
      · skip
        refine lv_aload_n hx hb d_Ga_ranked_16 rfl (lv_at hl 1 rfl) ?_
        refine g_get C0 hK il_Ga hP.1 rfl 0 (by decide) fl_Ga_12 rfl d_Ga_ranked_17 ?_
        refine lv_iload_n hx hb d_Ga_ranked_20 rfl (lv_at hl 0 rfl) ?_
        refine g_V C0 (k_St_rankOf l G (x + 1) X.1 i (by omega) hX.1) co_St_rankOf im_St_rankOf se_St_rankOf in_St gc_St_rankOf ml_Ga_187 ⟨Nat.le_of_ble_eq_true rfl, Nat.le_of_ble_eq_true rfl⟩ hK hP.2.1.1 rfl hP.2.1 rfl hl.1 rfl (Nat.le_of_ble_eq_true rfl) d_Ga_ranked_21 ⟨Nat.le_of_ble_eq_true rfl, Nat.le_of_ble_eq_true rfl⟩ (g_r rfl ?_)
        refine lv_iload_n hx hb d_Ga_ranked_24 rfl (lv_at hl 2 rfl) ?_
        refine lv_icmp_ne (tgt := 30) hx hb d_Ga_ranked_25 (by decide) (fun c_25 => ?_) (fun c_25 => ?_)
        · skip
          refine lv_iinc (v := (nI (i + 1))) (lv' := [(2, .int (nI (i + 1))), (0, .ref x), (1, .int r)]) hx hb d_Ga_ranked_30 hl (k := 0) rfl (gI_inc _) (by decide) rfl (fun ls hl => ?_)
          refine lv_goto (tgt := 2) hx hb d_Ga_ranked_33 (by decide) ?_
          exact ih2 (i + 1) (by omega) (by omega) (all_s hj (by simp [c_25])) ls (lv_sub hl [0, 1, 2] rfl)
        · skip
          refine lv_iload_n hx hb d_Ga_ranked_28 rfl (lv_at hl 0 rfl) ?_
          refine g_iret C0 hlk hr d_Ga_ranked_29 (t_nil (free := noF)) ?_
          exact ⟨rdI (by rw [cRanked, fF_some (i := i) (by omega) (by simp [c_25]) hj]; rfl), rfl⟩
  exact lp2 (((X.1.2 1).1 - 0) + 1) 0 (by omega) (by omega) all_0 ls (lv_sub hl [0, 1, 2] rfl)

set_option maxHeartbeats 4000000 in
set_option maxRecDepth 100000 in
theorem k_Ga_ifRetired (l : Launch) (G : gT) (x : Nat) (X : XS) (q : Int32) (hX : XOk X) : gM l y_Ga_ifRetired c_Ga_ifRetired 2 (some .int) 4 88 0 0 G [.ref x, .int q] (fun H => XAt G x X H) (rd (.int (cIfR X.1 q))) noF := by
  refine g_enter "GaleNames" (by decide +kernel) rfl (Nat.le_of_ble_eq_true rfl) ?_
  intro p e s m args below meth c C0 hlk hr hnm hP hK ls hl
  have hx := C0.1
  have hb := C0.2.1
  have hl : lv_has ls 2 [(0, .ref x), (1, .int q)] := hl
  have hsv : SvAt G x X.2.2.2.1 X.2.2.2.2 s.heap := hP.2.2.2.2.2.1
  refine lv_iload_n hx hb d_Ga_ifRetired_0 rfl (lv_at hl 1 rfl) ?_
  refine lv_iconst (v := nI 1) hx hb d_Ga_ifRetired_1 (by decide +kernel) ?_
  refine lv_icmp_lt (tgt := 11) hx hb d_Ga_ifRetired_2 (by decide) (fun c_2 => ?_) (fun c_2 => ?_)
  · skip
    refine lv_bipush (v := -2) hx hb d_Ga_ifRetired_11 (by decide +kernel) ?_
    refine g_iret C0 hlk hr d_Ga_ifRetired_13 (t_nil (free := noF)) ?_
    exact ⟨rdI (by rw [cIfR, inD_lo c_2]; rfl), rfl⟩
  · skip
    refine lv_iload_n hx hb d_Ga_ifRetired_5 rfl (lv_at hl 1 rfl) ?_
    refine lv_bipush (v := nI 99) hx hb d_Ga_ifRetired_6 (by decide +kernel) ?_
    refine lv_icmp_le (tgt := 14) hx hb d_Ga_ifRetired_8 (by decide) (fun c_8 => ?_) (fun c_8 => ?_)
    · skip
      obtain ⟨i, hi1, hi2, rfl⟩ := inD_ex (lo := 1) (hi := 99) c_2 c_8 (by decide) (by decide)
      refine lv_aload_n hx hb d_Ga_ifRetired_14 rfl (lv_at hl 0 rfl) ?_
      refine g_get C0 hK il_Ga hP.1 rfl 0 (by decide) fl_Ga_12 rfl d_Ga_ifRetired_15 ?_
      refine lv_iload_n hx hb d_Ga_ifRetired_18 rfl (lv_at hl 1 rfl) ?_
      refine g_V C0 (k_St_harmedBy l G (x + 1) X.1 i (by omega) hX.1) co_St_harmedBy im_St_harmedBy se_St_harmedBy in_St gc_St_harmedBy ml_Ga_206 ⟨Nat.le_of_ble_eq_true rfl, Nat.le_of_ble_eq_true rfl⟩ hK hP.2.1.1 rfl hP.2.1 rfl hl.1 rfl (Nat.le_of_ble_eq_true rfl) d_Ga_ifRetired_19 ⟨Nat.le_of_ble_eq_true rfl, Nat.le_of_ble_eq_true rfl⟩ (g_r rfl ?_)
      refine g_iret C0 hlk hr d_Ga_ifRetired_22 (t_nil (free := noF)) ?_
      exact ⟨rdI (by rw [cIfR, inD_t hi1 hi2 (by decide), if_pos rfl, nI_clamp (by omega)]), rfl⟩
    · skip
      refine lv_bipush (v := -2) hx hb d_Ga_ifRetired_11 (by decide +kernel) ?_
      refine g_iret C0 hlk hr d_Ga_ifRetired_13 (t_nil (free := noF)) ?_
      exact ⟨rdI (by rw [cIfR, inD_hi c_8]; rfl), rfl⟩
