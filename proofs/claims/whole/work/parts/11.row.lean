set_option maxHeartbeats 4000000 in
set_option maxRecDepth 100000 in
theorem k_Ro_size (l : Launch) (G : gT) (r cap : Nat) (A : Rw)  : gM l y_Ro_size c_Ro_size 1 (some .int) 0 0 0 0 G [.ref r] (fun H => RowAt G r cap A H) (rd (.int (nI A.1))) noF := by
  refine g_enter "GaleNames$Row" (by decide +kernel) rfl (Nat.le_of_ble_eq_true rfl) ?_
  intro p e s m args below meth c C0 hlk hr hnm hP hK ls hl
  have hx := C0.1
  have hb := C0.2.1
  have hl : lv_has ls 1 [(0, .ref r)] := hl
  have hcap := hP.2.2.2
  have hle := hP.2.2.1
  have hlt := hP.lt
  refine lv_aload_n hx hb d_Ro_size_0 rfl (lv_at hl 0 rfl) ?_
  refine g_get C0 hK il_Ro hP.1 rfl 1 (by decide) fl_Ro_21 rfl d_Ro_size_1 ?_
  refine g_iret C0 hlk hr d_Ro_size_4 t_nil ?_
  exact ⟨rfl, rfl⟩

set_option maxHeartbeats 4000000 in
set_option maxRecDepth 100000 in
theorem k_Ro_has (l : Launch) (G : gT) (r cap : Nat) (A : Rw) (x : Int32) : gM l y_Ro_has c_Ro_has 2 (some .boolean) 0 0 0 0 G [.ref r, .int x] (fun H => RowAt G r cap A H) (rd (.int (bI (inR x A.1)))) noF := by
  refine g_enter "GaleNames$Row" (by decide +kernel) rfl (Nat.le_of_ble_eq_true rfl) ?_
  intro p e s m args below meth c C0 hlk hr hnm hP hK ls hl
  have hx := C0.1
  have hb := C0.2.1
  have hl : lv_has ls 2 [(0, .ref r), (1, .int x)] := hl
  have hcap := hP.2.2.2
  have hle := hP.2.2.1
  have hlt := hP.lt
  refine lv_iload_n hx hb d_Ro_has_0 rfl (lv_at hl 1 rfl) ?_
  refine lv_if_lt (tgt := 25) hx hb d_Ro_has_1 (by decide) (fun c_1 => ?_) (fun c_1 => ?_)
  · skip
    refine lv_iconst (v := nI 0) hx hb d_Ro_has_25 (by decide +kernel) ?_
    refine g_zret (b := false) C0 hlk hr d_Ro_has_26 t_nil ?_
    exact ⟨rdB (inR_neg c_1), rfl⟩
  · skip
    obtain ⟨i, hi, rfl⟩ := gI_ex c_1
    refine lv_iload_n hx hb d_Ro_has_4 rfl (lv_at hl 1 rfl) ?_
    refine lv_aload_n hx hb d_Ro_has_5 rfl (lv_at hl 0 rfl) ?_
    refine g_get C0 hK il_Ro hP.1 rfl 1 (by decide) fl_Ro_21 rfl d_Ro_has_6 ?_
    refine g_cge (tgt := 25) C0 d_Ro_has_9 (by decide) (by omega) (by omega) (fun c_9 => ?_) (fun c_9 => ?_)
    · skip
      refine lv_iconst (v := nI 0) hx hb d_Ro_has_25 (by decide +kernel) ?_
      refine g_zret (b := false) C0 hlk hr d_Ro_has_26 t_nil ?_
      exact ⟨rdB (by rw [inR_nI hi]; simp; omega), rfl⟩
    · skip
      refine lv_iload_n hx hb d_Ro_has_12 rfl (lv_at hl 1 rfl) ?_
      refine lv_aload_n hx hb d_Ro_has_13 rfl (lv_at hl 0 rfl) ?_
      refine g_get C0 hK il_Ro hP.1 rfl 0 (by decide) fl_Ro_15 rfl d_Ro_has_14 ?_
      refine g_alen C0 hK 0 hP.2.1 rfl d_Ro_has_17 ?_
      refine g_cge (tgt := 25) C0 d_Ro_has_18 (by decide) (by omega) (by omega) (fun c_18 => ?_) (fun c_18 => ?_)
      · omega
      · skip
        refine lv_iconst (v := nI 1) hx hb d_Ro_has_21 (by decide +kernel) ?_
        refine lv_goto (tgt := 26) hx hb d_Ro_has_22 (by decide) ?_
        refine g_zret (b := true) C0 hlk hr d_Ro_has_26 t_nil ?_
        exact ⟨rdB (by rw [inR_nI hi]; simp; omega), rfl⟩

set_option maxHeartbeats 4000000 in
set_option maxRecDepth 100000 in
theorem k_Ro_at (l : Launch) (G : gT) (r cap : Nat) (A : Rw) (i : Nat) (hi : i < 2 ^ 31) : gM l y_Ro_at c_Ro_at 2 (some .int) 1 21 0 0 G [.ref r, .int (nI i)] (fun H => RowAt G r cap A H) (rd (.int (nI (rA A i)))) noF := by
  refine g_enter "GaleNames$Row" (by decide +kernel) rfl (Nat.le_of_ble_eq_true rfl) ?_
  intro p e s m args below meth c C0 hlk hr hnm hP hK ls hl
  have hx := C0.1
  have hb := C0.2.1
  have hl : lv_has ls 2 [(0, .ref r), (1, .int (nI i))] := hl
  have hcap := hP.2.2.2
  have hle := hP.2.2.1
  have hlt := hP.lt
  refine lv_aload_n hx hb d_Ro_at_0 rfl (lv_at hl 0 rfl) ?_
  refine lv_iload_n hx hb d_Ro_at_1 rfl (lv_at hl 1 rfl) ?_
  refine g_V C0 (k_Ro_has l G r cap A (nI i)) co_Ro_has im_Ro_has se_Ro_has in_Ro gc_Ro_has ml_Ro_25 ⟨Nat.le_of_ble_eq_true rfl, Nat.le_of_ble_eq_true rfl⟩ hK hP.1 rfl hP rfl hl.1 rfl (Nat.le_of_ble_eq_true rfl) d_Ro_at_2 ⟨Nat.le_of_ble_eq_true rfl, Nat.le_of_ble_eq_true rfl⟩ (g_r rfl ?_)
  refine g_zeq (tgt := 17) C0 d_Ro_at_5 (by decide) (fun c_5 => ?_) (fun c_5 => ?_)
  · skip
    rw [inR_nI hi] at c_5
    have c_5 : ¬ i < A.1 := by simpa using c_5
    refine lv_iconst (v := nI 0) hx hb d_Ro_at_17 (by decide +kernel) ?_
    refine g_iret C0 hlk hr d_Ro_at_18 t_nil ?_
    exact ⟨rdI (by rw [rA, if_neg c_5]), rfl⟩
  · skip
    rw [inR_nI hi] at c_5
    have c_5 : i < A.1 := by simpa using c_5
    refine lv_aload_n hx hb d_Ro_at_8 rfl (lv_at hl 0 rfl) ?_
    refine g_get C0 hK il_Ro hP.1 rfl 0 (by decide) fl_Ro_15 rfl d_Ro_at_9 ?_
    refine lv_iload_n hx hb d_Ro_at_12 rfl (lv_at hl 1 rfl) ?_
    refine g_iald C0 hK hP.2.1 (by omega) (by omega) d_Ro_at_13 ?_
    refine lv_goto (tgt := 18) hx hb d_Ro_at_14 (by decide) ?_
    refine g_iret C0 hlk hr d_Ro_at_18 t_nil ?_
    exact ⟨rdI (by rw [rA, if_pos c_5]), rfl⟩

theorem k_Ro_atN (l : Launch) (G : gT) (r cap : Nat) (A : Rw) (i : Nat) (hi : i < A.1) (h2 : A.1 < 2 ^ 31) : gM l y_Ro_at c_Ro_at 2 (some .int) 1 21 0 0 G [.ref r, .int (nI i)] (fun H => RowAt G r cap A H) (rd (.int (nI (A.2 i)))) noF := by
  have h := k_Ro_at l G r cap A i (by omega)
  rw [rA_in hi] at h
  exact h

set_option maxHeartbeats 4000000 in
set_option maxRecDepth 100000 in
theorem k_Ro_change (l : Launch) (G : gT) (r cap : Nat) (A : Rw) (i v : Nat) (hi : i < 2 ^ 31) : gM l y_Ro_change c_Ro_change 3 none 1 21 0 0 G [.ref r, .int (nI i), .int (nI v)] (fun H => RowAt G r cap A H) (wv (fun H H1 => RowAt G r cap (rCh A i v) H1 ∧ gFr r (r + 2) H H1)) (gRg r (r + 2)) := by
  refine g_enter "GaleNames$Row" (by decide +kernel) rfl (Nat.le_of_ble_eq_true rfl) ?_
  intro p e s m args below meth c C0 hlk hr hnm hP hK ls hl
  have hx := C0.1
  have hb := C0.2.1
  have hl : lv_has ls 3 [(0, .ref r), (1, .int (nI i)), (2, .int (nI v))] := hl
  have hcap := hP.2.2.2
  have hle := hP.2.2.1
  have hlt := hP.lt
  refine lv_aload_n hx hb d_Ro_change_0 rfl (lv_at hl 0 rfl) ?_
  refine lv_iload_n hx hb d_Ro_change_1 rfl (lv_at hl 1 rfl) ?_
  refine g_V C0 (k_Ro_has l G r cap A (nI i)) co_Ro_has im_Ro_has se_Ro_has in_Ro gc_Ro_has ml_Ro_25 ⟨Nat.le_of_ble_eq_true rfl, Nat.le_of_ble_eq_true rfl⟩ hK hP.1 rfl hP rfl hl.1 rfl (Nat.le_of_ble_eq_true rfl) d_Ro_change_2 ⟨Nat.le_of_ble_eq_true rfl, Nat.le_of_ble_eq_true rfl⟩ (g_r rfl ?_)
  refine g_zeq (tgt := 15) C0 d_Ro_change_5 (by decide) (fun c_5 => ?_) (fun c_5 => ?_)
  · skip
    rw [inR_nI hi] at c_5
    have c_5 : ¬ i < A.1 := by simpa using c_5
    refine g_vret C0 hlk hr d_Ro_change_15 t_nil ?_
    exact ⟨rfl, by rw [rCh, if_neg c_5]; exact ⟨hP.1, hP.2.1, by first | omega | (simp only []; omega), hcap⟩, gFr.rf⟩
  · skip
    rw [inR_nI hi] at c_5
    have c_5 : i < A.1 := by simpa using c_5
    refine lv_aload_n hx hb d_Ro_change_8 rfl (lv_at hl 0 rfl) ?_
    refine g_get C0 hK il_Ro hP.1 rfl 0 (by decide) fl_Ro_15 rfl d_Ro_change_9 ?_
    refine lv_iload_n hx hb d_Ro_change_12 rfl (lv_at hl 1 rfl) ?_
    refine lv_iload_n hx hb d_Ro_change_13 rfl (lv_at hl 2 rfl) ?_
    refine g_iast (free := gRg r (r + 2)) C0 hK hP.2.1 (by omega) (by omega) d_Ro_change_14 t_nil (gRg.mk (by omega) (by omega)) (fun H_1 locs hL hA_2 hc_3 => ?_)
    refine g_vret C0 hlk hr d_Ro_change_15 hL ?_
    exact ⟨rfl, by rw [rCh, if_pos c_5]; exact ⟨(hP.1.ch hc_3 (by omega)), hA_2, by first | omega | (simp only []; omega), hcap⟩, (gFr.rf.tr (gFr.ch hc_3 (by omega) (by omega)))⟩

set_option maxHeartbeats 4000000 in
set_option maxRecDepth 100000 in
theorem k_Ro_clear (l : Launch) (G : gT) (r cap : Nat) (A : Rw)  : gM l y_Ro_clear c_Ro_clear 1 none 0 0 0 0 G [.ref r] (fun H => RowAt G r cap A H) (wv (fun H H1 => RowAt G r cap (0, A.2) H1 ∧ gFr r (r + 2) H H1)) (gRg r (r + 2)) := by
  refine g_enter "GaleNames$Row" (by decide +kernel) rfl (Nat.le_of_ble_eq_true rfl) ?_
  intro p e s m args below meth c C0 hlk hr hnm hP hK ls hl
  have hx := C0.1
  have hb := C0.2.1
  have hl : lv_has ls 1 [(0, .ref r)] := hl
  have hcap := hP.2.2.2
  have hle := hP.2.2.1
  have hlt := hP.lt
  refine lv_aload_n hx hb d_Ro_clear_0 rfl (lv_at hl 0 rfl) ?_
  refine lv_iconst (v := nI 0) hx hb d_Ro_clear_1 (by decide +kernel) ?_
  refine g_put (free := gRg r (r + 2)) C0 hK il_Ro tk_Ro nm_Ro hP.1 rfl 1 (by decide) fl_Ro_21 rfl rfl rfl (Nat.le_of_ble_eq_true rfl) d_Ro_clear_2 t_nil (gRg.mk (by omega) (by omega)) (fun H_1 locs hL hA_2 hc_3 => ?_)
  have hA_2 : gE G r (eO 2 [.ref (r + 1), .int (nI 0)]) H_1 := hA_2
  refine g_vret C0 hlk hr d_Ro_clear_5 hL ?_
  exact ⟨rfl, ⟨hA_2, (hP.2.1.ch hc_3 (by omega)), by first | omega | (simp only []; omega), hcap⟩, (gFr.rf.tr (gFr.ch hc_3 (by omega) (by omega)))⟩

set_option maxHeartbeats 4000000 in
set_option maxRecDepth 100000 in
theorem k_Ro_add (l : Launch) (G : gT) (r cap : Nat) (A : Rw) (v : Nat) : gM l y_Ro_add c_Ro_add 2 none 0 0 0 0 G [.ref r, .int (nI v)] (fun H => RowAt G r cap A H) (wv (fun H H1 => RowAt G r cap (rAdd cap A v) H1 ∧ gFr r (r + 2) H H1)) (gRg r (r + 2)) := by
  refine g_enter "GaleNames$Row" (by decide +kernel) rfl (Nat.le_of_ble_eq_true rfl) ?_
  intro p e s m args below meth c C0 hlk hr hnm hP hK ls hl
  have hx := C0.1
  have hb := C0.2.1
  have hl : lv_has ls 2 [(0, .ref r), (1, .int (nI v))] := hl
  have hcap := hP.2.2.2
  have hle := hP.2.2.1
  have hlt := hP.lt
  refine lv_aload_n hx hb d_Ro_add_0 rfl (lv_at hl 0 rfl) ?_
  refine g_get C0 hK il_Ro hP.1 rfl 1 (by decide) fl_Ro_21 rfl d_Ro_add_1 ?_
  refine lv_if_lt (tgt := 19) hx hb d_Ro_add_4 (by decide) (fun c_4 => ?_) (fun c_4 => ?_)
  · exact absurd c_4 (nI_pos hlt)
  · skip
    refine lv_aload_n hx hb d_Ro_add_7 rfl (lv_at hl 0 rfl) ?_
    refine g_get C0 hK il_Ro hP.1 rfl 1 (by decide) fl_Ro_21 rfl d_Ro_add_8 ?_
    refine lv_aload_n hx hb d_Ro_add_11 rfl (lv_at hl 0 rfl) ?_
    refine g_get C0 hK il_Ro hP.1 rfl 0 (by decide) fl_Ro_15 rfl d_Ro_add_12 ?_
    refine g_alen C0 hK 0 hP.2.1 rfl d_Ro_add_15 ?_
    refine g_clt (tgt := 20) C0 d_Ro_add_16 (by decide) (by omega) (by omega) (fun c_16 => ?_) (fun c_16 => ?_)
    · skip
      refine lv_aload_n hx hb d_Ro_add_20 rfl (lv_at hl 0 rfl) ?_
      refine g_get C0 hK il_Ro hP.1 rfl 0 (by decide) fl_Ro_15 rfl d_Ro_add_21 ?_
      refine lv_aload_n hx hb d_Ro_add_24 rfl (lv_at hl 0 rfl) ?_
      refine g_get C0 hK il_Ro hP.1 rfl 1 (by decide) fl_Ro_21 rfl d_Ro_add_25 ?_
      refine lv_iload_n hx hb d_Ro_add_28 rfl (lv_at hl 1 rfl) ?_
      refine g_iast (free := gRg r (r + 2)) C0 hK hP.2.1 (by omega) (by omega) d_Ro_add_29 t_nil (gRg.mk (by omega) (by omega)) (fun H_1 locs hL hA_2 hc_3 => ?_)
      refine lv_aload_n hx hb d_Ro_add_30 rfl (lv_at hl 0 rfl) ?_
      refine lv_dup hx hb d_Ro_add_31 rfl ?_
      refine g_get C0 hK il_Ro (hP.1.ch hc_3 (by omega)) rfl 1 (by decide) fl_Ro_21 rfl d_Ro_add_32 ?_
      refine lv_iconst (v := nI 1) hx hb d_Ro_add_35 (by decide +kernel) ?_
      refine g_iadd C0 (z := A.1 + 1) d_Ro_add_36 rfl ?_
      refine g_put (free := gRg r (r + 2)) C0 hK il_Ro tk_Ro nm_Ro (hP.1.ch hc_3 (by omega)) rfl 1 (by decide) fl_Ro_21 rfl rfl rfl (Nat.le_of_ble_eq_true rfl) d_Ro_add_37 hL (gRg.mk (by omega) (by omega)) (fun H_4 locs hL hA_5 hc_6 => ?_)
      have hA_5 : gE G r (eO 2 [.ref (r + 1), .int (nI (A.1 + 1))]) H_4 := hA_5
      refine g_vret C0 hlk hr d_Ro_add_40 hL ?_
      exact ⟨rfl, by rw [rAdd, if_pos (by omega)]; exact ⟨hA_5, (hA_2.ch hc_6 (by omega)), by first | omega | (simp only []; omega), hcap⟩, ((gFr.rf.tr (gFr.ch hc_3 (by omega) (by omega))).tr (gFr.ch hc_6 (by omega) (by omega)))⟩
    · skip
      refine g_vret C0 hlk hr d_Ro_add_19 t_nil ?_
      exact ⟨rfl, by rw [rAdd, if_neg (by omega)]; exact ⟨hP.1, hP.2.1, by first | omega | (simp only []; omega), hcap⟩, gFr.rf⟩
