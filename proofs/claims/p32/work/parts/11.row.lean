set_option maxHeartbeats 4000000 in
set_option maxRecDepth 100000 in
theorem k_Ro_size (l : Launch) (G : gT) (r cap : Nat) (A : Rw)  : gM l y_Ro_size c_Ro_size 1 (some .int) 0 0 0 0 G [.ref r] (fun H => RowAt G r cap A H) (rd (.int (nI A.1))) noF := by
  refine g_enter "GaleNames$Row" (by decide +kernel) rfl (Nat.le_of_ble_eq_true rfl) ?_
  intro p e s m args below meth c C0 hlk hr hnm hP hK ls hl
  have hx := C0.1
  have hb := C0.2.1
  have hl : lv_has ls 1 [(0, .ref r)] := hl
  have hcap := hP.2.2.2
  have hle := hP.2.2.1
  have hlt := hP.lt
  refine lv_aload_n hx hb d_Ro_size_0 rfl (lv_at hl 0 rfl) ?_
  refine g_get C0 hK il_Ro hP.1 rfl 1 (by decide) fl_Ro_21 rfl d_Ro_size_1 ?_
  refine g_iret C0 hlk hr d_Ro_size_4 (t_nil (free := noF)) ?_
  exact ⟨rfl, rfl⟩

set_option maxHeartbeats 4000000 in
set_option maxRecDepth 100000 in
theorem k_Ro_has (l : Launch) (G : gT) (r cap : Nat) (A : Rw) (x : Int32) : gM l y_Ro_has c_Ro_has 2 (some .boolean) 0 0 0 0 G [.ref r, .int x] (fun H => RowAt G r cap A H) (rd (.int (bI (inR x A.1)))) noF := by
  refine g_enter "GaleNames$Row" (by decide +kernel) rfl (Nat.le_of_ble_eq_true rfl) ?_
  intro p e s m args below meth c C0 hlk hr hnm hP hK ls hl
  have hx := C0.1
  have hb := C0.2.1
  have hl : lv_has ls 2 [(0, .ref r), (1, .int x)] := hl
  have hcap := hP.2.2.2
  have hle := hP.2.2.1
  have hlt := hP.lt
  refine lv_iload_n hx hb d_Ro_has_0 rfl (lv_at hl 1 rfl) ?_
  refine lv_if_lt (tgt := 25) hx hb d_Ro_has_1 (by decide) (fun c_1 => ?_) (fun c_1 => ?_)
  · skip
    refine lv_iconst (v := nI 0) hx hb d_Ro_has_25 (by decide +kernel) ?_
    refine g_zret (b := false) C0 hlk hr d_Ro_has_26 (t_nil (free := noF)) ?_
    exact ⟨rdB (inR_neg c_1), rfl⟩
  · skip
    obtain ⟨i, hi, rfl⟩ := gI_ex c_1
    refine lv_iload_n hx hb d_Ro_has_4 rfl (lv_at hl 1 rfl) ?_
    refine lv_aload_n hx hb d_Ro_has_5 rfl (lv_at hl 0 rfl) ?_
    refine g_get C0 hK il_Ro hP.1 rfl 1 (by decide) fl_Ro_21 rfl d_Ro_has_6 ?_
    refine g_cge (tgt := 25) C0 d_Ro_has_9 (by decide) (by omega) (by omega) (fun c_9 => ?_) (fun c_9 => ?_)
    · skip
      refine lv_iconst (v := nI 0) hx hb d_Ro_has_25 (by decide +kernel) ?_
      refine g_zret (b := false) C0 hlk hr d_Ro_has_26 (t_nil (free := noF)) ?_
      exact ⟨rdB (by rw [inR_nI hi]; simp; omega), rfl⟩
    · skip
      refine lv_iload_n hx hb d_Ro_has_12 rfl (lv_at hl 1 rfl) ?_
      refine lv_aload_n hx hb d_Ro_has_13 rfl (lv_at hl 0 rfl) ?_
      refine g_get C0 hK il_Ro hP.1 rfl 0 (by decide) fl_Ro_15 rfl d_Ro_has_14 ?_
      refine g_alen C0 hK 0 hP.2.1 rfl d_Ro_has_17 ?_
      refine g_cge (tgt := 25) C0 d_Ro_has_18 (by decide) (by omega) (by omega) (fun c_18 => ?_) (fun c_18 => ?_)
      · omega
      · skip
        refine lv_iconst (v := nI 1) hx hb d_Ro_has_21 (by decide +kernel) ?_
        refine lv_goto (tgt := 26) hx hb d_Ro_has_22 (by decide) ?_
        refine g_zret (b := true) C0 hlk hr d_Ro_has_26 (t_nil (free := noF)) ?_
        exact ⟨rdB (by rw [inR_nI hi]; simp; omega), rfl⟩

set_option maxHeartbeats 4000000 in
set_option maxRecDepth 100000 in
theorem k_Ro_at (l : Launch) (G : gT) (r cap : Nat) (A : Rw) (i : Nat) (hi : i < 2 ^ 31) : gM l y_Ro_at c_Ro_at 2 (some .int) 1 21 0 0 G [.ref r, .int (nI i)] (fun H => RowAt G r cap A H) (rd (.int (nI (rA A i)))) noF := by
  refine g_enter "GaleNames$Row" (by decide +kernel) rfl (Nat.le_of_ble_eq_true rfl) ?_
  intro p e s m args below meth c C0 hlk hr hnm hP hK ls hl
  have hx := C0.1
  have hb := C0.2.1
  have hl : lv_has ls 2 [(0, .ref r), (1, .int (nI i))] := hl
  have hcap := hP.2.2.2
  have hle := hP.2.2.1
  have hlt := hP.lt
  refine lv_aload_n hx hb d_Ro_at_0 rfl (lv_at hl 0 rfl) ?_
  refine lv_iload_n hx hb d_Ro_at_1 rfl (lv_at hl 1 rfl) ?_
  refine g_V C0 (k_Ro_has l G r cap A (nI i)) co_Ro_has im_Ro_has se_Ro_has in_Ro gc_Ro_has ml_Ro_25 ⟨Nat.le_of_ble_eq_true rfl, Nat.le_of_ble_eq_true rfl⟩ hK hP.1 rfl hP rfl hl.1 rfl (Nat.le_of_ble_eq_true rfl) d_Ro_at_2 ⟨Nat.le_of_ble_eq_true rfl, Nat.le_of_ble_eq_true rfl⟩ (g_r rfl ?_)
  refine g_zeq (tgt := 17) C0 d_Ro_at_5 (by decide) (fun c_5 => ?_) (fun c_5 => ?_)
  · skip
    rw [inR_nI hi] at c_5
    have c_5 : ¬ i < A.1 := by simpa using c_5
    refine lv_iconst (v := nI 0) hx hb d_Ro_at_17 (by decide +kernel) ?_
    refine g_iret C0 hlk hr d_Ro_at_18 (t_nil (free := noF)) ?_
    exact ⟨rdI (by rw [rA, if_neg c_5]), rfl⟩
  · skip
    rw [inR_nI hi] at c_5
    have c_5 : i < A.1 := by simpa using c_5
    refine lv_aload_n hx hb d_Ro_at_8 rfl (lv_at hl 0 rfl) ?_
    refine g_get C0 hK il_Ro hP.1 rfl 0 (by decide) fl_Ro_15 rfl d_Ro_at_9 ?_
    refine lv_iload_n hx hb d_Ro_at_12 rfl (lv_at hl 1 rfl) ?_
    refine g_iald C0 hK hP.2.1 (by omega) (by omega) d_Ro_at_13 ?_
    refine lv_goto (tgt := 18) hx hb d_Ro_at_14 (by decide) ?_
    refine g_iret C0 hlk hr d_Ro_at_18 (t_nil (free := noF)) ?_
    exact ⟨rdI (by rw [rA, if_pos c_5]), rfl⟩

theorem k_Ro_atN (l : Launch) (G : gT) (r cap : Nat) (A : Rw) (i : Nat) (hi : i < A.1) (h2 : A.1 < 2 ^ 31) : gM l y_Ro_at c_Ro_at 2 (some .int) 1 21 0 0 G [.ref r, .int (nI i)] (fun H => RowAt G r cap A H) (rd (.int (nI (A.2 i)))) noF := by
  have h := k_Ro_at l G r cap A i (by omega)
  rw [rA_in hi] at h
  exact h

set_option maxHeartbeats 4000000 in
set_option maxRecDepth 100000 in
theorem k_Ro_change (l : Launch) (G : gT) (r cap : Nat) (A : Rw) (i v : Nat) (hi : i < 2 ^ 31) : gM l y_Ro_change c_Ro_change 3 none 1 21 0 0 G [.ref r, .int (nI i), .int (nI v)] (fun H => RowAt G r cap A H) (wv (fun H H1 => RowAt G r cap (rCh A i v) H1 ∧ gFr r (r + 2) H H1)) (gRg r (r + 2)) := by
  refine g_enter "GaleNames$Row" (by decide +kernel) rfl (Nat.le_of_ble_eq_true rfl) ?_
  intro p e s m args below meth c C0 hlk hr hnm hP hK ls hl
  have hx := C0.1
  have hb := C0.2.1
  have hl : lv_has ls 3 [(0, .ref r), (1, .int (nI i)), (2, .int (nI v))] := hl
  have hcap := hP.2.2.2
  have hle := hP.2.2.1
  have hlt := hP.lt
  refine lv_aload_n hx hb d_Ro_change_0 rfl (lv_at hl 0 rfl) ?_
  refine lv_iload_n hx hb d_Ro_change_1 rfl (lv_at hl 1 rfl) ?_
  refine g_V C0 (k_Ro_has l G r cap A (nI i)) co_Ro_has im_Ro_has se_Ro_has in_Ro gc_Ro_has ml_Ro_25 ⟨Nat.le_of_ble_eq_true rfl, Nat.le_of_ble_eq_true rfl⟩ hK hP.1 rfl hP rfl hl.1 rfl (Nat.le_of_ble_eq_true rfl) d_Ro_change_2 ⟨Nat.le_of_ble_eq_true rfl, Nat.le_of_ble_eq_true rfl⟩ (g_r rfl ?_)
  refine g_zeq (tgt := 15) C0 d_Ro_change_5 (by decide) (fun c_5 => ?_) (fun c_5 => ?_)
  · skip
    rw [inR_nI hi] at c_5
    have c_5 : ¬ i < A.1 := by simpa using c_5
    refine g_vret C0 hlk hr d_Ro_change_15 (t_nil (free := gRg r (r + 2))) ?_
    exact ⟨rfl, by rw [rCh, if_neg c_5]; exact ⟨hP.1, hP.2.1, by first | omega | (simp only []; omega), hcap⟩, gFr.rf⟩
  · skip
    rw [inR_nI hi] at c_5
    have c_5 : i < A.1 := by simpa using c_5
    refine lv_aload_n hx hb d_Ro_change_8 rfl (lv_at hl 0 rfl) ?_
    refine g_get C0 hK il_Ro hP.1 rfl 0 (by decide) fl_Ro_15 rfl d_Ro_change_9 ?_
    refine lv_iload_n hx hb d_Ro_change_12 rfl (lv_at hl 1 rfl) ?_
    refine lv_iload_n hx hb d_Ro_change_13 rfl (lv_at hl 2 rfl) ?_
    refine g_iast (free := gRg r (r + 2)) C0 hK hP.2.1 (by omega) (by omega) d_Ro_change_14 (t_nil (free := gRg r (r + 2))) (gRg.mk (by omega) (by omega)) (fun H_1 locs hL hA_2 hc_3 => ?_)
    refine g_vret C0 hlk hr d_Ro_change_15 hL ?_
    exact ⟨rfl, by rw [rCh, if_pos c_5]; exact ⟨(hP.1.ch hc_3 (by omega)), hA_2, by first | omega | (simp only []; omega), hcap⟩, (gFr.rf.tr (gFr.ch hc_3 (by omega) (by omega)))⟩

set_option maxHeartbeats 4000000 in
set_option maxRecDepth 100000 in
theorem k_Ro_clear (l : Launch) (G : gT) (r cap : Nat) (A : Rw)  : gM l y_Ro_clear c_Ro_clear 1 none 0 0 0 0 G [.ref r] (fun H => RowAt G r cap A H) (wv (fun H H1 => RowAt G r cap (0, A.2) H1 ∧ gFr r (r + 2) H H1)) (gRg r (r + 2)) := by
  refine g_enter "GaleNames$Row" (by decide +kernel) rfl (Nat.le_of_ble_eq_true rfl) ?_
  intro p e s m args below meth c C0 hlk hr hnm hP hK ls hl
  have hx := C0.1
  have hb := C0.2.1
  have hl : lv_has ls 1 [(0, .ref r)] := hl
  have hcap := hP.2.2.2
  have hle := hP.2.2.1
  have hlt := hP.lt
  refine lv_aload_n hx hb d_Ro_clear_0 rfl (lv_at hl 0 rfl) ?_
  refine lv_iconst (v := nI 0) hx hb d_Ro_clear_1 (by decide +kernel) ?_
  refine g_put (free := gRg r (r + 2)) C0 hK il_Ro tk_Ro nm_Ro hP.1 rfl 1 (by decide) fl_Ro_21 rfl rfl rfl (Nat.le_of_ble_eq_true rfl) d_Ro_clear_2 (t_nil (free := gRg r (r + 2))) (gRg.mk (by omega) (by omega)) (fun H_1 locs hL hA_2 hc_3 => ?_)
  have hA_2 : gE G r (eO 2 [.ref (r + 1), .int (nI 0)]) H_1 := hA_2
  refine g_vret C0 hlk hr d_Ro_clear_5 hL ?_
  exact ⟨rfl, ⟨hA_2, (hP.2.1.ch hc_3 (by omega)), by first | omega | (simp only []; omega), hcap⟩, (gFr.rf.tr (gFr.ch hc_3 (by omega) (by omega)))⟩

set_option maxHeartbeats 4000000 in
set_option maxRecDepth 100000 in
theorem k_Ro_add (l : Launch) (G : gT) (r cap : Nat) (A : Rw) (v : Nat) : gM l y_Ro_add c_Ro_add 2 none 0 0 0 0 G [.ref r, .int (nI v)] (fun H => RowAt G r cap A H) (wv (fun H H1 => RowAt G r cap (rAdd cap A v) H1 ∧ gFr r (r + 2) H H1)) (gRg r (r + 2)) := by
  refine g_enter "GaleNames$Row" (by decide +kernel) rfl (Nat.le_of_ble_eq_true rfl) ?_
  intro p e s m args below meth c C0 hlk hr hnm hP hK ls hl
  have hx := C0.1
  have hb := C0.2.1
  have hl : lv_has ls 2 [(0, .ref r), (1, .int (nI v))] := hl
  have hcap := hP.2.2.2
  have hle := hP.2.2.1
  have hlt := hP.lt
  refine lv_aload_n hx hb d_Ro_add_0 rfl (lv_at hl 0 rfl) ?_
  refine g_get C0 hK il_Ro hP.1 rfl 1 (by decide) fl_Ro_21 rfl d_Ro_add_1 ?_
  refine lv_if_lt (tgt := 19) hx hb d_Ro_add_4 (by decide) (fun c_4 => ?_) (fun c_4 => ?_)
  · exact absurd c_4 (nI_pos hlt)
  · skip
    refine lv_aload_n hx hb d_Ro_add_7 rfl (lv_at hl 0 rfl) ?_
    refine g_get C0 hK il_Ro hP.1 rfl 1 (by decide) fl_Ro_21 rfl d_Ro_add_8 ?_
    refine lv_aload_n hx hb d_Ro_add_11 rfl (lv_at hl 0 rfl) ?_
    refine g_get C0 hK il_Ro hP.1 rfl 0 (by decide) fl_Ro_15 rfl d_Ro_add_12 ?_
    refine g_alen C0 hK 0 hP.2.1 rfl d_Ro_add_15 ?_
    refine g_clt (tgt := 20) C0 d_Ro_add_16 (by decide) (by omega) (by omega) (fun c_16 => ?_) (fun c_16 => ?_)
    · skip
      refine lv_aload_n hx hb d_Ro_add_20 rfl (lv_at hl 0 rfl) ?_
      refine g_get C0 hK il_Ro hP.1 rfl 0 (by decide) fl_Ro_15 rfl d_Ro_add_21 ?_
      refine lv_aload_n hx hb d_Ro_add_24 rfl (lv_at hl 0 rfl) ?_
      refine g_get C0 hK il_Ro hP.1 rfl 1 (by decide) fl_Ro_21 rfl d_Ro_add_25 ?_
      refine lv_iload_n hx hb d_Ro_add_28 rfl (lv_at hl 1 rfl) ?_
      refine g_iast (free := gRg r (r + 2)) C0 hK hP.2.1 (by omega) (by omega) d_Ro_add_29 (t_nil (free := gRg r (r + 2))) (gRg.mk (by omega) (by omega)) (fun H_1 locs hL hA_2 hc_3 => ?_)
      refine lv_aload_n hx hb d_Ro_add_30 rfl (lv_at hl 0 rfl) ?_
      refine lv_dup hx hb d_Ro_add_31 rfl ?_
      refine g_get C0 hK il_Ro (hP.1.ch hc_3 (by omega)) rfl 1 (by decide) fl_Ro_21 rfl d_Ro_add_32 ?_
      refine lv_iconst (v := nI 1) hx hb d_Ro_add_35 (by decide +kernel) ?_
      refine g_iadd C0 (z := A.1 + 1) d_Ro_add_36 rfl ?_
      refine g_put (free := gRg r (r + 2)) C0 hK il_Ro tk_Ro nm_Ro (hP.1.ch hc_3 (by omega)) rfl 1 (by decide) fl_Ro_21 rfl rfl rfl (Nat.le_of_ble_eq_true rfl) d_Ro_add_37 hL (gRg.mk (by omega) (by omega)) (fun H_4 locs hL hA_5 hc_6 => ?_)
      have hA_5 : gE G r (eO 2 [.ref (r + 1), .int (nI (A.1 + 1))]) H_4 := hA_5
      refine g_vret C0 hlk hr d_Ro_add_40 hL ?_
      exact ⟨rfl, by rw [rAdd, if_pos (by omega)]; exact ⟨hA_5, (hA_2.ch hc_6 (by omega)), by first | omega | (simp only []; omega), hcap⟩, ((gFr.rf.tr (gFr.ch hc_3 (by omega) (by omega))).tr (gFr.ch hc_6 (by omega) (by omega)))⟩
    · skip
      refine g_vret C0 hlk hr d_Ro_add_19 (t_nil (free := gRg r (r + 2))) ?_
      exact ⟨rfl, by rw [rAdd, if_neg (by omega)]; exact ⟨hP.1, hP.2.1, by first | omega | (simp only []; omega), hcap⟩, gFr.rf⟩

set_option maxHeartbeats 4000000 in
set_option maxRecDepth 100000 in
theorem k_Ro_raise (l : Launch) (G : gT) (r cap : Nat) (A : Rw) (i : Nat) (y : Int32) (w : Nat) (hi : i < 2 ^ 31) (hw : i < A.1 → nI (rA A i) + y = nI w) : gM l y_Ro_raise c_Ro_raise 3 none 2 43 0 0 G [.ref r, .int (nI i), .int y] (fun H => RowAt G r cap A H) (wv (fun H H1 => RowAt G r cap (rCh A i w) H1 ∧ gFr r (r + 2) H H1)) (gRg r (r + 2)) := by
  refine g_enter "GaleNames$Row" (by decide +kernel) rfl (Nat.le_of_ble_eq_true rfl) ?_
  intro p e s m args below meth c C0 hlk hr hnm hP hK ls hl
  have hx := C0.1
  have hb := C0.2.1
  have hl : lv_has ls 3 [(0, .ref r), (1, .int (nI i)), (2, .int y)] := hl
  have hcap := hP.2.2.2
  have hle := hP.2.2.1
  have hlt := hP.lt
  rcases Nat.lt_or_ge i A.1 with hiA | hiA
  · skip
    refine lv_aload_n hx hb d_Ro_raise_0 rfl (lv_at hl 0 rfl) ?_
    refine lv_iload_n hx hb d_Ro_raise_1 rfl (lv_at hl 1 rfl) ?_
    refine lv_aload_n hx hb d_Ro_raise_2 rfl (lv_at hl 0 rfl) ?_
    refine lv_iload_n hx hb d_Ro_raise_3 rfl (lv_at hl 1 rfl) ?_
    refine g_V C0 (k_Ro_at l G r cap A i (by omega)) co_Ro_at im_Ro_at se_Ro_at in_Ro gc_Ro_at ml_Ro_29 ⟨Nat.le_of_ble_eq_true rfl, Nat.le_of_ble_eq_true rfl⟩ hK hP.1 rfl hP rfl hl.1 rfl (Nat.le_of_ble_eq_true rfl) d_Ro_raise_4 ⟨Nat.le_of_ble_eq_true rfl, Nat.le_of_ble_eq_true rfl⟩ (g_r rfl ?_)
    refine lv_iload_n hx hb d_Ro_raise_7 rfl (lv_at hl 2 rfl) ?_
    refine lv_iadd hx hb d_Ro_raise_8 ?_
    rw [show ((nI (rA A i)) : Int32) + y = (nI w) from (hw hiA)]
    refine g_V C0 (k_Ro_change l G r cap A i w (by omega)) co_Ro_change im_Ro_change se_Ro_change in_Ro gc_Ro_change ml_Ro_33 ⟨Nat.le_of_ble_eq_true rfl, Nat.le_of_ble_eq_true rfl⟩ hK hP.1 rfl hP rfl hl.1 rfl (Nat.le_of_ble_eq_true rfl) d_Ro_raise_9 ⟨Nat.le_of_ble_eq_true rfl, Nat.le_of_ble_eq_true rfl⟩ (g_wv (free := gRg r (r + 2)) (t_nil (free := gRg r (r + 2))) (fun _ h => h) (fun H_1 locs hL ⟨hR_2, hf_3⟩ => ?_))
    refine g_vret C0 hlk hr d_Ro_raise_12 hL ?_
    exact ⟨rfl, hR_2, (gFr.rf.tr hf_3)⟩
  · skip
    refine lv_aload_n hx hb d_Ro_raise_0 rfl (lv_at hl 0 rfl) ?_
    refine lv_iload_n hx hb d_Ro_raise_1 rfl (lv_at hl 1 rfl) ?_
    refine lv_aload_n hx hb d_Ro_raise_2 rfl (lv_at hl 0 rfl) ?_
    refine lv_iload_n hx hb d_Ro_raise_3 rfl (lv_at hl 1 rfl) ?_
    refine g_V C0 (k_Ro_at l G r cap A i (by omega)) co_Ro_at im_Ro_at se_Ro_at in_Ro gc_Ro_at ml_Ro_29 ⟨Nat.le_of_ble_eq_true rfl, Nat.le_of_ble_eq_true rfl⟩ hK hP.1 rfl hP rfl hl.1 rfl (Nat.le_of_ble_eq_true rfl) d_Ro_raise_4 ⟨Nat.le_of_ble_eq_true rfl, Nat.le_of_ble_eq_true rfl⟩ (g_r rfl ?_)
    refine lv_iload_n hx hb d_Ro_raise_7 rfl (lv_at hl 2 rfl) ?_
    refine lv_iadd hx hb d_Ro_raise_8 ?_
    obtain ⟨z, hz⟩ := nI_sur ((nI (rA A i)) + y)
    rw [hz]
    refine g_V C0 (k_Ro_change l G r cap A i z (by omega)) co_Ro_change im_Ro_change se_Ro_change in_Ro gc_Ro_change ml_Ro_33 ⟨Nat.le_of_ble_eq_true rfl, Nat.le_of_ble_eq_true rfl⟩ hK hP.1 rfl hP rfl hl.1 rfl (Nat.le_of_ble_eq_true rfl) d_Ro_raise_9 ⟨Nat.le_of_ble_eq_true rfl, Nat.le_of_ble_eq_true rfl⟩ (g_wv (free := gRg r (r + 2)) (t_nil (free := gRg r (r + 2))) (fun _ h => h) (fun H_4 locs hL ⟨hR_5, hf_6⟩ => ?_))
    refine g_vret C0 hlk hr d_Ro_raise_12 hL ?_
    exact ⟨rfl, (by rw [rCh, if_neg (by omega)]; rw [rCh, if_neg (by omega)] at hR_5; exact hR_5), (gFr.rf.tr hf_6)⟩

set_option maxHeartbeats 4000000 in
set_option maxRecDepth 100000 in
theorem k_Ro_drop (l : Launch) (G : gT) (r cap : Nat) (A : Rw) (x : Int32) : gM l y_Ro_drop c_Ro_drop 3 none 2 43 0 0 G [.ref r, .int x] (fun H => RowAt G r cap A H) (wv (fun H H1 => RowAt G r cap (rDx A x) H1 ∧ gFr r (r + 2) H H1)) (gRg r (r + 2)) := by
  refine g_enter "GaleNames$Row" (by decide +kernel) rfl (Nat.le_of_ble_eq_true rfl) ?_
  intro p e s m args below meth c C0 hlk hr hnm hP hK ls hl
  have hx := C0.1
  have hb := C0.2.1
  have hl : lv_has ls 3 [(0, .ref r), (1, .int x)] := hl
  have hcap := hP.2.2.2
  have hle := hP.2.2.1
  have hlt := hP.lt
  refine lv_aload_n hx hb d_Ro_drop_0 rfl (lv_at hl 0 rfl) ?_
  refine lv_iload_n hx hb d_Ro_drop_1 rfl (lv_at hl 1 rfl) ?_
  refine g_V C0 (k_Ro_has l G r cap A x) co_Ro_has im_Ro_has se_Ro_has in_Ro gc_Ro_has ml_Ro_25 ⟨Nat.le_of_ble_eq_true rfl, Nat.le_of_ble_eq_true rfl⟩ hK hP.1 rfl hP rfl hl.1 rfl (Nat.le_of_ble_eq_true rfl) d_Ro_drop_2 ⟨Nat.le_of_ble_eq_true rfl, Nat.le_of_ble_eq_true rfl⟩ (g_r rfl ?_)
  refine g_zne (tgt := 9) C0 d_Ro_drop_5 (by decide) (fun c_5 => ?_) (fun c_5 => ?_)
  · skip
    obtain ⟨i, hiA, hi31, rfl⟩ := inR_t c_5
    refine lv_iload_n hx hb d_Ro_drop_9 rfl (lv_at hl 1 rfl) ?_
    refine lv_iconst (v := nI 1) hx hb d_Ro_drop_10 (by decide +kernel) ?_
    refine g_iadd C0 (z := i + 1) d_Ro_drop_11 rfl ?_
    refine lv_istore_n (lv' := [(2, .int (nI (i + 1))), (0, .ref r), (1, .int (nI i))]) hx hb d_Ro_drop_12 rfl hl (by decide) rfl (fun ls hl => ?_)
    have lp13 : ∀ (fu : Nat) (j : Nat) (H : Heap) (locs : List Loc), (A.1 - j) < fu → i < j → j ≤ A.1 → (∀ qq ∈ locs, (gRg r (r + 2)) qq.base) → RowAt G r cap (A.1, rMv A.2 i j) H → gFr r (r + 2) s.heap H → ∀ ls : Array Slot, lv_has ls 3 [(2, .int (nI j)), (0, .ref r), (1, .int (nI i))] → W p l e ({ frames := 2, cells := 0, slots := 0, locals := 43 } : Room) s m args below meth c H locs 0 0 (MQ below (gQ (wv (fun H H1 => RowAt G r cap (rDx A (nI i)) H1 ∧ gFr r (r + 2) H H1))) args s 0 0 (gRg r (r + 2))) (F0 m 13 ls []) := by
      intro fu
      induction fu with
      | zero => intro j H locs hfu; exact absurd hfu (Nat.not_lt_zero _)
      | succ fu ih13 =>
        intro j H locs hfu hj1 hj2 hL hP hF ls hl
        refine lv_iload_n hx hb d_Ro_drop_13 rfl (lv_at hl 0 rfl) ?_
        refine lv_aload_n hx hb d_Ro_drop_14 rfl (lv_at hl 1 rfl) ?_
        refine g_get C0 hK il_Ro hP.1 rfl 1 (by decide) fl_Ro_21 rfl d_Ro_drop_15 ?_
        refine g_cge (tgt := 39) C0 d_Ro_drop_18 (by decide) (by omega) (by omega) (fun c_18 => ?_) (fun c_18 => ?_)
        · skip
          have ej : j = A.1 := by omega
          subst ej
          refine lv_aload_n hx hb d_Ro_drop_39 rfl (lv_at hl 1 rfl) ?_
          refine lv_dup hx hb d_Ro_drop_40 rfl ?_
          refine g_get C0 hK il_Ro hP.1 rfl 1 (by decide) fl_Ro_21 rfl d_Ro_drop_41 ?_
          refine lv_iconst (v := nI 1) hx hb d_Ro_drop_44 (by decide +kernel) ?_
          refine g_isub C0 (z := A.1 - 1) d_Ro_drop_45 (by omega) ?_
          refine g_put (free := gRg r (r + 2)) C0 hK il_Ro tk_Ro nm_Ro hP.1 rfl 1 (by decide) fl_Ro_21 rfl rfl rfl (Nat.le_of_ble_eq_true rfl) d_Ro_drop_46 hL (gRg.mk (by omega) (by omega)) (fun H_1 locs hL hA_2 hc_3 => ?_)
          have hA_2 : gE G r (eO 2 [.ref (r + 1), .int (nI (A.1 - 1))]) H_1 := hA_2
          refine g_vret C0 hlk hr d_Ro_drop_49 hL ?_
          exact ⟨rfl, by rw [rDx_n hi31, rDrop_e hiA]; exact ⟨hA_2, (hP.2.1.ch hc_3 (by omega)), (show A.1 - 1 ≤ cap by omega), hcap⟩, (hF.tr (gFr.ch hc_3 (by omega) (by omega)))⟩
        · skip
          refine lv_aload_n hx hb d_Ro_drop_21 rfl (lv_at hl 1 rfl) ?_
          refine lv_iload_n hx hb d_Ro_drop_22 rfl (lv_at hl 0 rfl) ?_
          refine lv_iconst (v := nI 1) hx hb d_Ro_drop_23 (by decide +kernel) ?_
          refine g_isub C0 (z := j - 1) d_Ro_drop_24 (by omega) ?_
          refine lv_aload_n hx hb d_Ro_drop_25 rfl (lv_at hl 1 rfl) ?_
          refine lv_iload_n hx hb d_Ro_drop_26 rfl (lv_at hl 0 rfl) ?_
          refine g_V C0 (k_Ro_atN l G r cap (A.1, rMv A.2 i j) j (show j < A.1 by omega) (show A.1 < 2 ^ 31 by omega)) co_Ro_at im_Ro_at se_Ro_at in_Ro gc_Ro_at ml_Ro_29 ⟨Nat.le_of_ble_eq_true rfl, Nat.le_of_ble_eq_true rfl⟩ hK hP.1 rfl hP rfl hl.1 rfl (Nat.le_of_ble_eq_true rfl) d_Ro_drop_27 ⟨Nat.le_of_ble_eq_true rfl, Nat.le_of_ble_eq_true rfl⟩ (g_r rfl ?_)
          refine g_V C0 (k_Ro_change l G r cap (A.1, rMv A.2 i j) (j - 1) ((A.1, rMv A.2 i j).2 j) (by omega)) co_Ro_change im_Ro_change se_Ro_change in_Ro gc_Ro_change ml_Ro_33 ⟨Nat.le_of_ble_eq_true rfl, Nat.le_of_ble_eq_true rfl⟩ hK hP.1 rfl hP rfl hl.1 rfl (Nat.le_of_ble_eq_true rfl) d_Ro_drop_30 ⟨Nat.le_of_ble_eq_true rfl, Nat.le_of_ble_eq_true rfl⟩ (g_wv (free := gRg r (r + 2)) hL (fun _ h => h) (fun H_4 locs hL ⟨hR_5, hf_6⟩ => ?_))
          refine lv_iinc (v := (nI (j + 1))) (lv' := [(2, .int (nI (j + 1))), (0, .ref r), (1, .int (nI i))]) hx hb d_Ro_drop_33 hl (k := 0) rfl (gI_inc _) (by decide) rfl (fun ls hl => ?_)
          refine lv_goto (tgt := 13) hx hb d_Ro_drop_36 (by decide) ?_
          exact ih13 (j + 1) H_4 locs (by omega) (by omega) (by omega) hL (by have h := hR_5; rw [show ((A.1, rMv A.2 i j) : Rw).2 j = A.2 j from rMv_at _ hj1, rMv_c hj1 (by omega)] at h; exact h) (hF.tr hf_6) ls (lv_sub hl [0, 1, 2] rfl)
    exact lp13 ((A.1 - (i + 1)) + 1) (i + 1) s.heap [] (by omega) (by omega) (by omega) (t_nil (free := gRg r (r + 2))) (by rw [rMv_0]; exact hP) gFr.rf ls (lv_sub hl [0, 1, 2] rfl)
  · skip
    refine g_vret C0 hlk hr d_Ro_drop_8 (t_nil (free := gRg r (r + 2))) ?_
    exact ⟨rfl, by rw [rDx, c_5]; exact hP, gFr.rf⟩

set_option maxHeartbeats 4000000 in
set_option maxRecDepth 100000 in
theorem k_Ro_placeOf (l : Launch) (G : gT) (r cap : Nat) (A : Rw) (v : Nat) (hv : v < 2 ^ 31) (hB : rB A (2 ^ 31)) : gM l y_Ro_placeOf c_Ro_placeOf 3 (some .int) 2 42 0 0 G [.ref r, .int (nI v)] (fun H => RowAt G r cap A H) (rd (.int (oI (-1) (rPl A v)))) noF := by
  refine g_enter "GaleNames$Row" (by decide +kernel) rfl (Nat.le_of_ble_eq_true rfl) ?_
  intro p e s m args below meth c C0 hlk hr hnm hP hK ls hl
  have hx := C0.1
  have hb := C0.2.1
  have hl : lv_has ls 3 [(0, .ref r), (1, .int (nI v))] := hl
  have hcap := hP.2.2.2
  have hle := hP.2.2.1
  have hlt := hP.lt
  refine lv_iconst (v := nI 0) hx hb d_Ro_placeOf_0 (by decide +kernel) ?_
  refine lv_istore_n (lv' := [(2, .int (nI 0)), (0, .ref r), (1, .int (nI v))]) hx hb d_Ro_placeOf_1 rfl hl (by decide) rfl (fun ls hl => ?_)
  have lp2 : ∀ (fu : Nat) (i : Nat), (A.1 - i) < fu → i ≤ A.1 → (∀ j, j < i → (A.2 j == v) = false) → ∀ ls : Array Slot, lv_has ls 3 [(2, .int (nI i)), (0, .ref r), (1, .int (nI v))] → W p l e ({ frames := 2, cells := 0, slots := 0, locals := 42 } : Room) s m args below meth c s.heap [] 0 0 (MQ below (gQ (rd (.int (oI (-1) (rPl A v))))) args s 0 0 noF) (F0 m 2 ls []) := by
    intro fu
    induction fu with
    | zero => intro i  hfu; exact absurd hfu (Nat.not_lt_zero _)
    | succ fu ih2 =>
      intro i hfu hi hj ls hl
      refine lv_iload_n hx hb d_Ro_placeOf_2 rfl (lv_at hl 0 rfl) ?_
      refine lv_aload_n hx hb d_Ro_placeOf_3 rfl (lv_at hl 1 rfl) ?_
      refine g_get C0 hK il_Ro hP.1 rfl 1 (by decide) fl_Ro_21 rfl d_Ro_placeOf_4 ?_
      refine g_cge (tgt := 27) C0 d_Ro_placeOf_7 (by decide) (by omega) (by omega) (fun c_7 => ?_) (fun c_7 => ?_)
      · skip
        refine lv_iconst (v := -1) hx hb d_Ro_placeOf_27 (by decide +kernel) ?_
        refine g_iret C0 hlk hr d_Ro_placeOf_28 (t_nil (free := noF)) ?_
        exact ⟨rdI (by rw [rPl, fF_none (fun j h => hj j (by omega))]; rfl), rfl⟩
      · skip
        refine lv_aload_n hx hb d_Ro_placeOf_10 rfl (lv_at hl 1 rfl) ?_
        refine lv_iload_n hx hb d_Ro_placeOf_11 rfl (lv_at hl 0 rfl) ?_
        refine g_V C0 (k_Ro_atN l G r cap A i (by omega) (by omega)) co_Ro_at im_Ro_at se_Ro_at in_Ro gc_Ro_at ml_Ro_29 ⟨Nat.le_of_ble_eq_true rfl, Nat.le_of_ble_eq_true rfl⟩ hK hP.1 rfl hP rfl hl.1 rfl (Nat.le_of_ble_eq_true rfl) d_Ro_placeOf_12 ⟨Nat.le_of_ble_eq_true rfl, Nat.le_of_ble_eq_true rfl⟩ (g_r rfl ?_)
        refine lv_iload_n hx hb d_Ro_placeOf_15 rfl (lv_at hl 2 rfl) ?_
        refine g_cne (tgt := 21) C0 d_Ro_placeOf_16 (by decide) (hB i (by omega)) (by omega) (fun c_16 => ?_) (fun c_16 => ?_)
        · skip
          refine lv_iinc (v := (nI (i + 1))) (lv' := [(2, .int (nI (i + 1))), (0, .ref r), (1, .int (nI v))]) hx hb d_Ro_placeOf_21 hl (k := 0) rfl (gI_inc _) (by decide) rfl (fun ls hl => ?_)
          refine lv_goto (tgt := 2) hx hb d_Ro_placeOf_24 (by decide) ?_
          exact ih2 (i + 1) (by omega) (by omega) (all_s hj (by simp [c_16])) ls (lv_sub hl [0, 1, 2] rfl)
        · skip
          refine lv_iload_n hx hb d_Ro_placeOf_19 rfl (lv_at hl 0 rfl) ?_
          refine g_iret C0 hlk hr d_Ro_placeOf_20 (t_nil (free := noF)) ?_
          exact ⟨rdI (by rw [rPl, fF_some (i := i) (by omega) (by simp [c_16]) hj]; rfl), rfl⟩
  exact lp2 ((A.1 - 0) + 1) 0 (by omega) (by omega) all_0 ls (lv_sub hl [0, 1, 2] rfl)

set_option maxHeartbeats 4000000 in
set_option maxRecDepth 100000 in
theorem k_Ro_holds (l : Launch) (G : gT) (r cap : Nat) (A : Rw) (v : Nat) (hv : v < 2 ^ 31) (hB : rB A (2 ^ 31)) : gM l y_Ro_holds c_Ro_holds 2 (some .boolean) 3 64 0 0 G [.ref r, .int (nI v)] (fun H => RowAt G r cap A H) (rd (.int (bI (rPl A v).isSome))) noF := by
  refine g_enter "GaleNames$Row" (by decide +kernel) rfl (Nat.le_of_ble_eq_true rfl) ?_
  intro p e s m args below meth c C0 hlk hr hnm hP hK ls hl
  have hx := C0.1
  have hb := C0.2.1
  have hl : lv_has ls 2 [(0, .ref r), (1, .int (nI v))] := hl
  have hcap := hP.2.2.2
  have hle := hP.2.2.1
  have hlt := hP.lt
  refine lv_aload_n hx hb d_Ro_holds_0 rfl (lv_at hl 0 rfl) ?_
  refine lv_iload_n hx hb d_Ro_holds_1 rfl (lv_at hl 1 rfl) ?_
  refine g_V C0 (k_Ro_placeOf l G r cap A v (by omega) hB) co_Ro_placeOf im_Ro_placeOf se_Ro_placeOf in_Ro gc_Ro_placeOf ml_Ro_37 ⟨Nat.le_of_ble_eq_true rfl, Nat.le_of_ble_eq_true rfl⟩ hK hP.1 rfl hP rfl hl.1 rfl (Nat.le_of_ble_eq_true rfl) d_Ro_holds_2 ⟨Nat.le_of_ble_eq_true rfl, Nat.le_of_ble_eq_true rfl⟩ (g_r rfl ?_)
  refine lv_iconst (v := -1) hx hb d_Ro_holds_5 (by decide +kernel) ?_
  refine lv_icmp_eq (tgt := 13) hx hb d_Ro_holds_6 (by decide) (fun c_6 => ?_) (fun c_6 => ?_)
  · skip
    have c_6 : rPl A v = none := (oI_m (fun i h => Nat.lt_trans (fF_s h).1 hlt)).mp c_6
    refine lv_iconst (v := nI 0) hx hb d_Ro_holds_13 (by decide +kernel) ?_
    refine g_zret (b := false) C0 hlk hr d_Ro_holds_14 (t_nil (free := noF)) ?_
    exact ⟨rdB (by rw [c_6]; rfl), rfl⟩
  · skip
    have c_6 : ¬ rPl A v = none := fun q => c_6 ((oI_m (fun i h => Nat.lt_trans (fF_s h).1 hlt)).mpr q)
    refine lv_iconst (v := nI 1) hx hb d_Ro_holds_9 (by decide +kernel) ?_
    refine lv_goto (tgt := 14) hx hb d_Ro_holds_10 (by decide) ?_
    refine g_zret (b := true) C0 hlk hr d_Ro_holds_14 (t_nil (free := noF)) ?_
    exact ⟨rdB (by cases e : rPl A v with | some i => rfl | none => exact absurd e c_6), rfl⟩

set_option maxHeartbeats 4000000 in
set_option maxRecDepth 100000 in
theorem k_Ro_timesOf (l : Launch) (G : gT) (r cap : Nat) (A : Rw) (v : Nat) (hv : v < 2 ^ 31) (hB : rB A (2 ^ 31)) : gM l y_Ro_timesOf c_Ro_timesOf 4 (some .int) 2 42 0 0 G [.ref r, .int (nI v)] (fun H => RowAt G r cap A H) (rd (.int (nI (cN (fun i => A.2 i == v) A.1)))) noF := by
  refine g_enter "GaleNames$Row" (by decide +kernel) rfl (Nat.le_of_ble_eq_true rfl) ?_
  intro p e s m args below meth c C0 hlk hr hnm hP hK ls hl
  have hx := C0.1
  have hb := C0.2.1
  have hl : lv_has ls 4 [(0, .ref r), (1, .int (nI v))] := hl
  have hcap := hP.2.2.2
  have hle := hP.2.2.1
  have hlt := hP.lt
  refine lv_iconst (v := nI 0) hx hb d_Ro_timesOf_0 (by decide +kernel) ?_
  refine lv_istore_n (lv' := [(2, .int (nI 0)), (0, .ref r), (1, .int (nI v))]) hx hb d_Ro_timesOf_1 rfl hl (by decide) rfl (fun ls hl => ?_)
  refine lv_iconst (v := nI 0) hx hb d_Ro_timesOf_2 (by decide +kernel) ?_
  refine lv_istore_n (lv' := [(3, .int (nI 0)), (2, .int (nI 0)), (0, .ref r), (1, .int (nI v))]) hx hb d_Ro_timesOf_3 rfl hl (by decide) rfl (fun ls hl => ?_)
  have lp4 : ∀ (fu : Nat) (i : Nat) (x : Nat), (A.1 - i) < fu → i ≤ A.1 → x = cN (fun i => A.2 i == v) i → ∀ ls : Array Slot, lv_has ls 4 [(3, .int (nI i)), (2, .int (nI x)), (0, .ref r), (1, .int (nI v))] → W p l e ({ frames := 2, cells := 0, slots := 0, locals := 42 } : Room) s m args below meth c s.heap [] 0 0 (MQ below (gQ (rd (.int (nI (cN (fun i => A.2 i == v) A.1))))) args s 0 0 noF) (F0 m 4 ls []) := by
    intro fu
    induction fu with
    | zero => intro i x  hfu; exact absurd hfu (Nat.not_lt_zero _)
    | succ fu ih4 =>
      intro i x hfu hi hx2 ls hl
      refine lv_iload_n hx hb d_Ro_timesOf_4 rfl (lv_at hl 0 rfl) ?_
      refine lv_aload_n hx hb d_Ro_timesOf_5 rfl (lv_at hl 2 rfl) ?_
      refine g_get C0 hK il_Ro hP.1 rfl 1 (by decide) fl_Ro_21 rfl d_Ro_timesOf_6 ?_
      refine g_cge (tgt := 30) C0 d_Ro_timesOf_9 (by decide) (by omega) (by omega) (fun c_9 => ?_) (fun c_9 => ?_)
      · skip
        refine lv_iload_n hx hb d_Ro_timesOf_30 rfl (lv_at hl 1 rfl) ?_
        refine g_iret C0 hlk hr d_Ro_timesOf_31 (t_nil (free := noF)) ?_
        exact ⟨rdI (by rw [hx2, show i = A.1 by omega]), rfl⟩
      · skip
        refine lv_aload_n hx hb d_Ro_timesOf_12 rfl (lv_at hl 2 rfl) ?_
        refine lv_iload_n hx hb d_Ro_timesOf_13 rfl (lv_at hl 0 rfl) ?_
        refine g_V C0 (k_Ro_atN l G r cap A i (by omega) (by omega)) co_Ro_at im_Ro_at se_Ro_at in_Ro gc_Ro_at ml_Ro_29 ⟨Nat.le_of_ble_eq_true rfl, Nat.le_of_ble_eq_true rfl⟩ hK hP.1 rfl hP rfl hl.1 rfl (Nat.le_of_ble_eq_true rfl) d_Ro_timesOf_14 ⟨Nat.le_of_ble_eq_true rfl, Nat.le_of_ble_eq_true rfl⟩ (g_r rfl ?_)
        refine lv_iload_n hx hb d_Ro_timesOf_17 rfl (lv_at hl 3 rfl) ?_
        refine g_cne (tgt := 24) C0 d_Ro_timesOf_18 (by decide) (hB i (by omega)) (by omega) (fun c_18 => ?_) (fun c_18 => ?_)
        · skip
          refine lv_iinc (v := (nI (i + 1))) (lv' := [(3, .int (nI (i + 1))), (2, .int (nI x)), (0, .ref r), (1, .int (nI v))]) hx hb d_Ro_timesOf_24 hl (k := 0) rfl (gI_inc _) (by decide) rfl (fun ls hl => ?_)
          refine lv_goto (tgt := 4) hx hb d_Ro_timesOf_27 (by decide) ?_
          exact ih4 (i + 1) x (by omega) (by omega) (by rw [cN_s, ← hx2]; simp [c_18]) ls (lv_sub hl [0, 1, 2, 3] rfl)
        · skip
          refine lv_iinc (v := (nI (x + 1))) (lv' := [(2, .int (nI (x + 1))), (3, .int (nI i)), (0, .ref r), (1, .int (nI v))]) hx hb d_Ro_timesOf_21 hl (k := 1) rfl (gI_inc _) (by decide) rfl (fun ls hl => ?_)
          refine lv_iinc (v := (nI (i + 1))) (lv' := [(3, .int (nI (i + 1))), (2, .int (nI (x + 1))), (0, .ref r), (1, .int (nI v))]) hx hb d_Ro_timesOf_24 hl (k := 1) rfl (gI_inc _) (by decide) rfl (fun ls hl => ?_)
          refine lv_goto (tgt := 4) hx hb d_Ro_timesOf_27 (by decide) ?_
          exact ih4 (i + 1) (x + 1) (by omega) (by omega) (by rw [cN_s, ← hx2]; simp [c_18]) ls (lv_sub hl [0, 1, 2, 3] rfl)
  exact lp4 ((A.1 - 0) + 1) 0 0 (by omega) (by omega) rfl ls (lv_sub hl [0, 1, 2, 3] rfl)

set_option maxHeartbeats 4000000 in
set_option maxRecDepth 100000 in
theorem k_Ro_total (l : Launch) (G : gT) (r cap : Nat) (A : Rw)  : gM l y_Ro_total c_Ro_total 3 (some .int) 2 42 0 0 G [.ref r] (fun H => RowAt G r cap A H) (rd (.int (nI (sN A.2 A.1)))) noF := by
  refine g_enter "GaleNames$Row" (by decide +kernel) rfl (Nat.le_of_ble_eq_true rfl) ?_
  intro p e s m args below meth c C0 hlk hr hnm hP hK ls hl
  have hx := C0.1
  have hb := C0.2.1
  have hl : lv_has ls 3 [(0, .ref r)] := hl
  have hcap := hP.2.2.2
  have hle := hP.2.2.1
  have hlt := hP.lt
  refine lv_iconst (v := nI 0) hx hb d_Ro_total_0 (by decide +kernel) ?_
  refine lv_istore_n (lv' := [(1, .int (nI 0)), (0, .ref r)]) hx hb d_Ro_total_1 rfl hl (by decide) rfl (fun ls hl => ?_)
  refine lv_iconst (v := nI 0) hx hb d_Ro_total_2 (by decide +kernel) ?_
  refine lv_istore_n (lv' := [(2, .int (nI 0)), (1, .int (nI 0)), (0, .ref r)]) hx hb d_Ro_total_3 rfl hl (by decide) rfl (fun ls hl => ?_)
  have lp4 : ∀ (fu : Nat) (i : Nat) (x : Nat), (A.1 - i) < fu → i ≤ A.1 → x = sN A.2 i → ∀ ls : Array Slot, lv_has ls 3 [(2, .int (nI i)), (1, .int (nI x)), (0, .ref r)] → W p l e ({ frames := 2, cells := 0, slots := 0, locals := 42 } : Room) s m args below meth c s.heap [] 0 0 (MQ below (gQ (rd (.int (nI (sN A.2 A.1))))) args s 0 0 noF) (F0 m 4 ls []) := by
    intro fu
    induction fu with
    | zero => intro i x  hfu; exact absurd hfu (Nat.not_lt_zero _)
    | succ fu ih4 =>
      intro i x hfu hi hx2 ls hl
      refine lv_iload_n hx hb d_Ro_total_4 rfl (lv_at hl 0 rfl) ?_
      refine lv_aload_n hx hb d_Ro_total_5 rfl (lv_at hl 2 rfl) ?_
      refine g_get C0 hK il_Ro hP.1 rfl 1 (by decide) fl_Ro_21 rfl d_Ro_total_6 ?_
      refine g_cge (tgt := 26) C0 d_Ro_total_9 (by decide) (by omega) (by omega) (fun c_9 => ?_) (fun c_9 => ?_)
      · skip
        refine lv_iload_n hx hb d_Ro_total_26 rfl (lv_at hl 1 rfl) ?_
        refine g_iret C0 hlk hr d_Ro_total_27 (t_nil (free := noF)) ?_
        exact ⟨rdI (by rw [hx2, show i = A.1 by omega]), rfl⟩
      · skip
        refine lv_iload_n hx hb d_Ro_total_12 rfl (lv_at hl 1 rfl) ?_
        refine lv_aload_n hx hb d_Ro_total_13 rfl (lv_at hl 2 rfl) ?_
        refine lv_iload_n hx hb d_Ro_total_14 rfl (lv_at hl 0 rfl) ?_
        refine g_V C0 (k_Ro_atN l G r cap A i (by omega) (by omega)) co_Ro_at im_Ro_at se_Ro_at in_Ro gc_Ro_at ml_Ro_29 ⟨Nat.le_of_ble_eq_true rfl, Nat.le_of_ble_eq_true rfl⟩ hK hP.1 rfl hP rfl hl.1 rfl (Nat.le_of_ble_eq_true rfl) d_Ro_total_15 ⟨Nat.le_of_ble_eq_true rfl, Nat.le_of_ble_eq_true rfl⟩ (g_r rfl ?_)
        refine g_iadd C0 (z := x + (A.2 i)) d_Ro_total_18 rfl ?_
        refine lv_istore_n (lv' := [(1, .int (nI (x + (A.2 i)))), (2, .int (nI i)), (0, .ref r)]) hx hb d_Ro_total_19 rfl hl (by decide) rfl (fun ls hl => ?_)
        refine lv_iinc (v := (nI (i + 1))) (lv' := [(2, .int (nI (i + 1))), (1, .int (nI (x + (A.2 i)))), (0, .ref r)]) hx hb d_Ro_total_20 hl (k := 1) rfl (gI_inc _) (by decide) rfl (fun ls hl => ?_)
        refine lv_goto (tgt := 4) hx hb d_Ro_total_23 (by decide) ?_
        exact ih4 (i + 1) (x + (A.2 i)) (by omega) (by omega) (by rw [sN_s, ← hx2]) ls (lv_sub hl [0, 1, 2] rfl)
  exact lp4 ((A.1 - 0) + 1) 0 0 (by omega) (by omega) rfl ls (lv_sub hl [0, 1, 2] rfl)

set_option maxHeartbeats 4000000 in
set_option maxRecDepth 100000 in
theorem k_Ro_copy (l : Launch) (G : gT) (r cap f capF : Nat) (A F : Rw) (hrf : r + 2 ≤ f ∨ f + 2 ≤ r) (hF : F.1 ≤ cap) : gM l y_Ro_copy c_Ro_copy 3 none 1 18 0 0 G [.ref r, .ref f] (fun H => RowAt G r cap A H ∧ RowAt G f capF F H) (wv (fun H H1 => RowAt G r cap (rCp A F) H1 ∧ gFr r (r + 2) H H1)) (gRg r (r + 2)) := by
  refine g_enter "GaleNames$Row" (by decide +kernel) rfl (Nat.le_of_ble_eq_true rfl) ?_
  intro p e s m args below meth c C0 hlk hr hnm hP hK ls hl
  have hx := C0.1
  have hb := C0.2.1
  have hl : lv_has ls 3 [(0, .ref r), (1, .ref f)] := hl
  have hcap := hP.1.2.2.2
  have hle := hP.1.2.2.1
  have hlt := hP.1.lt
  have hcapF := hP.2.2.2.2
  have hleF := hP.2.2.2.1
  have hltF := hP.2.lt
  refine lv_aload_n hx hb d_Ro_copy_0 rfl (lv_at hl 1 rfl) ?_
  refine g_get C0 hK il_Ro hP.2.1 rfl 1 (by decide) fl_Ro_21 rfl d_Ro_copy_1 ?_
  refine lv_aload_n hx hb d_Ro_copy_4 rfl (lv_at hl 1 rfl) ?_
  refine g_get C0 hK il_Ro hP.2.1 rfl 0 (by decide) fl_Ro_15 rfl d_Ro_copy_5 ?_
  refine g_alen C0 hK 0 hP.2.2.1 rfl d_Ro_copy_8 ?_
  refine lv_aload_n hx hb d_Ro_copy_9 rfl (lv_at hl 0 rfl) ?_
  refine g_get C0 hK il_Ro hP.1.1 rfl 0 (by decide) fl_Ro_15 rfl d_Ro_copy_10 ?_
  refine g_alen C0 hK 0 hP.1.2.1 rfl d_Ro_copy_13 ?_
  refine g_mmin (z := min capF cap) C0 hl.1 ml_Ro_40 sm_Ma_min in_Ma co_min (Nat.le_of_ble_eq_true rfl) (Nat.le_of_ble_eq_true rfl) (Nat.le_of_ble_eq_true rfl) (Nat.le_of_ble_eq_true rfl) d_Ro_copy_14 (by omega) (by omega) rfl ?_
  refine g_mmin (z := F.1) C0 hl.1 ml_Ro_40 sm_Ma_min in_Ma co_min (Nat.le_of_ble_eq_true rfl) (Nat.le_of_ble_eq_true rfl) (Nat.le_of_ble_eq_true rfl) (Nat.le_of_ble_eq_true rfl) d_Ro_copy_17 (by omega) (by omega) (by omega) ?_
  refine lv_istore_n (lv' := [(2, .int (nI F.1)), (0, .ref r), (1, .ref f)]) hx hb d_Ro_copy_20 rfl hl (by decide) rfl (fun ls hl => ?_)
  refine lv_iload_n hx hb d_Ro_copy_21 rfl (lv_at hl 0 rfl) ?_
  refine lv_if_le (tgt := 39) hx hb d_Ro_copy_22 (by decide) (fun c_22 => ?_) (fun c_22 => ?_)
  · skip
    have c_22 : F.1 = 0 := Classical.byContradiction fun q => absurd c_22 (nI_posn (by omega) hltF)
    refine lv_aload_n hx hb d_Ro_copy_39 rfl (lv_at hl 1 rfl) ?_
    refine lv_iload_n hx hb d_Ro_copy_40 rfl (lv_at hl 0 rfl) ?_
    refine g_put (free := gRg r (r + 2)) C0 hK il_Ro tk_Ro nm_Ro hP.1.1 rfl 1 (by decide) fl_Ro_21 rfl rfl rfl (Nat.le_of_ble_eq_true rfl) d_Ro_copy_41 (t_nil (free := gRg r (r + 2))) (gRg.mk (by omega) (by omega)) (fun H_1 locs hL hA_2 hc_3 => ?_)
    have hA_2 : gE G r (eO 2 [.ref (r + 1), .int (nI F.1)]) H_1 := hA_2
    refine g_vret C0 hlk hr d_Ro_copy_44 hL ?_
    exact ⟨rfl, ⟨hA_2, (by rw [rCp_0 c_22]; exact (hP.1.2.1.ch hc_3 (by omega))), hF, hcap⟩, (gFr.rf.tr (gFr.ch hc_3 (by omega) (by omega)))⟩
  · skip
    have c_22 : 0 < F.1 := Nat.pos_of_ne_zero fun q => c_22 (by rw [q]; decide)
    refine lv_aload_n hx hb d_Ro_copy_25 rfl (lv_at hl 2 rfl) ?_
    refine g_get C0 hK il_Ro hP.2.1 rfl 0 (by decide) fl_Ro_15 rfl d_Ro_copy_26 ?_
    refine lv_iconst (v := nI 0) hx hb d_Ro_copy_29 (by decide +kernel) ?_
    refine lv_aload_n hx hb d_Ro_copy_30 rfl (lv_at hl 1 rfl) ?_
    refine g_get C0 hK il_Ro hP.1.1 rfl 0 (by decide) fl_Ro_15 rfl d_Ro_copy_31 ?_
    refine lv_iconst (v := nI 0) hx hb d_Ro_copy_34 (by decide +kernel) ?_
    refine lv_iload_n hx hb d_Ro_copy_35 rfl (lv_at hl 0 rfl) ?_
    refine g_copy (free := gRg r (r + 2)) C0 hK hl.1 ml_Ro_43 na_Sy_arraycopy sm_Sy_arraycopy in_Sy hP.2.2.1 hP.1.2.1 (by omega) (by omega) (by omega) (Nat.le_of_ble_eq_true rfl) (Nat.le_of_ble_eq_true rfl) d_Ro_copy_36 (t_nil (free := gRg r (r + 2))) (gRg.mk (by omega) (by omega)) (fun H_4 locs hL hA_5 hc_6 => ?_)
    refine lv_aload_n hx hb d_Ro_copy_39 rfl (lv_at hl 1 rfl) ?_
    refine lv_iload_n hx hb d_Ro_copy_40 rfl (lv_at hl 0 rfl) ?_
    refine g_put (free := gRg r (r + 2)) C0 hK il_Ro tk_Ro nm_Ro (hP.1.1.ch hc_6 (by omega)) rfl 1 (by decide) fl_Ro_21 rfl rfl rfl (Nat.le_of_ble_eq_true rfl) d_Ro_copy_41 hL (gRg.mk (by omega) (by omega)) (fun H_7 locs hL hA_8 hc_9 => ?_)
    have hA_8 : gE G r (eO 2 [.ref (r + 1), .int (nI F.1)]) H_7 := hA_8
    refine g_vret C0 hlk hr d_Ro_copy_44 hL ?_
    exact ⟨rfl, ⟨hA_8, (hA_5.ch hc_9 (by omega)), hF, hcap⟩, ((gFr.rf.tr (gFr.ch hc_6 (by omega) (by omega))).tr (gFr.ch hc_9 (by omega) (by omega)))⟩

set_option maxHeartbeats 4000000 in
set_option maxRecDepth 100000 in
theorem k_Ro_init (l : Launch) (G : gT) (r n : Nat) (hn : n < 134217728) : gM l y_Ro_init c_Ro_init 2 none 1 14 1 n G [.ref r, .int (nI n)] (fun H => H.size = r + 1 ∧ gE G r (eO 2 [.null, .int 0]) H) (wv (fun H H1 => H1.size = r + 2 ∧ RowAt G r n (0, fun _ => 0) H1 ∧ gGr r H H1)) (gAb r) := by
  refine g_enter "GaleNames$Row" (by decide +kernel) rfl (Nat.le_of_ble_eq_true rfl) ?_
  intro p e s m args below meth c C0 hlk hr hnm hP hK ls hl
  have hx := C0.1
  have hb := C0.2.1
  have hl : lv_has ls 2 [(0, .ref r), (1, .int (nI n))] := hl
  refine lv_aload_n hx hb d_Ro_init_0 rfl (lv_at hl 0 rfl) ?_
  refine g_oi C0 hl.1 ml_Ro_3 d_Ro_init_1 (Nat.le_of_ble_eq_true rfl) (Nat.le_of_ble_eq_true rfl) ?_
  refine lv_aload_n hx hb d_Ro_init_4 rfl (lv_at hl 0 rfl) ?_
  refine lv_iload_n hx hb d_Ro_init_5 rfl (lv_at hl 1 rfl) ?_
  refine lv_iconst (v := nI 0) hx hb d_Ro_init_6 (by decide +kernel) ?_
  refine g_mmax (z := n) C0 hl.1 ml_Ro_9 sm_Ma_max in_Ma co_max (Nat.le_of_ble_eq_true rfl) (Nat.le_of_ble_eq_true rfl) (Nat.le_of_ble_eq_true rfl) (Nat.le_of_ble_eq_true rfl) d_Ro_init_7 (by omega) (by omega) (by omega) ?_
  refine g_newi C0 hK ac_int (by omega) (Nat.le_of_ble_eq_true rfl) (by show 0 + n ≤ n; omega) d_Ro_init_10 hP.1 (fun H_1 hA_2 hz_3 hq_4 => ?_)
  refine W.widen (k := 1) (n := n) (by omega) (by omega) ?_
  refine g_putF (free := gAb r) C0 hK il_Ro tk_Ro nm_Ro (hP.2.nw hq_4 (by omega)) rfl 0 (by decide) fl_Ro_15 rfl hnm rfl rfl rfl (Nat.le_of_ble_eq_true rfl) d_Ro_init_12 (t_nil (free := gAb r)) (gAb.mk (by omega)) (fun H_5 locs hL hA_6 hc_7 => ?_)
  have hA_6 : gE G r (eO 2 [.ref (r + 1), .int (nI 0)]) H_5 := hA_6
  refine g_vret C0 hlk hr d_Ro_init_15 hL ?_
  exact ⟨rfl, (hc_7.1.trans hz_3), ⟨hA_6, (hA_2.ch hc_7 (by omega)), Nat.zero_le n, (by omega)⟩, ((gGr.rf.tr (gGr.nw hz_3 hP.1 hq_4 (by omega))).tr (gGr.ch hc_7 (by omega)))⟩
