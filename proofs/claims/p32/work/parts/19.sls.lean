set_option maxHeartbeats 4000000 in
set_option maxRecDepth 100000 in
theorem k_Sl_has (l : Launch) (G : gT) (v : Nat) (o : Nat → Option Nat) (x : Int32) : gM l y_Sl_has c_Sl_has 2 (some .boolean) 0 0 0 0 G [.ref v, .int x] (fun H => SlAt G v o H) (rd (.int (bI (inR x 2)))) noF := by
  refine g_enter "GaleNames$Slots" (by decide +kernel) rfl (Nat.le_of_ble_eq_true rfl) ?_
  intro p e s m args below meth c C0 hlk hr hnm hP hK ls hl
  have hx := C0.1
  have hb := C0.2.1
  have hl : lv_has ls 2 [(0, .ref v), (1, .int x)] := hl
  refine lv_iload_n hx hb d_Sl_has_0 rfl (lv_at hl 1 rfl) ?_
  refine lv_if_lt (tgt := 17) hx hb d_Sl_has_1 (by decide) (fun c_1 => ?_) (fun c_1 => ?_)
  · skip
    refine lv_iconst (v := nI 0) hx hb d_Sl_has_17 (by decide +kernel) ?_
    refine g_zret (b := false) C0 hlk hr d_Sl_has_18 (t_nil (free := noF)) ?_
    exact ⟨rdB (inR_neg c_1), rfl⟩
  · skip
    obtain ⟨i, hi, rfl⟩ := gI_ex c_1
    refine lv_iload_n hx hb d_Sl_has_4 rfl (lv_at hl 1 rfl) ?_
    refine lv_aload_n hx hb d_Sl_has_5 rfl (lv_at hl 0 rfl) ?_
    refine g_get C0 hK il_Sl hP.1 rfl 0 (by decide) fl_Sl_11 rfl d_Sl_has_6 ?_
    refine g_alen C0 hK 4 hP.2 rfl d_Sl_has_9 ?_
    refine g_cge (tgt := 17) C0 d_Sl_has_10 (by decide) (by omega) (by omega) (fun c_10 => ?_) (fun c_10 => ?_)
    · skip
      refine lv_iconst (v := nI 0) hx hb d_Sl_has_17 (by decide +kernel) ?_
      refine g_zret (b := false) C0 hlk hr d_Sl_has_18 (t_nil (free := noF)) ?_
      exact ⟨rdB (by rw [inR_nI hi]; simp; omega), rfl⟩
    · skip
      refine lv_iconst (v := nI 1) hx hb d_Sl_has_13 (by decide +kernel) ?_
      refine lv_goto (tgt := 18) hx hb d_Sl_has_14 (by decide) ?_
      refine g_zret (b := true) C0 hlk hr d_Sl_has_18 (t_nil (free := noF)) ?_
      exact ⟨rdB (by rw [inR_nI hi]; simp; omega), rfl⟩

set_option maxHeartbeats 4000000 in
set_option maxRecDepth 100000 in
theorem k_Sl_keptInN (l : Launch) (G : gT) (v : Nat) (o : Nat → Option Nat) (i : Nat) (hi : i < 2) (ho : o i = none) : gM l y_Sl_keptIn c_Sl_keptIn 2 (some (.object "GaleNames$State")) 1 21 0 0 G [.ref v, .int (nI i)] (fun H => SlAt G v o H) (rd .null) noF := by
  refine g_enter "GaleNames$Slots" (by decide +kernel) rfl (Nat.le_of_ble_eq_true rfl) ?_
  intro p e s m args below meth c C0 hlk hr hnm hP hK ls hl
  have hx := C0.1
  have hb := C0.2.1
  have hl : lv_has ls 2 [(0, .ref v), (1, .int (nI i))] := hl
  refine lv_aload_n hx hb d_Sl_keptIn_0 rfl (lv_at hl 0 rfl) ?_
  refine lv_iload_n hx hb d_Sl_keptIn_1 rfl (lv_at hl 1 rfl) ?_
  refine g_V C0 (k_Sl_has l G v o (nI i)) co_Sl_has im_Sl_has se_Sl_has in_Sl gc_Sl_has ml_Sl_17 ⟨Nat.le_of_ble_eq_true rfl, Nat.le_of_ble_eq_true rfl⟩ hK hP.1 rfl ⟨hP.1, hP.2⟩ rfl hl.1 rfl (Nat.le_of_ble_eq_true rfl) d_Sl_keptIn_2 ⟨Nat.le_of_ble_eq_true rfl, Nat.le_of_ble_eq_true rfl⟩ (g_r rfl ?_)
  refine g_zeq (tgt := 17) C0 d_Sl_keptIn_5 (by decide) (fun c_5 => ?_) (fun c_5 => ?_)
  · exact absurd c_5 (by rw [inR_nI (by omega)]; simp; omega)
  · skip
    refine lv_aload_n hx hb d_Sl_keptIn_8 rfl (lv_at hl 0 rfl) ?_
    refine g_get C0 hK il_Sl hP.1 rfl 0 (by decide) fl_Sl_11 rfl d_Sl_keptIn_9 ?_
    refine lv_iload_n hx hb d_Sl_keptIn_12 rfl (lv_at hl 1 rfl) ?_
    refine g_aald C0 hK 4 hP.2 rfl (by omega) (by omega) d_Sl_keptIn_13 ?_
    rw [ho]
    show W p l e _ s m args below meth c s.heap [] 0 0 _ (F0 m _ ls [.null])
    refine lv_goto (tgt := 18) hx hb d_Sl_keptIn_14 (by decide) ?_
    refine g_aret C0 hlk hr (Or.inl rfl) d_Sl_keptIn_18 (t_nil (free := noF)) ?_
    exact ⟨rfl, rfl⟩

set_option maxHeartbeats 4000000 in
set_option maxRecDepth 100000 in
theorem k_Sl_keptInS (l : Launch) (G : gT) (v : Nat) (o : Nat → Option Nat) (i z : Nat) (hi : i < 2) (ho : o i = some z) : gM l y_Sl_keptIn c_Sl_keptIn 2 (some (.object "GaleNames$State")) 1 21 0 0 G [.ref v, .int (nI i)] (fun H => SlAt G v o H) (rd (.ref z)) noF := by
  refine g_enter "GaleNames$Slots" (by decide +kernel) rfl (Nat.le_of_ble_eq_true rfl) ?_
  intro p e s m args below meth c C0 hlk hr hnm hP hK ls hl
  have hx := C0.1
  have hb := C0.2.1
  have hl : lv_has ls 2 [(0, .ref v), (1, .int (nI i))] := hl
  refine lv_aload_n hx hb d_Sl_keptIn_0 rfl (lv_at hl 0 rfl) ?_
  refine lv_iload_n hx hb d_Sl_keptIn_1 rfl (lv_at hl 1 rfl) ?_
  refine g_V C0 (k_Sl_has l G v o (nI i)) co_Sl_has im_Sl_has se_Sl_has in_Sl gc_Sl_has ml_Sl_17 ⟨Nat.le_of_ble_eq_true rfl, Nat.le_of_ble_eq_true rfl⟩ hK hP.1 rfl ⟨hP.1, hP.2⟩ rfl hl.1 rfl (Nat.le_of_ble_eq_true rfl) d_Sl_keptIn_2 ⟨Nat.le_of_ble_eq_true rfl, Nat.le_of_ble_eq_true rfl⟩ (g_r rfl ?_)
  refine g_zeq (tgt := 17) C0 d_Sl_keptIn_5 (by decide) (fun c_5 => ?_) (fun c_5 => ?_)
  · exact absurd c_5 (by rw [inR_nI (by omega)]; simp; omega)
  · skip
    refine lv_aload_n hx hb d_Sl_keptIn_8 rfl (lv_at hl 0 rfl) ?_
    refine g_get C0 hK il_Sl hP.1 rfl 0 (by decide) fl_Sl_11 rfl d_Sl_keptIn_9 ?_
    refine lv_iload_n hx hb d_Sl_keptIn_12 rfl (lv_at hl 1 rfl) ?_
    refine g_aald C0 hK 4 hP.2 rfl (by omega) (by omega) d_Sl_keptIn_13 ?_
    rw [ho]
    show W p l e _ s m args below meth c s.heap [] 0 0 _ (F0 m _ ls [.ref z])
    refine lv_goto (tgt := 18) hx hb d_Sl_keptIn_14 (by decide) ?_
    refine g_aret C0 hlk hr (Or.inr ⟨_, rfl⟩) d_Sl_keptIn_18 (t_nil (free := noF)) ?_
    exact ⟨rfl, rfl⟩

set_option maxHeartbeats 4000000 in
set_option maxRecDepth 100000 in
theorem k_Sl_keepN (l : Launch) (G : gT) (v : Nat) (o : Nat → Option Nat) (i b z : Nat) (Y : ST) (hi : i < 2) (ho : o i = none) (hv : v + 1 < z) (hb : b + 36 ≤ z) : gM l y_Sl_keep c_Sl_keep 4 none 4 84 36 342 G [.ref v, .int (nI i), .ref b] (fun H => SlAt G v o H ∧ StAt G b Y H ∧ H.size = z) (wv (fun H H1 => H1.size = z + 36 ∧ SlAt G v (va_up o i (some z)) H1 ∧ StAt G z (cpL inS Y 17) H1 ∧ ∀ q, q < z → q ≠ v + 1 → H1[q]? = H[q]?)) (fun q => q = v + 1 ∨ z ≤ q) := by
  refine g_enter "GaleNames$Slots" (by decide +kernel) rfl (Nat.le_of_ble_eq_true rfl) ?_
  intro p e s m args below meth c C0 hlk hr hnm hP hK ls hl
  have hx := C0.1
  have hb := C0.2.1
  have hl : lv_has ls 4 [(0, .ref v), (1, .int (nI i)), (2, .ref b)] := hl
  refine lv_aload_n hx hb d_Sl_keep_0 rfl (lv_at hl 0 rfl) ?_
  refine lv_iload_n hx hb d_Sl_keep_1 rfl (lv_at hl 1 rfl) ?_
  refine g_V C0 (k_Sl_has l G v o (nI i)) co_Sl_has im_Sl_has se_Sl_has in_Sl gc_Sl_has ml_Sl_17 ⟨Nat.le_of_ble_eq_true rfl, Nat.le_of_ble_eq_true rfl⟩ hK hP.1.1 rfl ⟨hP.1.1, hP.1.2⟩ rfl hl.1 rfl (Nat.le_of_ble_eq_true rfl) d_Sl_keep_2 ⟨Nat.le_of_ble_eq_true rfl, Nat.le_of_ble_eq_true rfl⟩ (g_r rfl ?_)
  refine g_zne (tgt := 9) C0 d_Sl_keep_5 (by decide) (fun c_5 => ?_) (fun c_5 => ?_)
  · skip
    refine lv_aload_n hx hb d_Sl_keep_9 rfl (lv_at hl 0 rfl) ?_
    refine lv_iload_n hx hb d_Sl_keep_10 rfl (lv_at hl 1 rfl) ?_
    refine g_V C0 (k_Sl_keptInN l G v o i (by omega) ho) co_Sl_keptIn im_Sl_keptIn se_Sl_keptIn in_Sl gc_Sl_keptIn ml_Sl_21 ⟨Nat.le_of_ble_eq_true rfl, Nat.le_of_ble_eq_true rfl⟩ hK hP.1.1 rfl ⟨hP.1.1, hP.1.2⟩ rfl hl.1 rfl (Nat.le_of_ble_eq_true rfl) d_Sl_keep_11 ⟨Nat.le_of_ble_eq_true rfl, Nat.le_of_ble_eq_true rfl⟩ (g_r rfl ?_)
    refine lv_astore_nN (lv' := [(3, .null), (0, .ref v), (1, .int (nI i)), (2, .ref b)]) hx hb d_Sl_keep_14 rfl hl (by decide) rfl (fun ls hl => ?_)
    refine lv_aload_nN hx hb d_Sl_keep_15 rfl (lv_at hl 0 rfl) ?_
    refine lv_ifnonnullN hx hb d_Sl_keep_16 ?_
    refine g_new (ci := 4) (fs := [.int 0, .null, .null, .null, .null, .null, .null, .null, .null, .null, .null, .null, .null]) C0 hK il_St t_St tk_St cl_Sl_9 is_St in_St rfl (dv_St) (Nat.le_of_ble_eq_true rfl) (Nat.le_of_ble_eq_true rfl) d_Sl_keep_19 hP.2.2 (fun H_1 hA_2 hz_3 hq_4 => ?_)
    refine W.widen (k := 1) (n := 13) (by omega) (by omega) ?_
    refine lv_dup hx hb d_Sl_keep_22 rfl ?_
    refine g_I C0 (k_St_init l G z) co_St_init im_St_init rfl in_St gc_St_init ml_Sl_25 ⟨Nat.le_of_ble_eq_true rfl, Nat.le_of_ble_eq_true rfl⟩ hK ⟨hz_3, hA_2⟩ rfl hl.1 rfl (Nat.le_of_ble_eq_true rfl) d_Sl_keep_23 ⟨Nat.le_of_ble_eq_true rfl, Nat.le_of_ble_eq_true rfl⟩ (g_wa (free := fun q => q = v + 1 ∨ z ≤ q) (t_nil (free := fun q => q = v + 1 ∨ z ≤ q)) (fun q h => Or.inr h) (fun H_5 locs hL ⟨hz_6, hR_7, hg_8⟩ => ?_))
    refine W.widen (k := 36) (n := 342) (by omega) (by omega) ?_
    refine lv_astore_n (lv' := [(3, .ref z), (0, .ref v), (1, .int (nI i)), (2, .ref b)]) hx hb d_Sl_keep_26 rfl hl (by decide) rfl (fun ls hl => ?_)
    refine lv_aload_n hx hb d_Sl_keep_27 rfl (lv_at hl 0 rfl) ?_
    refine lv_aload_n hx hb d_Sl_keep_28 rfl (lv_at hl 3 rfl) ?_
    refine g_V C0 (k_St_copy l G z inS b Y (by omega)) co_St_copy im_St_copy se_St_copy in_St gc_St_copy ml_Sl_26 ⟨Nat.le_of_ble_eq_true rfl, Nat.le_of_ble_eq_true rfl⟩ hK hR_7.1 rfl ⟨hR_7, ((hP.2.1.nw hq_4 (by omega)).gr hg_8 (by omega))⟩ rfl hl.1 rfl (Nat.le_of_ble_eq_true rfl) d_Sl_keep_29 ⟨Nat.le_of_ble_eq_true rfl, Nat.le_of_ble_eq_true rfl⟩ (g_wv (free := fun q => q = v + 1 ∨ z ≤ q) hL (fun q h => Or.inr h.1) (fun H_9 locs hL ⟨hR_10, hf_11⟩ => ?_))
    refine lv_aload_n hx hb d_Sl_keep_32 rfl (lv_at hl 1 rfl) ?_
    refine g_get C0 hK il_Sl (((hP.1.1.nw hq_4 (by omega)).gr hg_8 (by omega)).fr hf_11 (by omega)) rfl 0 (by decide) fl_Sl_11 rfl d_Sl_keep_33 ?_
    refine lv_iload_n hx hb d_Sl_keep_36 rfl (lv_at hl 2 rfl) ?_
    refine lv_aload_n hx hb d_Sl_keep_37 rfl (lv_at hl 0 rfl) ?_
    refine g_aast (free := fun q => q = v + 1 ∨ z ≤ q) C0 hK 4 (((hP.1.2.nw hq_4 (by omega)).gr hg_8 (by omega)).fr hf_11 (by omega)) rfl hR_10.1 rfl (by omega) (by omega) d_Sl_keep_38 hL (Or.inl rfl) (fun H_12 locs hL hA_13 hc_14 => ?_)
    refine g_vret C0 hlk hr d_Sl_keep_39 hL ?_
    exact ⟨rfl, (hc_14.1.trans (hf_11.1.trans hz_6)), ⟨((((hP.1.1.nw hq_4 (by omega)).gr hg_8 (by omega)).fr hf_11 (by omega)).ch hc_14 (by omega)), hA_13⟩, (hR_10.ch hc_14 (by omega)), fun q h1 h2 => ((hc_14.2 q (by omega)).trans ((hf_11.2 q (by omega)).trans ((hg_8.2 q (by omega)).trans (hq_4 q (by omega)))))⟩
  · exact absurd c_5 (by rw [inR_nI (by omega)]; simp; omega)

set_option maxHeartbeats 4000000 in
set_option maxRecDepth 100000 in
theorem k_Sl_keepS (l : Launch) (G : gT) (v : Nat) (o : Nat → Option Nat) (i b z : Nat) (Y U : ST) (hi : i < 2) (ho : o i = some z) (hv : v + 1 < z ∨ z + 36 ≤ v) (hv2 : v + 1 < b ∨ b + 36 ≤ v) (hb : b + 36 ≤ z ∨ z + 36 ≤ b) : gM l y_Sl_keep c_Sl_keep 4 none 4 84 36 342 G [.ref v, .int (nI i), .ref b] (fun H => SlAt G v o H ∧ StAt G b Y H ∧ StAt G z U H) (wv (fun H H1 => H1.size = H.size ∧ SlAt G v (va_up o i (some z)) H1 ∧ StAt G z (cpL U Y 17) H1 ∧ ∀ q, (q < z ∨ z + 36 ≤ q) → q ≠ v + 1 → H1[q]? = H[q]?)) (fun q => q = v + 1 ∨ gRg z (z + 36) q) := by
  refine g_enter "GaleNames$Slots" (by decide +kernel) rfl (Nat.le_of_ble_eq_true rfl) ?_
  intro p e s m args below meth c C0 hlk hr hnm hP hK ls hl
  have hx := C0.1
  have hb := C0.2.1
  have hl : lv_has ls 4 [(0, .ref v), (1, .int (nI i)), (2, .ref b)] := hl
  refine lv_aload_n hx hb d_Sl_keep_0 rfl (lv_at hl 0 rfl) ?_
  refine lv_iload_n hx hb d_Sl_keep_1 rfl (lv_at hl 1 rfl) ?_
  refine g_V C0 (k_Sl_has l G v o (nI i)) co_Sl_has im_Sl_has se_Sl_has in_Sl gc_Sl_has ml_Sl_17 ⟨Nat.le_of_ble_eq_true rfl, Nat.le_of_ble_eq_true rfl⟩ hK hP.1.1 rfl ⟨hP.1.1, hP.1.2⟩ rfl hl.1 rfl (Nat.le_of_ble_eq_true rfl) d_Sl_keep_2 ⟨Nat.le_of_ble_eq_true rfl, Nat.le_of_ble_eq_true rfl⟩ (g_r rfl ?_)
  refine g_zne (tgt := 9) C0 d_Sl_keep_5 (by decide) (fun c_5 => ?_) (fun c_5 => ?_)
  · skip
    refine lv_aload_n hx hb d_Sl_keep_9 rfl (lv_at hl 0 rfl) ?_
    refine lv_iload_n hx hb d_Sl_keep_10 rfl (lv_at hl 1 rfl) ?_
    refine g_V C0 (k_Sl_keptInS l G v o i z (by omega) ho) co_Sl_keptIn im_Sl_keptIn se_Sl_keptIn in_Sl gc_Sl_keptIn ml_Sl_21 ⟨Nat.le_of_ble_eq_true rfl, Nat.le_of_ble_eq_true rfl⟩ hK hP.1.1 rfl ⟨hP.1.1, hP.1.2⟩ rfl hl.1 rfl (Nat.le_of_ble_eq_true rfl) d_Sl_keep_11 ⟨Nat.le_of_ble_eq_true rfl, Nat.le_of_ble_eq_true rfl⟩ (g_r rfl ?_)
    refine lv_astore_n (lv' := [(3, .ref z), (0, .ref v), (1, .int (nI i)), (2, .ref b)]) hx hb d_Sl_keep_14 rfl hl (by decide) rfl (fun ls hl => ?_)
    refine lv_aload_n hx hb d_Sl_keep_15 rfl (lv_at hl 0 rfl) ?_
    refine lv_ifnonnull (tgt := 27) hx hb d_Sl_keep_16 (by decide) ?_
    refine lv_aload_n hx hb d_Sl_keep_27 rfl (lv_at hl 0 rfl) ?_
    refine lv_aload_n hx hb d_Sl_keep_28 rfl (lv_at hl 3 rfl) ?_
    refine g_V C0 (k_St_copy l G z U b Y (by omega)) co_St_copy im_St_copy se_St_copy in_St gc_St_copy ml_Sl_26 ⟨Nat.le_of_ble_eq_true rfl, Nat.le_of_ble_eq_true rfl⟩ hK hP.2.2.1 rfl ⟨hP.2.2, hP.2.1⟩ rfl hl.1 rfl (Nat.le_of_ble_eq_true rfl) d_Sl_keep_29 ⟨Nat.le_of_ble_eq_true rfl, Nat.le_of_ble_eq_true rfl⟩ (g_wv (free := fun q => q = v + 1 ∨ gRg z (z + 36) q) (t_nil (free := fun q => q = v + 1 ∨ gRg z (z + 36) q)) (fun q h => Or.inr h) (fun H_1 locs hL ⟨hR_2, hf_3⟩ => ?_))
    refine lv_aload_n hx hb d_Sl_keep_32 rfl (lv_at hl 1 rfl) ?_
    refine g_get C0 hK il_Sl (hP.1.1.fr hf_3 (by omega)) rfl 0 (by decide) fl_Sl_11 rfl d_Sl_keep_33 ?_
    refine lv_iload_n hx hb d_Sl_keep_36 rfl (lv_at hl 2 rfl) ?_
    refine lv_aload_n hx hb d_Sl_keep_37 rfl (lv_at hl 0 rfl) ?_
    refine g_aast (free := fun q => q = v + 1 ∨ gRg z (z + 36) q) C0 hK 4 (hP.1.2.fr hf_3 (by omega)) rfl hR_2.1 rfl (by omega) (by omega) d_Sl_keep_38 hL (Or.inl rfl) (fun H_4 locs hL hA_5 hc_6 => ?_)
    refine W.widen (k := 36) (n := 342) (by omega) (by omega) ?_
    refine g_vret C0 hlk hr d_Sl_keep_39 hL ?_
    exact ⟨rfl, (hc_6.1.trans (hf_3.1.trans rfl)), ⟨((hP.1.1.fr hf_3 (by omega)).ch hc_6 (by omega)), hA_5⟩, (hR_2.ch hc_6 (by omega)), fun q h1 h2 => ((hc_6.2 q (by omega)).trans (hf_3.2 q (by omega)))⟩
  · exact absurd c_5 (by rw [inR_nI (by omega)]; simp; omega)
