set_option maxHeartbeats 4000000 in
set_option maxRecDepth 100000 in
theorem k_Mo_in (l : Launch) (G : gT) (x lo hi : Int32) : gM l y_Mo_in c_Mo_in 3 (some .boolean) 0 0 0 0 G [.int x, .int lo, .int hi] (fun _ => True) (rd (.int (bI (inD x lo hi)))) noF := by
  refine g_enter "GaleNamesModel" (by decide +kernel) rfl (Nat.le_of_ble_eq_true rfl) ?_
  intro p e s m args below meth c C0 hlk hr hnm hP hK ls hl
  have hx := C0.1
  have hb := C0.2.1
  have hl : lv_has ls 3 [(0, .int x), (1, .int lo), (2, .int hi)] := hl
  refine lv_iload_n hx hb d_Mo_in_0 rfl (lv_at hl 0 rfl) ?_
  refine lv_iload_n hx hb d_Mo_in_1 rfl (lv_at hl 1 rfl) ?_
  refine lv_icmp_lt (tgt := 14) hx hb d_Mo_in_2 (by decide) (fun c_2 => ?_) (fun c_2 => ?_)
  · skip
    refine lv_iconst (v := nI 0) hx hb d_Mo_in_14 (by decide +kernel) ?_
    refine g_zret (b := false) C0 hlk hr d_Mo_in_15 (t_nil (free := noF)) ?_
    exact ⟨rdB (inD_l c_2), rfl⟩
  · skip
    refine lv_iload_n hx hb d_Mo_in_5 rfl (lv_at hl 0 rfl) ?_
    refine lv_iload_n hx hb d_Mo_in_6 rfl (lv_at hl 2 rfl) ?_
    refine lv_icmp_gt (tgt := 14) hx hb d_Mo_in_7 (by decide) (fun c_7 => ?_) (fun c_7 => ?_)
    · skip
      refine lv_iconst (v := nI 0) hx hb d_Mo_in_14 (by decide +kernel) ?_
      refine g_zret (b := false) C0 hlk hr d_Mo_in_15 (t_nil (free := noF)) ?_
      exact ⟨rdB (inD_h2 c_7), rfl⟩
    · skip
      refine lv_iconst (v := nI 1) hx hb d_Mo_in_10 (by decide +kernel) ?_
      refine lv_goto (tgt := 15) hx hb d_Mo_in_11 (by decide) ?_
      refine g_zret (b := true) C0 hlk hr d_Mo_in_15 (t_nil (free := noF)) ?_
      exact ⟨rdB (inD_y2 c_2 c_7), rfl⟩

set_option maxHeartbeats 4000000 in
set_option maxRecDepth 100000 in
theorem k_Mo_n (l : Launch) (G : gT) (a : Nat) : gM l y_Mo_n c_Mo_n 1 (some .int) 0 0 0 0 G [.int (nI a)] (fun _ => True) (rd (.int (nI (9 + 10 * a)))) noF := by
  refine g_enter "GaleNamesModel" (by decide +kernel) rfl (Nat.le_of_ble_eq_true rfl) ?_
  intro p e s m args below meth c C0 hlk hr hnm hP hK ls hl
  have hx := C0.1
  have hb := C0.2.1
  have hl : lv_has ls 1 [(0, .int (nI a))] := hl
  refine lv_bipush (v := nI 9) hx hb d_Mo_n_0 (by decide +kernel) ?_
  refine lv_bipush (v := nI 10) hx hb d_Mo_n_2 (by decide +kernel) ?_
  refine lv_iload_n hx hb d_Mo_n_4 rfl (lv_at hl 0 rfl) ?_
  refine g_imul C0 (z := 10 * a) d_Mo_n_5 rfl ?_
  refine g_iadd C0 (z := 9 + (10 * a)) d_Mo_n_6 rfl ?_
  refine g_iret C0 hlk hr d_Mo_n_7 (t_nil (free := noF)) ?_
  exact ⟨rfl, rfl⟩

set_option maxHeartbeats 4000000 in
set_option maxRecDepth 100000 in
theorem k_Mo_l (l : Launch) (G : gT) (a k : Nat) : gM l y_Mo_l c_Mo_l 2 (some .int) 0 0 0 0 G [.int (nI a), .int (nI k)] (fun _ => True) (rd (.int (nI (409 + 27 * a + 9 * k)))) noF := by
  refine g_enter "GaleNamesModel" (by decide +kernel) rfl (Nat.le_of_ble_eq_true rfl) ?_
  intro p e s m args below meth c C0 hlk hr hnm hP hK ls hl
  have hx := C0.1
  have hb := C0.2.1
  have hl : lv_has ls 2 [(0, .int (nI a)), (1, .int (nI k))] := hl
  refine lv_sipush (v := nI 409) hx hb d_Mo_l_0 (by decide +kernel) ?_
  refine lv_bipush (v := nI 27) hx hb d_Mo_l_3 (by decide +kernel) ?_
  refine lv_iload_n hx hb d_Mo_l_5 rfl (lv_at hl 0 rfl) ?_
  refine g_imul C0 (z := 27 * a) d_Mo_l_6 rfl ?_
  refine g_iadd C0 (z := 409 + (27 * a)) d_Mo_l_7 rfl ?_
  refine lv_bipush (v := nI 9) hx hb d_Mo_l_8 (by decide +kernel) ?_
  refine lv_iload_n hx hb d_Mo_l_10 rfl (lv_at hl 1 rfl) ?_
  refine g_imul C0 (z := 9 * k) d_Mo_l_11 rfl ?_
  refine g_iadd C0 (z := 409 + (27 * a) + (9 * k)) d_Mo_l_12 rfl ?_
  refine g_iret C0 hlk hr d_Mo_l_13 (t_nil (free := noF)) ?_
  exact ⟨rfl, rfl⟩

set_option maxHeartbeats 4000000 in
set_option maxRecDepth 100000 in
theorem k_Mo_g (l : Launch) (G : gT) (a : Nat) : gM l y_Mo_g c_Mo_g 1 (some .int) 0 0 0 0 G [.int (nI a)] (fun _ => True) (rd (.int (nI (463 + 3 * a)))) noF := by
  refine g_enter "GaleNamesModel" (by decide +kernel) rfl (Nat.le_of_ble_eq_true rfl) ?_
  intro p e s m args below meth c C0 hlk hr hnm hP hK ls hl
  have hx := C0.1
  have hb := C0.2.1
  have hl : lv_has ls 1 [(0, .int (nI a))] := hl
  refine lv_sipush (v := nI 463) hx hb d_Mo_g_0 (by decide +kernel) ?_
  refine lv_iconst (v := nI 3) hx hb d_Mo_g_3 (by decide +kernel) ?_
  refine lv_iload_n hx hb d_Mo_g_4 rfl (lv_at hl 0 rfl) ?_
  refine g_imul C0 (z := 3 * a) d_Mo_g_5 rfl ?_
  refine g_iadd C0 (z := 463 + (3 * a)) d_Mo_g_6 rfl ?_
  refine g_iret C0 hlk hr d_Mo_g_7 (t_nil (free := noF)) ?_
  exact ⟨rfl, rfl⟩

set_option maxHeartbeats 4000000 in
set_option maxRecDepth 100000 in
theorem k_Mo_k (l : Launch) (G : gT) (a : Nat) : gM l y_Mo_k c_Mo_k 1 (some .int) 0 0 0 0 G [.int (nI a)] (fun _ => True) (rd (.int (nI (511 + 3 * a)))) noF := by
  refine g_enter "GaleNamesModel" (by decide +kernel) rfl (Nat.le_of_ble_eq_true rfl) ?_
  intro p e s m args below meth c C0 hlk hr hnm hP hK ls hl
  have hx := C0.1
  have hb := C0.2.1
  have hl : lv_has ls 1 [(0, .int (nI a))] := hl
  refine lv_sipush (v := nI 511) hx hb d_Mo_k_0 (by decide +kernel) ?_
  refine lv_iconst (v := nI 3) hx hb d_Mo_k_3 (by decide +kernel) ?_
  refine lv_iload_n hx hb d_Mo_k_4 rfl (lv_at hl 0 rfl) ?_
  refine g_imul C0 (z := 3 * a) d_Mo_k_5 rfl ?_
  refine g_iadd C0 (z := 511 + (3 * a)) d_Mo_k_6 rfl ?_
  refine g_iret C0 hlk hr d_Mo_k_7 (t_nil (free := noF)) ?_
  exact ⟨rfl, rfl⟩

set_option maxHeartbeats 4000000 in
set_option maxRecDepth 100000 in
theorem k_Mo_isName (l : Launch) (G : gT) (o : Nat) (S sp bf sv iz rr pd : Nat → Nat) (ln sts td ac : Nat) (x : Int32) (hM : mOk S) : gM l y_Mo_isName c_Mo_isName 2 (some .boolean) 1 22 0 0 G [.ref o, .int x] (fun H => MAt G o S sp bf sv iz rr pd ln sts td ac H) (rd (.int (bI (inR x (S 4))))) noF := by
  refine g_enter "GaleNamesModel" (by decide +kernel) rfl (Nat.le_of_ble_eq_true rfl) ?_
  intro p e s m args below meth c C0 hlk hr hnm hP hK ls hl
  have hx := C0.1
  have hb := C0.2.1
  have hl : lv_has ls 2 [(0, .ref o), (1, .int x)] := hl
  have hn40 := hM.n
  have hg16 := hM.g
  have hk10 := hM.k
  refine lv_iload_n hx hb d_Mo_isName_0 rfl (lv_at hl 1 rfl) ?_
  refine lv_iconst (v := nI 0) hx hb d_Mo_isName_1 (by decide +kernel) ?_
  refine lv_aload_n hx hb d_Mo_isName_2 rfl (lv_at hl 0 rfl) ?_
  refine g_get C0 hK il_Mo hP.1 rfl 0 (by decide) fl_Mo_7 rfl d_Mo_isName_3 ?_
  refine lv_iconst (v := nI 4) hx hb d_Mo_isName_6 (by decide +kernel) ?_
  refine g_iald C0 hK hP.2.1 (by omega) (by omega) d_Mo_isName_7 ?_
  refine lv_iconst (v := nI 1) hx hb d_Mo_isName_8 (by decide +kernel) ?_
  refine lv_isub hx hb d_Mo_isName_9 ?_
  refine g_S C0 (k_Mo_in l G x (nI 0) ((nI (S 4)) - (nI 1))) co_Mo_in sm_Mo_in in_Mo gc_Mo_in ml_Mo_33 ⟨Nat.le_of_ble_eq_true rfl, Nat.le_of_ble_eq_true rfl⟩ hK trivial rfl hl.1 rfl (Nat.le_of_ble_eq_true rfl) d_Mo_isName_10 ⟨Nat.le_of_ble_eq_true rfl, Nat.le_of_ble_eq_true rfl⟩ (g_r rfl ?_)
  refine g_zret C0 hlk hr d_Mo_isName_13 (t_nil (free := noF)) ?_
  exact ⟨rdB (inD_R (hM.b (by decide))).symm, rfl⟩

set_option maxHeartbeats 4000000 in
set_option maxRecDepth 100000 in
theorem k_Mo_isStorm (l : Launch) (G : gT) (o : Nat) (S sp bf sv iz rr pd : Nat → Nat) (ln sts td ac : Nat) (x : Int32) (hM : mOk S) : gM l y_Mo_isStorm c_Mo_isStorm 2 (some .boolean) 1 22 0 0 G [.ref o, .int x] (fun H => MAt G o S sp bf sv iz rr pd ln sts td ac H) (rd (.int (bI (inR x (S 5))))) noF := by
  refine g_enter "GaleNamesModel" (by decide +kernel) rfl (Nat.le_of_ble_eq_true rfl) ?_
  intro p e s m args below meth c C0 hlk hr hnm hP hK ls hl
  have hx := C0.1
  have hb := C0.2.1
  have hl : lv_has ls 2 [(0, .ref o), (1, .int x)] := hl
  have hn40 := hM.n
  have hg16 := hM.g
  have hk10 := hM.k
  refine lv_iload_n hx hb d_Mo_isStorm_0 rfl (lv_at hl 1 rfl) ?_
  refine lv_iconst (v := nI 0) hx hb d_Mo_isStorm_1 (by decide +kernel) ?_
  refine lv_aload_n hx hb d_Mo_isStorm_2 rfl (lv_at hl 0 rfl) ?_
  refine g_get C0 hK il_Mo hP.1 rfl 0 (by decide) fl_Mo_7 rfl d_Mo_isStorm_3 ?_
  refine lv_iconst (v := nI 5) hx hb d_Mo_isStorm_6 (by decide +kernel) ?_
  refine g_iald C0 hK hP.2.1 (by omega) (by omega) d_Mo_isStorm_7 ?_
  refine lv_iconst (v := nI 1) hx hb d_Mo_isStorm_8 (by decide +kernel) ?_
  refine lv_isub hx hb d_Mo_isStorm_9 ?_
  refine g_S C0 (k_Mo_in l G x (nI 0) ((nI (S 5)) - (nI 1))) co_Mo_in sm_Mo_in in_Mo gc_Mo_in ml_Mo_33 ⟨Nat.le_of_ble_eq_true rfl, Nat.le_of_ble_eq_true rfl⟩ hK trivial rfl hl.1 rfl (Nat.le_of_ble_eq_true rfl) d_Mo_isStorm_10 ⟨Nat.le_of_ble_eq_true rfl, Nat.le_of_ble_eq_true rfl⟩ (g_r rfl ?_)
  refine g_zret C0 hlk hr d_Mo_isStorm_13 (t_nil (free := noF)) ?_
  exact ⟨rdB (inD_R (hM.b (by decide))).symm, rfl⟩

set_option maxHeartbeats 4000000 in
set_option maxRecDepth 100000 in
theorem k_Mo_isSake (l : Launch) (G : gT) (o : Nat) (S sp bf sv iz rr pd : Nat → Nat) (ln sts td ac : Nat) (x : Int32) (hM : mOk S) : gM l y_Mo_isSake c_Mo_isSake 2 (some .boolean) 1 22 0 0 G [.ref o, .int x] (fun H => MAt G o S sp bf sv iz rr pd ln sts td ac H) (rd (.int (bI (inR x (S 7))))) noF := by
  refine g_enter "GaleNamesModel" (by decide +kernel) rfl (Nat.le_of_ble_eq_true rfl) ?_
  intro p e s m args below meth c C0 hlk hr hnm hP hK ls hl
  have hx := C0.1
  have hb := C0.2.1
  have hl : lv_has ls 2 [(0, .ref o), (1, .int x)] := hl
  have hn40 := hM.n
  have hg16 := hM.g
  have hk10 := hM.k
  refine lv_iload_n hx hb d_Mo_isSake_0 rfl (lv_at hl 1 rfl) ?_
  refine lv_iconst (v := nI 0) hx hb d_Mo_isSake_1 (by decide +kernel) ?_
  refine lv_aload_n hx hb d_Mo_isSake_2 rfl (lv_at hl 0 rfl) ?_
  refine g_get C0 hK il_Mo hP.1 rfl 0 (by decide) fl_Mo_7 rfl d_Mo_isSake_3 ?_
  refine lv_bipush (v := nI 7) hx hb d_Mo_isSake_6 (by decide +kernel) ?_
  refine g_iald C0 hK hP.2.1 (by omega) (by omega) d_Mo_isSake_8 ?_
  refine lv_iconst (v := nI 1) hx hb d_Mo_isSake_9 (by decide +kernel) ?_
  refine lv_isub hx hb d_Mo_isSake_10 ?_
  refine g_S C0 (k_Mo_in l G x (nI 0) ((nI (S 7)) - (nI 1))) co_Mo_in sm_Mo_in in_Mo gc_Mo_in ml_Mo_33 ⟨Nat.le_of_ble_eq_true rfl, Nat.le_of_ble_eq_true rfl⟩ hK trivial rfl hl.1 rfl (Nat.le_of_ble_eq_true rfl) d_Mo_isSake_11 ⟨Nat.le_of_ble_eq_true rfl, Nat.le_of_ble_eq_true rfl⟩ (g_r rfl ?_)
  refine g_zret C0 hlk hr d_Mo_isSake_14 (t_nil (free := noF)) ?_
  exact ⟨rdB (inD_R (hM.b (by decide))).symm, rfl⟩

set_option maxHeartbeats 4000000 in
set_option maxRecDepth 100000 in
theorem k_Mo_isList (l : Launch) (G : gT) (x y : Int32) : gM l y_Mo_isList c_Mo_isList 2 (some .boolean) 1 22 0 0 G [.int x, .int y] (fun _ => True) (rd (.int (bI (inL x y)))) noF := by
  refine g_enter "GaleNamesModel" (by decide +kernel) rfl (Nat.le_of_ble_eq_true rfl) ?_
  intro p e s m args below meth c C0 hlk hr hnm hP hK ls hl
  have hx := C0.1
  have hb := C0.2.1
  have hl : lv_has ls 2 [(0, .int x), (1, .int y)] := hl
  refine lv_iload_n hx hb d_Mo_isList_0 rfl (lv_at hl 0 rfl) ?_
  refine lv_iconst (v := nI 0) hx hb d_Mo_isList_1 (by decide +kernel) ?_
  refine lv_iconst (v := nI 1) hx hb d_Mo_isList_2 (by decide +kernel) ?_
  refine g_S C0 (k_Mo_in l G x (nI 0) (nI 1)) co_Mo_in sm_Mo_in in_Mo gc_Mo_in ml_Mo_33 ⟨Nat.le_of_ble_eq_true rfl, Nat.le_of_ble_eq_true rfl⟩ hK trivial rfl hl.1 rfl (Nat.le_of_ble_eq_true rfl) d_Mo_isList_3 ⟨Nat.le_of_ble_eq_true rfl, Nat.le_of_ble_eq_true rfl⟩ (g_r rfl ?_)
  refine g_zeq (tgt := 22) C0 d_Mo_isList_6 (by decide) (fun c_6 => ?_) (fun c_6 => ?_)
  · skip
    refine lv_iconst (v := nI 0) hx hb d_Mo_isList_22 (by decide +kernel) ?_
    refine g_zret (b := false) C0 hlk hr d_Mo_isList_23 (t_nil (free := noF)) ?_
    exact ⟨rdB (by unfold inL; rw [← inD_c (x := x) (h := 1) (by decide), ← inD_c (x := y) (h := 2) (by decide), c_6, Bool.false_and]), rfl⟩
  · skip
    refine lv_iload_n hx hb d_Mo_isList_9 rfl (lv_at hl 1 rfl) ?_
    refine lv_iconst (v := nI 0) hx hb d_Mo_isList_10 (by decide +kernel) ?_
    refine lv_iconst (v := nI 2) hx hb d_Mo_isList_11 (by decide +kernel) ?_
    refine g_S C0 (k_Mo_in l G y (nI 0) (nI 2)) co_Mo_in sm_Mo_in in_Mo gc_Mo_in ml_Mo_33 ⟨Nat.le_of_ble_eq_true rfl, Nat.le_of_ble_eq_true rfl⟩ hK trivial rfl hl.1 rfl (Nat.le_of_ble_eq_true rfl) d_Mo_isList_12 ⟨Nat.le_of_ble_eq_true rfl, Nat.le_of_ble_eq_true rfl⟩ (g_r rfl ?_)
    refine g_zeq (tgt := 22) C0 d_Mo_isList_15 (by decide) (fun c_15 => ?_) (fun c_15 => ?_)
    · skip
      refine lv_iconst (v := nI 0) hx hb d_Mo_isList_22 (by decide +kernel) ?_
      refine g_zret (b := false) C0 hlk hr d_Mo_isList_23 (t_nil (free := noF)) ?_
      exact ⟨rdB (by unfold inL; rw [← inD_c (x := x) (h := 1) (by decide), ← inD_c (x := y) (h := 2) (by decide), c_6, c_15]; rfl), rfl⟩
    · skip
      refine lv_iconst (v := nI 1) hx hb d_Mo_isList_18 (by decide +kernel) ?_
      refine lv_goto (tgt := 23) hx hb d_Mo_isList_19 (by decide) ?_
      refine g_zret (b := true) C0 hlk hr d_Mo_isList_23 (t_nil (free := noF)) ?_
      exact ⟨rdB (by unfold inL; rw [← inD_c (x := x) (h := 1) (by decide), ← inD_c (x := y) (h := 2) (by decide), c_6, c_15]; rfl), rfl⟩

set_option maxHeartbeats 4000000 in
set_option maxRecDepth 100000 in
theorem k_Mo_known (l : Launch) (G : gT) (o : Nat) (S sp bf sv iz rr pd : Nat → Nat) (ln sts td ac : Nat) (w : Nat) (hw : w < td) (hM : mOk S) (hR : rOk rr pd td) : gM l y_Mo_known c_Mo_known 6 (some .int) 1 20 0 0 G [.ref o, .int (nI w)] (fun H => MAt G o S sp bf sv iz rr pd ln sts td ac H) (rd (.int (oI (-6) (mKn S rr pd w)))) noF := by
  refine g_enter "GaleNamesModel" (by decide +kernel) rfl (Nat.le_of_ble_eq_true rfl) ?_
  intro p e s m args below meth c C0 hlk hr hnm hP hK ls hl
  have hx := C0.1
  have hb := C0.2.1
  have hl : lv_has ls 6 [(0, .ref o), (1, .int (nI w))] := hl
  have hn40 := hM.n
  have hg16 := hM.g
  have hk10 := hM.k
  have htd := hR.1
  have hwa := hR.a hw
  have hwl := hR.l hw
  refine lv_bipush (v := -6) hx hb d_Mo_known_0 (by decide +kernel) ?_
  refine lv_istore_n (lv' := [(2, .int (-6)), (0, .ref o), (1, .int (nI w))]) hx hb d_Mo_known_2 rfl hl (by decide) rfl (fun ls hl => ?_)
  refine lv_iconst (v := nI 0) hx hb d_Mo_known_3 (by decide +kernel) ?_
  refine lv_istore_n (lv' := [(3, .int (nI 0)), (2, .int (-6)), (0, .ref o), (1, .int (nI w))]) hx hb d_Mo_known_4 rfl hl (by decide) rfl (fun ls hl => ?_)
  have lp5 : ∀ (fu : Nat) (i : Nat) (f : Option Nat), (S 4 - i) < fu → i ≤ S 4 → f = lF (mtB S rr pd w) i → ∀ ls : Array Slot, lv_has ls 6 [(3, .int (nI i)), (2, .int (oI (-6) f)), (0, .ref o), (1, .int (nI w))] → W p l e ({ frames := 1, cells := 0, slots := 0, locals := 20 } : Room) s m args below meth c s.heap [] 0 0 (MQ below (gQ (rd (.int (oI (-6) (mKn S rr pd w))))) args s 0 0 noF) (F0 m 5 ls []) := by
    intro fu
    induction fu with
    | zero => intro i f  hfu; exact absurd hfu (Nat.not_lt_zero _)
    | succ fu ih5 =>
      intro i f hfu hi hf2 ls hl
      refine lv_iload_n hx hb d_Mo_known_5 rfl (lv_at hl 0 rfl) ?_
      refine lv_aload_n hx hb d_Mo_known_6 rfl (lv_at hl 2 rfl) ?_
      refine g_get C0 hK il_Mo hP.1 rfl 0 (by decide) fl_Mo_7 rfl d_Mo_known_7 ?_
      refine lv_iconst (v := nI 4) hx hb d_Mo_known_10 (by decide +kernel) ?_
      refine g_iald C0 hK hP.2.1 (by omega) (by omega) d_Mo_known_11 ?_
      refine g_cge (tgt := 130) C0 d_Mo_known_12 (by decide) (by first | omega | exact hM.b (by omega) | exact hR.p (by omega)) (by first | omega | exact hM.b (by omega) | exact hR.p (by omega)) (fun c_12 => ?_) (fun c_12 => ?_)
      · skip
        refine lv_iload_n hx hb d_Mo_known_130 rfl (lv_at hl 1 rfl) ?_
        refine g_iret C0 hlk hr d_Mo_known_131 (t_nil (free := noF)) ?_
        exact ⟨rdI (by rw [hf2, show i = S 4 by omega]; rfl), rfl⟩
      · skip
        refine lv_aload_n hx hb d_Mo_known_15 rfl (lv_at hl 2 rfl) ?_
        refine g_get C0 hK il_Mo hP.1 rfl 0 (by decide) fl_Mo_7 rfl d_Mo_known_16 ?_
        refine lv_iload_n hx hb d_Mo_known_19 rfl (lv_at hl 0 rfl) ?_
        refine g_S C0 (k_Mo_n l G i) co_Mo_n sm_Mo_n in_Mo gc_Mo_n ml_Mo_57 ⟨Nat.le_of_ble_eq_true rfl, Nat.le_of_ble_eq_true rfl⟩ hK trivial rfl hl.1 rfl (Nat.le_of_ble_eq_true rfl) d_Mo_known_20 ⟨Nat.le_of_ble_eq_true rfl, Nat.le_of_ble_eq_true rfl⟩ (g_r rfl ?_)
        refine g_iald C0 hK hP.2.1 (by omega) (by omega) d_Mo_known_23 ?_
        refine lv_aload_n hx hb d_Mo_known_24 rfl (lv_at hl 2 rfl) ?_
        refine g_get C0 hK il_Mo hP.1 rfl 5 (by decide) fl_Mo_26 rfl d_Mo_known_25 ?_
        refine lv_iconst (v := nI 2) hx hb d_Mo_known_28 (by decide +kernel) ?_
        refine lv_iload_n hx hb d_Mo_known_29 rfl (lv_at hl 3 rfl) ?_
        refine g_imul C0 (z := 2 * w) d_Mo_known_30 rfl ?_
        refine lv_iconst (v := nI 1) hx hb d_Mo_known_31 (by decide +kernel) ?_
        refine g_iadd C0 (z := 2 * w + 1) d_Mo_known_32 rfl ?_
        refine g_iald C0 hK hP.2.2.2.2.2.2.1 (by omega) (by omega) d_Mo_known_33 ?_
        refine g_cne (tgt := 41) C0 d_Mo_known_34 (by decide) (by first | omega | exact hM.b (by omega) | exact hR.p (by omega)) (by first | omega | exact hM.b (by omega) | exact hR.p (by omega)) (fun c_34 => ?_) (fun c_34 => ?_)
        · skip
          refine lv_iconst (v := nI 0) hx hb d_Mo_known_41 (by decide +kernel) ?_
          refine lv_istore (lv' := [(4, .int (nI 0)), (3, .int (nI i)), (2, .int (oI (-6) f)), (0, .ref o), (1, .int (nI w))]) hx hb d_Mo_known_42 hl (by decide) rfl (fun ls hl => ?_)
          refine lv_iconst (v := nI 0) hx hb d_Mo_known_44 (by decide +kernel) ?_
          refine lv_istore (lv' := [(5, .int (nI 0)), (4, .int (nI 0)), (3, .int (nI i)), (2, .int (oI (-6) f)), (0, .ref o), (1, .int (nI w))]) hx hb d_Mo_known_45 hl (by decide) rfl (fun ls hl => ?_)
          have lp47 : ∀ (fu : Nat) (k : Nat) (b : Bool), (rr (2 * w + 1) - k) < fu → k ≤ rr (2 * w + 1) → b = (S (9 + 10 * i) == rr (2 * w + 1) && !aN (fun j => S (9 + 10 * i + 1 + j) != pd (rr (2 * w) + j)) k) → ∀ ls : Array Slot, lv_has ls 6 [(5, .int (nI k)), (4, .int (bI b)), (3, .int (nI i)), (2, .int (oI (-6) f)), (0, .ref o), (1, .int (nI w))] → W p l e ({ frames := 1, cells := 0, slots := 0, locals := 20 } : Room) s m args below meth c s.heap [] 0 0 (MQ below (gQ (rd (.int (oI (-6) (mKn S rr pd w))))) args s 0 0 noF) (F0 m 47 ls []) := by
            intro fu
            induction fu with
            | zero => intro k b  hfu; exact absurd hfu (Nat.not_lt_zero _)
            | succ fu ih47 =>
              intro k b hfu hk hbb ls hl
              refine lv_iload hx hb d_Mo_known_47 (lv_at hl 0 rfl) ?_
              refine lv_aload_n hx hb d_Mo_known_49 rfl (lv_at hl 4 rfl) ?_
              refine g_get C0 hK il_Mo hP.1 rfl 5 (by decide) fl_Mo_26 rfl d_Mo_known_50 ?_
              refine lv_iconst (v := nI 2) hx hb d_Mo_known_53 (by decide +kernel) ?_
              refine lv_iload_n hx hb d_Mo_known_54 rfl (lv_at hl 5 rfl) ?_
              refine g_imul C0 (z := 2 * w) d_Mo_known_55 rfl ?_
              refine lv_iconst (v := nI 1) hx hb d_Mo_known_56 (by decide +kernel) ?_
              refine g_iadd C0 (z := 2 * w + 1) d_Mo_known_57 rfl ?_
              refine g_iald C0 hK hP.2.2.2.2.2.2.1 (by omega) (by omega) d_Mo_known_58 ?_
              refine g_cge (tgt := 113) C0 d_Mo_known_59 (by decide) (by first | omega | exact hM.b (by omega) | exact hR.p (by omega)) (by first | omega | exact hM.b (by omega) | exact hR.p (by omega)) (fun c_59 => ?_) (fun c_59 => ?_)
              · skip
                have hmb : mtB S rr pd w i = b := by
                  unfold mtB
                  rw [show rr (2 * w + 1) = k by omega] at hbb ⊢; exact hbb.symm
                refine lv_iload hx hb d_Mo_known_113 (lv_at hl 1 rfl) ?_
                refine g_zeq (tgt := 122) C0 d_Mo_known_115 (by decide) (fun c_115 => ?_) (fun c_115 => ?_)
                · skip
                  have hmt : mtB S rr pd w i = false := hmb.trans c_115
                  refine lv_iload_n hx hb d_Mo_known_122 rfl (lv_at hl 3 rfl) ?_
                  refine lv_istore_n (lv' := [(2, .int (oI (-6) f)), (5, .int (nI k)), (4, .int (bI b)), (3, .int (nI i)), (0, .ref o), (1, .int (nI w))]) hx hb d_Mo_known_123 rfl hl (by decide) rfl (fun ls hl => ?_)
                  refine lv_iinc (v := (nI (i + 1))) (lv' := [(3, .int (nI (i + 1))), (2, .int (oI (-6) f)), (5, .int (nI k)), (4, .int (bI b)), (0, .ref o), (1, .int (nI w))]) hx hb d_Mo_known_124 hl (k := 3) rfl (gI_inc _) (by decide) rfl (fun ls hl => ?_)
                  refine lv_goto (tgt := 5) hx hb d_Mo_known_127 (by decide) ?_
                  exact ih5 (i + 1) f (by omega) (by omega) (by rw [lF_f hmt, ← hf2]) ls (lv_sub hl [0, 1, 4, 5] rfl)
                · skip
                  have hmt : mtB S rr pd w i = true := hmb.trans c_115
                  refine lv_iload_n hx hb d_Mo_known_118 rfl (lv_at hl 2 rfl) ?_
                  refine lv_goto (tgt := 123) hx hb d_Mo_known_119 (by decide) ?_
                  refine lv_istore_n (lv' := [(2, .int (nI i)), (5, .int (nI k)), (4, .int (bI b)), (3, .int (nI i)), (0, .ref o), (1, .int (nI w))]) hx hb d_Mo_known_123 rfl hl (by decide) rfl (fun ls hl => ?_)
                  refine lv_iinc (v := (nI (i + 1))) (lv' := [(3, .int (nI (i + 1))), (2, .int (nI i)), (5, .int (nI k)), (4, .int (bI b)), (0, .ref o), (1, .int (nI w))]) hx hb d_Mo_known_124 hl (k := 3) rfl (gI_inc _) (by decide) rfl (fun ls hl => ?_)
                  refine lv_goto (tgt := 5) hx hb d_Mo_known_127 (by decide) ?_
                  exact ih5 (i + 1) (some i) (by omega) (by omega) (by rw [lF_t hmt]) ls (lv_sub hl [0, 1, 4, 5] rfl)
              · skip
                refine lv_iload hx hb d_Mo_known_62 (lv_at hl 1 rfl) ?_
                refine g_zeq (tgt := 113) C0 d_Mo_known_64 (by decide) (fun c_64 => ?_) (fun c_64 => ?_)
                · skip
                  have hmb : mtB S rr pd w i = b := by
                    unfold mtB
                    rw [c_64] at hbb ⊢; exact mtB_f hbb.symm hk
                  refine lv_iload hx hb d_Mo_known_113 (lv_at hl 1 rfl) ?_
                  refine g_zeq (tgt := 122) C0 d_Mo_known_115 (by decide) (fun c_115 => ?_) (fun c_115 => ?_)
                  · skip
                    have hmt : mtB S rr pd w i = false := hmb.trans c_115
                    refine lv_iload_n hx hb d_Mo_known_122 rfl (lv_at hl 3 rfl) ?_
                    refine lv_istore_n (lv' := [(2, .int (oI (-6) f)), (5, .int (nI k)), (4, .int (bI b)), (3, .int (nI i)), (0, .ref o), (1, .int (nI w))]) hx hb d_Mo_known_123 rfl hl (by decide) rfl (fun ls hl => ?_)
                    refine lv_iinc (v := (nI (i + 1))) (lv' := [(3, .int (nI (i + 1))), (2, .int (oI (-6) f)), (5, .int (nI k)), (4, .int (bI b)), (0, .ref o), (1, .int (nI w))]) hx hb d_Mo_known_124 hl (k := 3) rfl (gI_inc _) (by decide) rfl (fun ls hl => ?_)
                    refine lv_goto (tgt := 5) hx hb d_Mo_known_127 (by decide) ?_
                    exact ih5 (i + 1) f (by omega) (by omega) (by rw [lF_f hmt, ← hf2]) ls (lv_sub hl [0, 1, 4, 5] rfl)
                  · skip
                    have hmt : mtB S rr pd w i = true := hmb.trans c_115
                    refine lv_iload_n hx hb d_Mo_known_118 rfl (lv_at hl 2 rfl) ?_
                    refine lv_goto (tgt := 123) hx hb d_Mo_known_119 (by decide) ?_
                    refine lv_istore_n (lv' := [(2, .int (nI i)), (5, .int (nI k)), (4, .int (bI b)), (3, .int (nI i)), (0, .ref o), (1, .int (nI w))]) hx hb d_Mo_known_123 rfl hl (by decide) rfl (fun ls hl => ?_)
                    refine lv_iinc (v := (nI (i + 1))) (lv' := [(3, .int (nI (i + 1))), (2, .int (nI i)), (5, .int (nI k)), (4, .int (bI b)), (0, .ref o), (1, .int (nI w))]) hx hb d_Mo_known_124 hl (k := 3) rfl (gI_inc _) (by decide) rfl (fun ls hl => ?_)
                    refine lv_goto (tgt := 5) hx hb d_Mo_known_127 (by decide) ?_
                    exact ih5 (i + 1) (some i) (by omega) (by omega) (by rw [lF_t hmt]) ls (lv_sub hl [0, 1, 4, 5] rfl)
                · skip
                  refine lv_aload_n hx hb d_Mo_known_67 rfl (lv_at hl 4 rfl) ?_
                  refine g_get C0 hK il_Mo hP.1 rfl 0 (by decide) fl_Mo_7 rfl d_Mo_known_68 ?_
                  refine lv_iload_n hx hb d_Mo_known_71 rfl (lv_at hl 2 rfl) ?_
                  refine g_S C0 (k_Mo_n l G i) co_Mo_n sm_Mo_n in_Mo gc_Mo_n ml_Mo_57 ⟨Nat.le_of_ble_eq_true rfl, Nat.le_of_ble_eq_true rfl⟩ hK trivial rfl hl.1 rfl (Nat.le_of_ble_eq_true rfl) d_Mo_known_72 ⟨Nat.le_of_ble_eq_true rfl, Nat.le_of_ble_eq_true rfl⟩ (g_r rfl ?_)
                  refine lv_iconst (v := nI 1) hx hb d_Mo_known_75 (by decide +kernel) ?_
                  refine g_iadd C0 (z := 9 + 10 * i + 1) d_Mo_known_76 rfl ?_
                  refine lv_iload hx hb d_Mo_known_77 (lv_at hl 0 rfl) ?_
                  refine g_iadd C0 (z := 9 + 10 * i + 1 + k) d_Mo_known_79 rfl ?_
                  refine g_iald C0 hK hP.2.1 (by omega) (by omega) d_Mo_known_80 ?_
                  refine lv_aload_n hx hb d_Mo_known_81 rfl (lv_at hl 4 rfl) ?_
                  refine g_get C0 hK il_Mo hP.1 rfl 6 (by decide) fl_Mo_29 rfl d_Mo_known_82 ?_
                  refine lv_aload_n hx hb d_Mo_known_85 rfl (lv_at hl 4 rfl) ?_
                  refine g_get C0 hK il_Mo hP.1 rfl 5 (by decide) fl_Mo_26 rfl d_Mo_known_86 ?_
                  refine lv_iconst (v := nI 2) hx hb d_Mo_known_89 (by decide +kernel) ?_
                  refine lv_iload_n hx hb d_Mo_known_90 rfl (lv_at hl 5 rfl) ?_
                  refine g_imul C0 (z := 2 * w) d_Mo_known_91 rfl ?_
                  refine g_iald C0 hK hP.2.2.2.2.2.2.1 (by omega) (by omega) d_Mo_known_92 ?_
                  refine lv_iload hx hb d_Mo_known_93 (lv_at hl 0 rfl) ?_
                  refine g_iadd C0 (z := rr (2 * w) + k) d_Mo_known_95 rfl ?_
                  refine g_cald C0 hK hP.2.2.2.2.2.2.2 (by omega) (by omega) d_Mo_known_96 ?_
                  refine g_cne (tgt := 104) C0 d_Mo_known_97 (by decide) (by first | omega | exact hM.b (by omega) | exact hR.p (by omega)) (by first | omega | exact hM.b (by omega) | exact hR.p (by omega)) (fun c_97 => ?_) (fun c_97 => ?_)
                  · skip
                    refine lv_iconst (v := nI 0) hx hb d_Mo_known_104 (by decide +kernel) ?_
                    refine lv_istore (lv' := [(4, .int (nI 0)), (5, .int (nI k)), (3, .int (nI i)), (2, .int (oI (-6) f)), (0, .ref o), (1, .int (nI w))]) hx hb d_Mo_known_105 hl (by decide) rfl (fun ls hl => ?_)
                    refine lv_iinc (v := (nI (k + 1))) (lv' := [(5, .int (nI (k + 1))), (4, .int (nI 0)), (3, .int (nI i)), (2, .int (oI (-6) f)), (0, .ref o), (1, .int (nI w))]) hx hb d_Mo_known_107 hl (k := 1) rfl (gI_inc _) (by decide) rfl (fun ls hl => ?_)
                    refine lv_goto (tgt := 47) hx hb d_Mo_known_110 (by decide) ?_
                    exact ih47 (k + 1) false (by omega) (by omega) (by rw [aN_s]; rw [c_64] at hbb; have h2 := hbb.symm; rw [Bool.and_eq_true] at h2; rw [h2.1, Bool.true_and]; have h3 := h2.2; rw [Bool.not_eq_true'] at h3; rw [h3]; simp [c_97]) ls (lv_sub hl [0, 1, 2, 3, 4, 5] rfl)
                  · skip
                    refine lv_iconst (v := nI 1) hx hb d_Mo_known_100 (by decide +kernel) ?_
                    refine lv_goto (tgt := 105) hx hb d_Mo_known_101 (by decide) ?_
                    refine lv_istore (lv' := [(4, .int (nI 1)), (5, .int (nI k)), (3, .int (nI i)), (2, .int (oI (-6) f)), (0, .ref o), (1, .int (nI w))]) hx hb d_Mo_known_105 hl (by decide) rfl (fun ls hl => ?_)
                    refine lv_iinc (v := (nI (k + 1))) (lv' := [(5, .int (nI (k + 1))), (4, .int (nI 1)), (3, .int (nI i)), (2, .int (oI (-6) f)), (0, .ref o), (1, .int (nI w))]) hx hb d_Mo_known_107 hl (k := 1) rfl (gI_inc _) (by decide) rfl (fun ls hl => ?_)
                    refine lv_goto (tgt := 47) hx hb d_Mo_known_110 (by decide) ?_
                    exact ih47 (k + 1) true (by omega) (by omega) (by rw [aN_s]; rw [c_64] at hbb; have h2 := hbb.symm; rw [Bool.and_eq_true] at h2; rw [h2.1, Bool.true_and]; have h3 := h2.2; rw [Bool.not_eq_true'] at h3; rw [h3]; simp [c_97]) ls (lv_sub hl [0, 1, 2, 3, 4, 5] rfl)
          exact lp47 ((rr (2 * w + 1) - 0) + 1) 0 false (by omega) (by omega) (by simp [aN, c_34]) ls (lv_sub hl [0, 1, 2, 3, 4, 5] rfl)
        · skip
          refine lv_iconst (v := nI 1) hx hb d_Mo_known_37 (by decide +kernel) ?_
          refine lv_goto (tgt := 42) hx hb d_Mo_known_38 (by decide) ?_
          refine lv_istore (lv' := [(4, .int (nI 1)), (3, .int (nI i)), (2, .int (oI (-6) f)), (0, .ref o), (1, .int (nI w))]) hx hb d_Mo_known_42 hl (by decide) rfl (fun ls hl => ?_)
          refine lv_iconst (v := nI 0) hx hb d_Mo_known_44 (by decide +kernel) ?_
          refine lv_istore (lv' := [(5, .int (nI 0)), (4, .int (nI 1)), (3, .int (nI i)), (2, .int (oI (-6) f)), (0, .ref o), (1, .int (nI w))]) hx hb d_Mo_known_45 hl (by decide) rfl (fun ls hl => ?_)
          have lp47 : ∀ (fu : Nat) (k : Nat) (b : Bool), (rr (2 * w + 1) - k) < fu → k ≤ rr (2 * w + 1) → b = (S (9 + 10 * i) == rr (2 * w + 1) && !aN (fun j => S (9 + 10 * i + 1 + j) != pd (rr (2 * w) + j)) k) → ∀ ls : Array Slot, lv_has ls 6 [(5, .int (nI k)), (4, .int (bI b)), (3, .int (nI i)), (2, .int (oI (-6) f)), (0, .ref o), (1, .int (nI w))] → W p l e ({ frames := 1, cells := 0, slots := 0, locals := 20 } : Room) s m args below meth c s.heap [] 0 0 (MQ below (gQ (rd (.int (oI (-6) (mKn S rr pd w))))) args s 0 0 noF) (F0 m 47 ls []) := by
            intro fu
            induction fu with
            | zero => intro k b  hfu; exact absurd hfu (Nat.not_lt_zero _)
            | succ fu ih47 =>
              intro k b hfu hk hbb ls hl
              refine lv_iload hx hb d_Mo_known_47 (lv_at hl 0 rfl) ?_
              refine lv_aload_n hx hb d_Mo_known_49 rfl (lv_at hl 4 rfl) ?_
              refine g_get C0 hK il_Mo hP.1 rfl 5 (by decide) fl_Mo_26 rfl d_Mo_known_50 ?_
              refine lv_iconst (v := nI 2) hx hb d_Mo_known_53 (by decide +kernel) ?_
              refine lv_iload_n hx hb d_Mo_known_54 rfl (lv_at hl 5 rfl) ?_
              refine g_imul C0 (z := 2 * w) d_Mo_known_55 rfl ?_
              refine lv_iconst (v := nI 1) hx hb d_Mo_known_56 (by decide +kernel) ?_
              refine g_iadd C0 (z := 2 * w + 1) d_Mo_known_57 rfl ?_
              refine g_iald C0 hK hP.2.2.2.2.2.2.1 (by omega) (by omega) d_Mo_known_58 ?_
              refine g_cge (tgt := 113) C0 d_Mo_known_59 (by decide) (by first | omega | exact hM.b (by omega) | exact hR.p (by omega)) (by first | omega | exact hM.b (by omega) | exact hR.p (by omega)) (fun c_59 => ?_) (fun c_59 => ?_)
              · skip
                have hmb : mtB S rr pd w i = b := by
                  unfold mtB
                  rw [show rr (2 * w + 1) = k by omega] at hbb ⊢; exact hbb.symm
                refine lv_iload hx hb d_Mo_known_113 (lv_at hl 1 rfl) ?_
                refine g_zeq (tgt := 122) C0 d_Mo_known_115 (by decide) (fun c_115 => ?_) (fun c_115 => ?_)
                · skip
                  have hmt : mtB S rr pd w i = false := hmb.trans c_115
                  refine lv_iload_n hx hb d_Mo_known_122 rfl (lv_at hl 3 rfl) ?_
                  refine lv_istore_n (lv' := [(2, .int (oI (-6) f)), (5, .int (nI k)), (4, .int (bI b)), (3, .int (nI i)), (0, .ref o), (1, .int (nI w))]) hx hb d_Mo_known_123 rfl hl (by decide) rfl (fun ls hl => ?_)
                  refine lv_iinc (v := (nI (i + 1))) (lv' := [(3, .int (nI (i + 1))), (2, .int (oI (-6) f)), (5, .int (nI k)), (4, .int (bI b)), (0, .ref o), (1, .int (nI w))]) hx hb d_Mo_known_124 hl (k := 3) rfl (gI_inc _) (by decide) rfl (fun ls hl => ?_)
                  refine lv_goto (tgt := 5) hx hb d_Mo_known_127 (by decide) ?_
                  exact ih5 (i + 1) f (by omega) (by omega) (by rw [lF_f hmt, ← hf2]) ls (lv_sub hl [0, 1, 4, 5] rfl)
                · skip
                  have hmt : mtB S rr pd w i = true := hmb.trans c_115
                  refine lv_iload_n hx hb d_Mo_known_118 rfl (lv_at hl 2 rfl) ?_
                  refine lv_goto (tgt := 123) hx hb d_Mo_known_119 (by decide) ?_
                  refine lv_istore_n (lv' := [(2, .int (nI i)), (5, .int (nI k)), (4, .int (bI b)), (3, .int (nI i)), (0, .ref o), (1, .int (nI w))]) hx hb d_Mo_known_123 rfl hl (by decide) rfl (fun ls hl => ?_)
                  refine lv_iinc (v := (nI (i + 1))) (lv' := [(3, .int (nI (i + 1))), (2, .int (nI i)), (5, .int (nI k)), (4, .int (bI b)), (0, .ref o), (1, .int (nI w))]) hx hb d_Mo_known_124 hl (k := 3) rfl (gI_inc _) (by decide) rfl (fun ls hl => ?_)
                  refine lv_goto (tgt := 5) hx hb d_Mo_known_127 (by decide) ?_
                  exact ih5 (i + 1) (some i) (by omega) (by omega) (by rw [lF_t hmt]) ls (lv_sub hl [0, 1, 4, 5] rfl)
              · skip
                refine lv_iload hx hb d_Mo_known_62 (lv_at hl 1 rfl) ?_
                refine g_zeq (tgt := 113) C0 d_Mo_known_64 (by decide) (fun c_64 => ?_) (fun c_64 => ?_)
                · skip
                  have hmb : mtB S rr pd w i = b := by
                    unfold mtB
                    rw [c_64] at hbb ⊢; exact mtB_f hbb.symm hk
                  refine lv_iload hx hb d_Mo_known_113 (lv_at hl 1 rfl) ?_
                  refine g_zeq (tgt := 122) C0 d_Mo_known_115 (by decide) (fun c_115 => ?_) (fun c_115 => ?_)
                  · skip
                    have hmt : mtB S rr pd w i = false := hmb.trans c_115
                    refine lv_iload_n hx hb d_Mo_known_122 rfl (lv_at hl 3 rfl) ?_
                    refine lv_istore_n (lv' := [(2, .int (oI (-6) f)), (5, .int (nI k)), (4, .int (bI b)), (3, .int (nI i)), (0, .ref o), (1, .int (nI w))]) hx hb d_Mo_known_123 rfl hl (by decide) rfl (fun ls hl => ?_)
                    refine lv_iinc (v := (nI (i + 1))) (lv' := [(3, .int (nI (i + 1))), (2, .int (oI (-6) f)), (5, .int (nI k)), (4, .int (bI b)), (0, .ref o), (1, .int (nI w))]) hx hb d_Mo_known_124 hl (k := 3) rfl (gI_inc _) (by decide) rfl (fun ls hl => ?_)
                    refine lv_goto (tgt := 5) hx hb d_Mo_known_127 (by decide) ?_
                    exact ih5 (i + 1) f (by omega) (by omega) (by rw [lF_f hmt, ← hf2]) ls (lv_sub hl [0, 1, 4, 5] rfl)
                  · skip
                    have hmt : mtB S rr pd w i = true := hmb.trans c_115
                    refine lv_iload_n hx hb d_Mo_known_118 rfl (lv_at hl 2 rfl) ?_
                    refine lv_goto (tgt := 123) hx hb d_Mo_known_119 (by decide) ?_
                    refine lv_istore_n (lv' := [(2, .int (nI i)), (5, .int (nI k)), (4, .int (bI b)), (3, .int (nI i)), (0, .ref o), (1, .int (nI w))]) hx hb d_Mo_known_123 rfl hl (by decide) rfl (fun ls hl => ?_)
                    refine lv_iinc (v := (nI (i + 1))) (lv' := [(3, .int (nI (i + 1))), (2, .int (nI i)), (5, .int (nI k)), (4, .int (bI b)), (0, .ref o), (1, .int (nI w))]) hx hb d_Mo_known_124 hl (k := 3) rfl (gI_inc _) (by decide) rfl (fun ls hl => ?_)
                    refine lv_goto (tgt := 5) hx hb d_Mo_known_127 (by decide) ?_
                    exact ih5 (i + 1) (some i) (by omega) (by omega) (by rw [lF_t hmt]) ls (lv_sub hl [0, 1, 4, 5] rfl)
                · skip
                  refine lv_aload_n hx hb d_Mo_known_67 rfl (lv_at hl 4 rfl) ?_
                  refine g_get C0 hK il_Mo hP.1 rfl 0 (by decide) fl_Mo_7 rfl d_Mo_known_68 ?_
                  refine lv_iload_n hx hb d_Mo_known_71 rfl (lv_at hl 2 rfl) ?_
                  refine g_S C0 (k_Mo_n l G i) co_Mo_n sm_Mo_n in_Mo gc_Mo_n ml_Mo_57 ⟨Nat.le_of_ble_eq_true rfl, Nat.le_of_ble_eq_true rfl⟩ hK trivial rfl hl.1 rfl (Nat.le_of_ble_eq_true rfl) d_Mo_known_72 ⟨Nat.le_of_ble_eq_true rfl, Nat.le_of_ble_eq_true rfl⟩ (g_r rfl ?_)
                  refine lv_iconst (v := nI 1) hx hb d_Mo_known_75 (by decide +kernel) ?_
                  refine g_iadd C0 (z := 9 + 10 * i + 1) d_Mo_known_76 rfl ?_
                  refine lv_iload hx hb d_Mo_known_77 (lv_at hl 0 rfl) ?_
                  refine g_iadd C0 (z := 9 + 10 * i + 1 + k) d_Mo_known_79 rfl ?_
                  refine g_iald C0 hK hP.2.1 (by omega) (by omega) d_Mo_known_80 ?_
                  refine lv_aload_n hx hb d_Mo_known_81 rfl (lv_at hl 4 rfl) ?_
                  refine g_get C0 hK il_Mo hP.1 rfl 6 (by decide) fl_Mo_29 rfl d_Mo_known_82 ?_
                  refine lv_aload_n hx hb d_Mo_known_85 rfl (lv_at hl 4 rfl) ?_
                  refine g_get C0 hK il_Mo hP.1 rfl 5 (by decide) fl_Mo_26 rfl d_Mo_known_86 ?_
                  refine lv_iconst (v := nI 2) hx hb d_Mo_known_89 (by decide +kernel) ?_
                  refine lv_iload_n hx hb d_Mo_known_90 rfl (lv_at hl 5 rfl) ?_
                  refine g_imul C0 (z := 2 * w) d_Mo_known_91 rfl ?_
                  refine g_iald C0 hK hP.2.2.2.2.2.2.1 (by omega) (by omega) d_Mo_known_92 ?_
                  refine lv_iload hx hb d_Mo_known_93 (lv_at hl 0 rfl) ?_
                  refine g_iadd C0 (z := rr (2 * w) + k) d_Mo_known_95 rfl ?_
                  refine g_cald C0 hK hP.2.2.2.2.2.2.2 (by omega) (by omega) d_Mo_known_96 ?_
                  refine g_cne (tgt := 104) C0 d_Mo_known_97 (by decide) (by first | omega | exact hM.b (by omega) | exact hR.p (by omega)) (by first | omega | exact hM.b (by omega) | exact hR.p (by omega)) (fun c_97 => ?_) (fun c_97 => ?_)
                  · skip
                    refine lv_iconst (v := nI 0) hx hb d_Mo_known_104 (by decide +kernel) ?_
                    refine lv_istore (lv' := [(4, .int (nI 0)), (5, .int (nI k)), (3, .int (nI i)), (2, .int (oI (-6) f)), (0, .ref o), (1, .int (nI w))]) hx hb d_Mo_known_105 hl (by decide) rfl (fun ls hl => ?_)
                    refine lv_iinc (v := (nI (k + 1))) (lv' := [(5, .int (nI (k + 1))), (4, .int (nI 0)), (3, .int (nI i)), (2, .int (oI (-6) f)), (0, .ref o), (1, .int (nI w))]) hx hb d_Mo_known_107 hl (k := 1) rfl (gI_inc _) (by decide) rfl (fun ls hl => ?_)
                    refine lv_goto (tgt := 47) hx hb d_Mo_known_110 (by decide) ?_
                    exact ih47 (k + 1) false (by omega) (by omega) (by rw [aN_s]; rw [c_64] at hbb; have h2 := hbb.symm; rw [Bool.and_eq_true] at h2; rw [h2.1, Bool.true_and]; have h3 := h2.2; rw [Bool.not_eq_true'] at h3; rw [h3]; simp [c_97]) ls (lv_sub hl [0, 1, 2, 3, 4, 5] rfl)
                  · skip
                    refine lv_iconst (v := nI 1) hx hb d_Mo_known_100 (by decide +kernel) ?_
                    refine lv_goto (tgt := 105) hx hb d_Mo_known_101 (by decide) ?_
                    refine lv_istore (lv' := [(4, .int (nI 1)), (5, .int (nI k)), (3, .int (nI i)), (2, .int (oI (-6) f)), (0, .ref o), (1, .int (nI w))]) hx hb d_Mo_known_105 hl (by decide) rfl (fun ls hl => ?_)
                    refine lv_iinc (v := (nI (k + 1))) (lv' := [(5, .int (nI (k + 1))), (4, .int (nI 1)), (3, .int (nI i)), (2, .int (oI (-6) f)), (0, .ref o), (1, .int (nI w))]) hx hb d_Mo_known_107 hl (k := 1) rfl (gI_inc _) (by decide) rfl (fun ls hl => ?_)
                    refine lv_goto (tgt := 47) hx hb d_Mo_known_110 (by decide) ?_
                    exact ih47 (k + 1) true (by omega) (by omega) (by rw [aN_s]; rw [c_64] at hbb; have h2 := hbb.symm; rw [Bool.and_eq_true] at h2; rw [h2.1, Bool.true_and]; have h3 := h2.2; rw [Bool.not_eq_true'] at h3; rw [h3]; simp [c_97]) ls (lv_sub hl [0, 1, 2, 3, 4, 5] rfl)
          exact lp47 ((rr (2 * w + 1) - 0) + 1) 0 true (by omega) (by omega) (by simp [aN, c_34]) ls (lv_sub hl [0, 1, 2, 3, 4, 5] rfl)
  exact lp5 ((S 4 - 0) + 1) 0 none (by omega) (by omega) rfl ls (lv_sub hl [0, 1, 2, 3] rfl)

set_option maxHeartbeats 4000000 in
set_option maxRecDepth 100000 in
theorem k_Mo_prefix (l : Launch) (G : gT) (o : Nat) (S sp bf sv iz rr pd : Nat → Nat) (ln sts td ac : Nat) (a b : Nat) (ha : a < S 4) (hb2 : b < S 4) (hM : mOk S) : gM l y_Mo_prefix c_Mo_prefix 4 (some .int) 1 20 0 0 G [.ref o, .int (nI a), .int (nI b)] (fun H => MAt G o S sp bf sv iz rr pd ln sts td ac H) (rd (.int (nI (mPx S a b)))) noF := by
  refine g_enter "GaleNamesModel" (by decide +kernel) rfl (Nat.le_of_ble_eq_true rfl) ?_
  intro p e s m args below meth c C0 hlk hr hnm hP hK ls hl
  have hx := C0.1
  have hb := C0.2.1
  have hl : lv_has ls 4 [(0, .ref o), (1, .int (nI a)), (2, .int (nI b))] := hl
  have hn40 := hM.n
  have hg16 := hM.g
  have hk10 := hM.k
  have hla := hM.nl ha
  have hlb := hM.nl hb2
  refine lv_iconst (v := nI 0) hx hb d_Mo_prefix_0 (by decide +kernel) ?_
  refine lv_istore_n (lv' := [(3, .int (nI 0)), (0, .ref o), (1, .int (nI a)), (2, .int (nI b))]) hx hb d_Mo_prefix_1 rfl hl (by decide) rfl (fun ls hl => ?_)
  have lp2 : ∀ (fu : Nat) (i : Nat), (6 - i) < fu → i ≤ 6 → (∀ j, j < i → (fun j => decide (j < S (9 + 10 * a)) && decide (j < S (9 + 10 * b)) && S (9 + 10 * a + 1 + j) == S (9 + 10 * b + 1 + j)) j = true) → ∀ ls : Array Slot, lv_has ls 4 [(3, .int (nI i)), (0, .ref o), (1, .int (nI a)), (2, .int (nI b))] → W p l e ({ frames := 1, cells := 0, slots := 0, locals := 20 } : Room) s m args below meth c s.heap [] 0 0 (MQ below (gQ (rd (.int (nI (mPx S a b))))) args s 0 0 noF) (F0 m 2 ls []) := by
    intro fu
    induction fu with
    | zero => intro i  hfu; exact absurd hfu (Nat.not_lt_zero _)
    | succ fu ih2 =>
      intro i hfu hi hj ls hl
      refine lv_iload_n hx hb d_Mo_prefix_2 rfl (lv_at hl 0 rfl) ?_
      refine lv_aload_n hx hb d_Mo_prefix_3 rfl (lv_at hl 1 rfl) ?_
      refine g_get C0 hK il_Mo hP.1 rfl 0 (by decide) fl_Mo_7 rfl d_Mo_prefix_4 ?_
      refine lv_iload_n hx hb d_Mo_prefix_7 rfl (lv_at hl 2 rfl) ?_
      refine g_S C0 (k_Mo_n l G a) co_Mo_n sm_Mo_n in_Mo gc_Mo_n ml_Mo_57 ⟨Nat.le_of_ble_eq_true rfl, Nat.le_of_ble_eq_true rfl⟩ hK trivial rfl hl.1 rfl (Nat.le_of_ble_eq_true rfl) d_Mo_prefix_8 ⟨Nat.le_of_ble_eq_true rfl, Nat.le_of_ble_eq_true rfl⟩ (g_r rfl ?_)
      refine g_iald C0 hK hP.2.1 (by omega) (by omega) d_Mo_prefix_11 ?_
      refine g_cge (tgt := 63) C0 d_Mo_prefix_12 (by decide) (by first | omega | exact hM.b (by omega) | exact hR.p (by omega)) (by first | omega | exact hM.b (by omega) | exact hR.p (by omega)) (fun c_12 => ?_) (fun c_12 => ?_)
      · skip
        refine lv_iload_n hx hb d_Mo_prefix_63 rfl (lv_at hl 0 rfl) ?_
        refine g_iret C0 hlk hr d_Mo_prefix_64 (t_nil (free := noF)) ?_
        exact ⟨rdI (by rw [mPx, pfx_at (i := i) hi hj (fun h6 => by first | (have q := c_12; simp [Nat.not_lt.mpr q]; done) | (simp [c_12]; done))]), rfl⟩
      · skip
        refine lv_iload_n hx hb d_Mo_prefix_15 rfl (lv_at hl 0 rfl) ?_
        refine lv_aload_n hx hb d_Mo_prefix_16 rfl (lv_at hl 1 rfl) ?_
        refine g_get C0 hK il_Mo hP.1 rfl 0 (by decide) fl_Mo_7 rfl d_Mo_prefix_17 ?_
        refine lv_iload_n hx hb d_Mo_prefix_20 rfl (lv_at hl 3 rfl) ?_
        refine g_S C0 (k_Mo_n l G b) co_Mo_n sm_Mo_n in_Mo gc_Mo_n ml_Mo_57 ⟨Nat.le_of_ble_eq_true rfl, Nat.le_of_ble_eq_true rfl⟩ hK trivial rfl hl.1 rfl (Nat.le_of_ble_eq_true rfl) d_Mo_prefix_21 ⟨Nat.le_of_ble_eq_true rfl, Nat.le_of_ble_eq_true rfl⟩ (g_r rfl ?_)
        refine g_iald C0 hK hP.2.1 (by omega) (by omega) d_Mo_prefix_24 ?_
        refine g_cge (tgt := 63) C0 d_Mo_prefix_25 (by decide) (by first | omega | exact hM.b (by omega) | exact hR.p (by omega)) (by first | omega | exact hM.b (by omega) | exact hR.p (by omega)) (fun c_25 => ?_) (fun c_25 => ?_)
        · skip
          refine lv_iload_n hx hb d_Mo_prefix_63 rfl (lv_at hl 0 rfl) ?_
          refine g_iret C0 hlk hr d_Mo_prefix_64 (t_nil (free := noF)) ?_
          exact ⟨rdI (by rw [mPx, pfx_at (i := i) hi hj (fun h6 => by first | (have q := c_25; simp [Nat.not_lt.mpr q]; done) | (simp [c_25]; done))]), rfl⟩
        · skip
          refine lv_aload_n hx hb d_Mo_prefix_28 rfl (lv_at hl 1 rfl) ?_
          refine g_get C0 hK il_Mo hP.1 rfl 0 (by decide) fl_Mo_7 rfl d_Mo_prefix_29 ?_
          refine lv_iload_n hx hb d_Mo_prefix_32 rfl (lv_at hl 2 rfl) ?_
          refine g_S C0 (k_Mo_n l G a) co_Mo_n sm_Mo_n in_Mo gc_Mo_n ml_Mo_57 ⟨Nat.le_of_ble_eq_true rfl, Nat.le_of_ble_eq_true rfl⟩ hK trivial rfl hl.1 rfl (Nat.le_of_ble_eq_true rfl) d_Mo_prefix_33 ⟨Nat.le_of_ble_eq_true rfl, Nat.le_of_ble_eq_true rfl⟩ (g_r rfl ?_)
          refine lv_iconst (v := nI 1) hx hb d_Mo_prefix_36 (by decide +kernel) ?_
          refine g_iadd C0 (z := 9 + 10 * a + 1) d_Mo_prefix_37 rfl ?_
          refine lv_iload_n hx hb d_Mo_prefix_38 rfl (lv_at hl 0 rfl) ?_
          refine g_iadd C0 (z := 9 + 10 * a + 1 + i) d_Mo_prefix_39 rfl ?_
          refine g_iald C0 hK hP.2.1 (by omega) (by omega) d_Mo_prefix_40 ?_
          refine lv_aload_n hx hb d_Mo_prefix_41 rfl (lv_at hl 1 rfl) ?_
          refine g_get C0 hK il_Mo hP.1 rfl 0 (by decide) fl_Mo_7 rfl d_Mo_prefix_42 ?_
          refine lv_iload_n hx hb d_Mo_prefix_45 rfl (lv_at hl 3 rfl) ?_
          refine g_S C0 (k_Mo_n l G b) co_Mo_n sm_Mo_n in_Mo gc_Mo_n ml_Mo_57 ⟨Nat.le_of_ble_eq_true rfl, Nat.le_of_ble_eq_true rfl⟩ hK trivial rfl hl.1 rfl (Nat.le_of_ble_eq_true rfl) d_Mo_prefix_46 ⟨Nat.le_of_ble_eq_true rfl, Nat.le_of_ble_eq_true rfl⟩ (g_r rfl ?_)
          refine lv_iconst (v := nI 1) hx hb d_Mo_prefix_49 (by decide +kernel) ?_
          refine g_iadd C0 (z := 9 + 10 * b + 1) d_Mo_prefix_50 rfl ?_
          refine lv_iload_n hx hb d_Mo_prefix_51 rfl (lv_at hl 0 rfl) ?_
          refine g_iadd C0 (z := 9 + 10 * b + 1 + i) d_Mo_prefix_52 rfl ?_
          refine g_iald C0 hK hP.2.1 (by omega) (by omega) d_Mo_prefix_53 ?_
          refine g_cne (tgt := 63) C0 d_Mo_prefix_54 (by decide) (by first | omega | exact hM.b (by omega) | exact hR.p (by omega)) (by first | omega | exact hM.b (by omega) | exact hR.p (by omega)) (fun c_54 => ?_) (fun c_54 => ?_)
          · skip
            refine lv_iload_n hx hb d_Mo_prefix_63 rfl (lv_at hl 0 rfl) ?_
            refine g_iret C0 hlk hr d_Mo_prefix_64 (t_nil (free := noF)) ?_
            exact ⟨rdI (by rw [mPx, pfx_at (i := i) hi hj (fun h6 => by first | (have q := c_54; simp [Nat.not_lt.mpr q]; done) | (simp [c_54]; done))]), rfl⟩
          · skip
            refine lv_iinc (v := (nI (i + 1))) (lv' := [(3, .int (nI (i + 1))), (0, .ref o), (1, .int (nI a)), (2, .int (nI b))]) hx hb d_Mo_prefix_57 hl (k := 0) rfl (gI_inc _) (by decide) rfl (fun ls hl => ?_)
            refine lv_goto (tgt := 2) hx hb d_Mo_prefix_60 (by decide) ?_
            exact ih2 (i + 1) (by omega) (by omega) (all_s hj (by simp [c_12, c_25, c_54])) ls (lv_sub hl [0, 1, 2, 3] rfl)
  exact lp2 ((6 - 0) + 1) 0 (by omega) (by omega) all_0 ls (lv_sub hl [0, 1, 2, 3] rfl)

set_option maxHeartbeats 4000000 in
set_option maxRecDepth 100000 in
theorem k_Mo_areAlike (l : Launch) (G : gT) (o : Nat) (S sp bf sv iz rr pd : Nat → Nat) (ln sts td ac : Nat) (a b : Nat) (ha : a < S 4) (hb2 : b < S 4) (hM : mOk S) : gM l y_Mo_areAlike c_Mo_areAlike 3 (some .boolean) 2 43 0 0 G [.ref o, .int (nI a), .int (nI b)] (fun H => MAt G o S sp bf sv iz rr pd ln sts td ac H) (rd (.int (bI (mAl S a b)))) noF := by
  refine g_enter "GaleNamesModel" (by decide +kernel) rfl (Nat.le_of_ble_eq_true rfl) ?_
  intro p e s m args below meth c C0 hlk hr hnm hP hK ls hl
  have hx := C0.1
  have hb := C0.2.1
  have hl : lv_has ls 3 [(0, .ref o), (1, .int (nI a)), (2, .int (nI b))] := hl
  have hn40 := hM.n
  have hg16 := hM.g
  have hk10 := hM.k
  refine lv_iload_n hx hb d_Mo_areAlike_0 rfl (lv_at hl 1 rfl) ?_
  refine lv_iload_n hx hb d_Mo_areAlike_1 rfl (lv_at hl 2 rfl) ?_
  refine g_ceq (tgt := 24) C0 d_Mo_areAlike_2 (by decide) (by first | omega | exact hM.b (by omega) | exact hR.p (by omega)) (by first | omega | exact hM.b (by omega) | exact hR.p (by omega)) (fun c_2 => ?_) (fun c_2 => ?_)
  · skip
    refine lv_iconst (v := nI 0) hx hb d_Mo_areAlike_24 (by decide +kernel) ?_
    refine g_zret (b := false) C0 hlk hr d_Mo_areAlike_25 (t_nil (free := noF)) ?_
    exact ⟨rdB (by simp [mAl, c_2]), rfl⟩
  · skip
    refine lv_aload_n hx hb d_Mo_areAlike_5 rfl (lv_at hl 0 rfl) ?_
    refine lv_iload_n hx hb d_Mo_areAlike_6 rfl (lv_at hl 1 rfl) ?_
    refine lv_iload_n hx hb d_Mo_areAlike_7 rfl (lv_at hl 2 rfl) ?_
    refine g_V C0 (k_Mo_prefix l G o S sp bf sv iz rr pd ln sts td ac a b (by omega) (by omega) hM) co_Mo_prefix im_Mo_prefix se_Mo_prefix in_Mo gc_Mo_prefix ml_Mo_64 ⟨Nat.le_of_ble_eq_true rfl, Nat.le_of_ble_eq_true rfl⟩ hK hP.1 rfl ⟨hP.1, hP.2.1, hP.2.2.1, hP.2.2.2.1, hP.2.2.2.2.1, hP.2.2.2.2.2.1, hP.2.2.2.2.2.2.1, hP.2.2.2.2.2.2.2⟩ rfl hl.1 rfl (Nat.le_of_ble_eq_true rfl) d_Mo_areAlike_8 ⟨Nat.le_of_ble_eq_true rfl, Nat.le_of_ble_eq_true rfl⟩ (g_r rfl ?_)
    refine lv_aload_n hx hb d_Mo_areAlike_11 rfl (lv_at hl 0 rfl) ?_
    refine g_get C0 hK il_Mo hP.1 rfl 0 (by decide) fl_Mo_7 rfl d_Mo_areAlike_12 ?_
    refine lv_iconst (v := nI 2) hx hb d_Mo_areAlike_15 (by decide +kernel) ?_
    refine g_iald C0 hK hP.2.1 (by omega) (by omega) d_Mo_areAlike_16 ?_
    refine g_clt (tgt := 24) C0 d_Mo_areAlike_17 (by decide) (Nat.lt_of_le_of_lt (pfx_le _ _) (by decide)) (by first | omega | exact hM.b (by omega) | exact hR.p (by omega)) (fun c_17 => ?_) (fun c_17 => ?_)
    · skip
      refine lv_iconst (v := nI 0) hx hb d_Mo_areAlike_24 (by decide +kernel) ?_
      refine g_zret (b := false) C0 hlk hr d_Mo_areAlike_25 (t_nil (free := noF)) ?_
      exact ⟨rdB (by simp [mAl, c_2, Nat.not_le.mpr c_17]), rfl⟩
    · skip
      refine lv_iconst (v := nI 1) hx hb d_Mo_areAlike_20 (by decide +kernel) ?_
      refine lv_goto (tgt := 25) hx hb d_Mo_areAlike_21 (by decide) ?_
      refine g_zret (b := true) C0 hlk hr d_Mo_areAlike_25 (t_nil (free := noF)) ?_
      exact ⟨rdB (by simp [mAl, c_2, c_17]), rfl⟩

set_option maxHeartbeats 4000000 in
set_option maxRecDepth 100000 in
theorem k_Mo_samePad (l : Launch) (G : gT) (o : Nat) (S sp bf sv iz rr pd : Nat → Nat) (ln sts td ac : Nat) (w v : Nat) (hw : w < td) (hv : v < td) (hR : rOk rr pd td) : gM l y_Mo_samePad c_Mo_samePad 4 (some .int) 0 0 0 0 G [.ref o, .int (nI w), .int (nI v)] (fun H => MAt G o S sp bf sv iz rr pd ln sts td ac H) (rd (.int (nI (mSp rr pd w v)))) noF := by
  refine g_enter "GaleNamesModel" (by decide +kernel) rfl (Nat.le_of_ble_eq_true rfl) ?_
  intro p e s m args below meth c C0 hlk hr hnm hP hK ls hl
  have hx := C0.1
  have hb := C0.2.1
  have hl : lv_has ls 4 [(0, .ref o), (1, .int (nI w)), (2, .int (nI v))] := hl
  have htd := hR.1
  have hwa := hR.a hw
  have hwl := hR.l hw
  have hva := hR.a hv
  have hvl := hR.l hv
  refine lv_iconst (v := nI 0) hx hb d_Mo_samePad_0 (by decide +kernel) ?_
  refine lv_istore_n (lv' := [(3, .int (nI 0)), (0, .ref o), (1, .int (nI w)), (2, .int (nI v))]) hx hb d_Mo_samePad_1 rfl hl (by decide) rfl (fun ls hl => ?_)
  have lp2 : ∀ (fu : Nat) (i : Nat), (6 - i) < fu → i ≤ 6 → (∀ j, j < i → (fun j => decide (j < rr (2 * w + 1)) && decide (j < rr (2 * v + 1)) && pd (rr (2 * w) + j) == pd (rr (2 * v) + j)) j = true) → ∀ ls : Array Slot, lv_has ls 4 [(3, .int (nI i)), (0, .ref o), (1, .int (nI w)), (2, .int (nI v))] → W p l e ({ frames := 0, cells := 0, slots := 0, locals := 0 } : Room) s m args below meth c s.heap [] 0 0 (MQ below (gQ (rd (.int (nI (mSp rr pd w v))))) args s 0 0 noF) (F0 m 2 ls []) := by
    intro fu
    induction fu with
    | zero => intro i  hfu; exact absurd hfu (Nat.not_lt_zero _)
    | succ fu ih2 =>
      intro i hfu hi hj ls hl
      refine lv_iload_n hx hb d_Mo_samePad_2 rfl (lv_at hl 0 rfl) ?_
      refine lv_aload_n hx hb d_Mo_samePad_3 rfl (lv_at hl 1 rfl) ?_
      refine g_get C0 hK il_Mo hP.1 rfl 5 (by decide) fl_Mo_26 rfl d_Mo_samePad_4 ?_
      refine lv_iconst (v := nI 2) hx hb d_Mo_samePad_7 (by decide +kernel) ?_
      refine lv_iload_n hx hb d_Mo_samePad_8 rfl (lv_at hl 2 rfl) ?_
      refine g_imul C0 (z := 2 * w) d_Mo_samePad_9 rfl ?_
      refine lv_iconst (v := nI 1) hx hb d_Mo_samePad_10 (by decide +kernel) ?_
      refine g_iadd C0 (z := 2 * w + 1) d_Mo_samePad_11 rfl ?_
      refine g_iald C0 hK hP.2.2.2.2.2.2.1 (by omega) (by omega) d_Mo_samePad_12 ?_
      refine g_cge (tgt := 69) C0 d_Mo_samePad_13 (by decide) (by first | omega | exact hR.p (by omega)) (by first | omega | exact hR.p (by omega)) (fun c_13 => ?_) (fun c_13 => ?_)
      · skip
        refine lv_iload_n hx hb d_Mo_samePad_69 rfl (lv_at hl 0 rfl) ?_
        refine g_iret C0 hlk hr d_Mo_samePad_70 (t_nil (free := noF)) ?_
        exact ⟨rdI (by rw [mSp, pfx_at (i := i) hi hj (fun h6 => by first | (have q := c_13; simp [Nat.not_lt.mpr q]; done) | (simp [c_13]; done))]), rfl⟩
      · skip
        refine lv_iload_n hx hb d_Mo_samePad_16 rfl (lv_at hl 0 rfl) ?_
        refine lv_aload_n hx hb d_Mo_samePad_17 rfl (lv_at hl 1 rfl) ?_
        refine g_get C0 hK il_Mo hP.1 rfl 5 (by decide) fl_Mo_26 rfl d_Mo_samePad_18 ?_
        refine lv_iconst (v := nI 2) hx hb d_Mo_samePad_21 (by decide +kernel) ?_
        refine lv_iload_n hx hb d_Mo_samePad_22 rfl (lv_at hl 3 rfl) ?_
        refine g_imul C0 (z := 2 * v) d_Mo_samePad_23 rfl ?_
        refine lv_iconst (v := nI 1) hx hb d_Mo_samePad_24 (by decide +kernel) ?_
        refine g_iadd C0 (z := 2 * v + 1) d_Mo_samePad_25 rfl ?_
        refine g_iald C0 hK hP.2.2.2.2.2.2.1 (by omega) (by omega) d_Mo_samePad_26 ?_
        refine g_cge (tgt := 69) C0 d_Mo_samePad_27 (by decide) (by first | omega | exact hR.p (by omega)) (by first | omega | exact hR.p (by omega)) (fun c_27 => ?_) (fun c_27 => ?_)
        · skip
          refine lv_iload_n hx hb d_Mo_samePad_69 rfl (lv_at hl 0 rfl) ?_
          refine g_iret C0 hlk hr d_Mo_samePad_70 (t_nil (free := noF)) ?_
          exact ⟨rdI (by rw [mSp, pfx_at (i := i) hi hj (fun h6 => by first | (have q := c_27; simp [Nat.not_lt.mpr q]; done) | (simp [c_27]; done))]), rfl⟩
        · skip
          refine lv_aload_n hx hb d_Mo_samePad_30 rfl (lv_at hl 1 rfl) ?_
          refine g_get C0 hK il_Mo hP.1 rfl 6 (by decide) fl_Mo_29 rfl d_Mo_samePad_31 ?_
          refine lv_aload_n hx hb d_Mo_samePad_34 rfl (lv_at hl 1 rfl) ?_
          refine g_get C0 hK il_Mo hP.1 rfl 5 (by decide) fl_Mo_26 rfl d_Mo_samePad_35 ?_
          refine lv_iconst (v := nI 2) hx hb d_Mo_samePad_38 (by decide +kernel) ?_
          refine lv_iload_n hx hb d_Mo_samePad_39 rfl (lv_at hl 2 rfl) ?_
          refine g_imul C0 (z := 2 * w) d_Mo_samePad_40 rfl ?_
          refine g_iald C0 hK hP.2.2.2.2.2.2.1 (by omega) (by omega) d_Mo_samePad_41 ?_
          refine lv_iload_n hx hb d_Mo_samePad_42 rfl (lv_at hl 0 rfl) ?_
          refine g_iadd C0 (z := rr (2 * w) + i) d_Mo_samePad_43 rfl ?_
          refine g_cald C0 hK hP.2.2.2.2.2.2.2 (by omega) (by omega) d_Mo_samePad_44 ?_
          refine lv_aload_n hx hb d_Mo_samePad_45 rfl (lv_at hl 1 rfl) ?_
          refine g_get C0 hK il_Mo hP.1 rfl 6 (by decide) fl_Mo_29 rfl d_Mo_samePad_46 ?_
          refine lv_aload_n hx hb d_Mo_samePad_49 rfl (lv_at hl 1 rfl) ?_
          refine g_get C0 hK il_Mo hP.1 rfl 5 (by decide) fl_Mo_26 rfl d_Mo_samePad_50 ?_
          refine lv_iconst (v := nI 2) hx hb d_Mo_samePad_53 (by decide +kernel) ?_
          refine lv_iload_n hx hb d_Mo_samePad_54 rfl (lv_at hl 3 rfl) ?_
          refine g_imul C0 (z := 2 * v) d_Mo_samePad_55 rfl ?_
          refine g_iald C0 hK hP.2.2.2.2.2.2.1 (by omega) (by omega) d_Mo_samePad_56 ?_
          refine lv_iload_n hx hb d_Mo_samePad_57 rfl (lv_at hl 0 rfl) ?_
          refine g_iadd C0 (z := rr (2 * v) + i) d_Mo_samePad_58 rfl ?_
          refine g_cald C0 hK hP.2.2.2.2.2.2.2 (by omega) (by omega) d_Mo_samePad_59 ?_
          refine g_cne (tgt := 69) C0 d_Mo_samePad_60 (by decide) (by first | omega | exact hR.p (by omega)) (by first | omega | exact hR.p (by omega)) (fun c_60 => ?_) (fun c_60 => ?_)
          · skip
            refine lv_iload_n hx hb d_Mo_samePad_69 rfl (lv_at hl 0 rfl) ?_
            refine g_iret C0 hlk hr d_Mo_samePad_70 (t_nil (free := noF)) ?_
            exact ⟨rdI (by rw [mSp, pfx_at (i := i) hi hj (fun h6 => by first | (have q := c_60; simp [Nat.not_lt.mpr q]; done) | (simp [c_60]; done))]), rfl⟩
          · skip
            refine lv_iinc (v := (nI (i + 1))) (lv' := [(3, .int (nI (i + 1))), (0, .ref o), (1, .int (nI w)), (2, .int (nI v))]) hx hb d_Mo_samePad_63 hl (k := 0) rfl (gI_inc _) (by decide) rfl (fun ls hl => ?_)
            refine lv_goto (tgt := 2) hx hb d_Mo_samePad_66 (by decide) ?_
            exact ih2 (i + 1) (by omega) (by omega) (all_s hj (by simp [c_13, c_27, c_60])) ls (lv_sub hl [0, 1, 2, 3] rfl)
  exact lp2 ((6 - 0) + 1) 0 (by omega) (by omega) all_0 ls (lv_sub hl [0, 1, 2, 3] rfl)

set_option maxHeartbeats 4000000 in
set_option maxRecDepth 100000 in
theorem k_Mo_sameAs (l : Launch) (G : gT) (o : Nat) (S sp bf sv iz rr pd : Nat → Nat) (ln sts td ac : Nat) (w a : Nat) (hw : w < td) (ha : a < S 4) (hM : mOk S) (hR : rOk rr pd td) : gM l y_Mo_sameAs c_Mo_sameAs 4 (some .int) 1 20 0 0 G [.ref o, .int (nI w), .int (nI a)] (fun H => MAt G o S sp bf sv iz rr pd ln sts td ac H) (rd (.int (nI (mSa S rr pd w a)))) noF := by
  refine g_enter "GaleNamesModel" (by decide +kernel) rfl (Nat.le_of_ble_eq_true rfl) ?_
  intro p e s m args below meth c C0 hlk hr hnm hP hK ls hl
  have hx := C0.1
  have hb := C0.2.1
  have hl : lv_has ls 4 [(0, .ref o), (1, .int (nI w)), (2, .int (nI a))] := hl
  have hn40 := hM.n
  have hg16 := hM.g
  have hk10 := hM.k
  have htd := hR.1
  have hwa := hR.a hw
  have hwl := hR.l hw
  have hla := hM.nl ha
  refine lv_iconst (v := nI 0) hx hb d_Mo_sameAs_0 (by decide +kernel) ?_
  refine lv_istore_n (lv' := [(3, .int (nI 0)), (0, .ref o), (1, .int (nI w)), (2, .int (nI a))]) hx hb d_Mo_sameAs_1 rfl hl (by decide) rfl (fun ls hl => ?_)
  have lp2 : ∀ (fu : Nat) (i : Nat), (6 - i) < fu → i ≤ 6 → (∀ j, j < i → (fun j => decide (j < rr (2 * w + 1)) && decide (j < S (9 + 10 * a)) && pd (rr (2 * w) + j) == S (9 + 10 * a + 1 + j)) j = true) → ∀ ls : Array Slot, lv_has ls 4 [(3, .int (nI i)), (0, .ref o), (1, .int (nI w)), (2, .int (nI a))] → W p l e ({ frames := 1, cells := 0, slots := 0, locals := 20 } : Room) s m args below meth c s.heap [] 0 0 (MQ below (gQ (rd (.int (nI (mSa S rr pd w a))))) args s 0 0 noF) (F0 m 2 ls []) := by
    intro fu
    induction fu with
    | zero => intro i  hfu; exact absurd hfu (Nat.not_lt_zero _)
    | succ fu ih2 =>
      intro i hfu hi hj ls hl
      refine lv_iload_n hx hb d_Mo_sameAs_2 rfl (lv_at hl 0 rfl) ?_
      refine lv_aload_n hx hb d_Mo_sameAs_3 rfl (lv_at hl 1 rfl) ?_
      refine g_get C0 hK il_Mo hP.1 rfl 5 (by decide) fl_Mo_26 rfl d_Mo_sameAs_4 ?_
      refine lv_iconst (v := nI 2) hx hb d_Mo_sameAs_7 (by decide +kernel) ?_
      refine lv_iload_n hx hb d_Mo_sameAs_8 rfl (lv_at hl 2 rfl) ?_
      refine g_imul C0 (z := 2 * w) d_Mo_sameAs_9 rfl ?_
      refine lv_iconst (v := nI 1) hx hb d_Mo_sameAs_10 (by decide +kernel) ?_
      refine g_iadd C0 (z := 2 * w + 1) d_Mo_sameAs_11 rfl ?_
      refine g_iald C0 hK hP.2.2.2.2.2.2.1 (by omega) (by omega) d_Mo_sameAs_12 ?_
      refine g_cge (tgt := 66) C0 d_Mo_sameAs_13 (by decide) (by first | omega | exact hM.b (by omega) | exact hR.p (by omega)) (by first | omega | exact hM.b (by omega) | exact hR.p (by omega)) (fun c_13 => ?_) (fun c_13 => ?_)
      · skip
        refine lv_iload_n hx hb d_Mo_sameAs_66 rfl (lv_at hl 0 rfl) ?_
        refine g_iret C0 hlk hr d_Mo_sameAs_67 (t_nil (free := noF)) ?_
        exact ⟨rdI (by rw [mSa, pfx_at (i := i) hi hj (fun h6 => by first | (have q := c_13; simp [Nat.not_lt.mpr q]; done) | (simp [c_13]; done))]), rfl⟩
      · skip
        refine lv_iload_n hx hb d_Mo_sameAs_16 rfl (lv_at hl 0 rfl) ?_
        refine lv_aload_n hx hb d_Mo_sameAs_17 rfl (lv_at hl 1 rfl) ?_
        refine g_get C0 hK il_Mo hP.1 rfl 0 (by decide) fl_Mo_7 rfl d_Mo_sameAs_18 ?_
        refine lv_iload_n hx hb d_Mo_sameAs_21 rfl (lv_at hl 3 rfl) ?_
        refine g_S C0 (k_Mo_n l G a) co_Mo_n sm_Mo_n in_Mo gc_Mo_n ml_Mo_57 ⟨Nat.le_of_ble_eq_true rfl, Nat.le_of_ble_eq_true rfl⟩ hK trivial rfl hl.1 rfl (Nat.le_of_ble_eq_true rfl) d_Mo_sameAs_22 ⟨Nat.le_of_ble_eq_true rfl, Nat.le_of_ble_eq_true rfl⟩ (g_r rfl ?_)
        refine g_iald C0 hK hP.2.1 (by omega) (by omega) d_Mo_sameAs_25 ?_
        refine g_cge (tgt := 66) C0 d_Mo_sameAs_26 (by decide) (by first | omega | exact hM.b (by omega) | exact hR.p (by omega)) (by first | omega | exact hM.b (by omega) | exact hR.p (by omega)) (fun c_26 => ?_) (fun c_26 => ?_)
        · skip
          refine lv_iload_n hx hb d_Mo_sameAs_66 rfl (lv_at hl 0 rfl) ?_
          refine g_iret C0 hlk hr d_Mo_sameAs_67 (t_nil (free := noF)) ?_
          exact ⟨rdI (by rw [mSa, pfx_at (i := i) hi hj (fun h6 => by first | (have q := c_26; simp [Nat.not_lt.mpr q]; done) | (simp [c_26]; done))]), rfl⟩
        · skip
          refine lv_aload_n hx hb d_Mo_sameAs_29 rfl (lv_at hl 1 rfl) ?_
          refine g_get C0 hK il_Mo hP.1 rfl 6 (by decide) fl_Mo_29 rfl d_Mo_sameAs_30 ?_
          refine lv_aload_n hx hb d_Mo_sameAs_33 rfl (lv_at hl 1 rfl) ?_
          refine g_get C0 hK il_Mo hP.1 rfl 5 (by decide) fl_Mo_26 rfl d_Mo_sameAs_34 ?_
          refine lv_iconst (v := nI 2) hx hb d_Mo_sameAs_37 (by decide +kernel) ?_
          refine lv_iload_n hx hb d_Mo_sameAs_38 rfl (lv_at hl 2 rfl) ?_
          refine g_imul C0 (z := 2 * w) d_Mo_sameAs_39 rfl ?_
          refine g_iald C0 hK hP.2.2.2.2.2.2.1 (by omega) (by omega) d_Mo_sameAs_40 ?_
          refine lv_iload_n hx hb d_Mo_sameAs_41 rfl (lv_at hl 0 rfl) ?_
          refine g_iadd C0 (z := rr (2 * w) + i) d_Mo_sameAs_42 rfl ?_
          refine g_cald C0 hK hP.2.2.2.2.2.2.2 (by omega) (by omega) d_Mo_sameAs_43 ?_
          refine lv_aload_n hx hb d_Mo_sameAs_44 rfl (lv_at hl 1 rfl) ?_
          refine g_get C0 hK il_Mo hP.1 rfl 0 (by decide) fl_Mo_7 rfl d_Mo_sameAs_45 ?_
          refine lv_iload_n hx hb d_Mo_sameAs_48 rfl (lv_at hl 3 rfl) ?_
          refine g_S C0 (k_Mo_n l G a) co_Mo_n sm_Mo_n in_Mo gc_Mo_n ml_Mo_57 ⟨Nat.le_of_ble_eq_true rfl, Nat.le_of_ble_eq_true rfl⟩ hK trivial rfl hl.1 rfl (Nat.le_of_ble_eq_true rfl) d_Mo_sameAs_49 ⟨Nat.le_of_ble_eq_true rfl, Nat.le_of_ble_eq_true rfl⟩ (g_r rfl ?_)
          refine lv_iconst (v := nI 1) hx hb d_Mo_sameAs_52 (by decide +kernel) ?_
          refine g_iadd C0 (z := 9 + 10 * a + 1) d_Mo_sameAs_53 rfl ?_
          refine lv_iload_n hx hb d_Mo_sameAs_54 rfl (lv_at hl 0 rfl) ?_
          refine g_iadd C0 (z := 9 + 10 * a + 1 + i) d_Mo_sameAs_55 rfl ?_
          refine g_iald C0 hK hP.2.1 (by omega) (by omega) d_Mo_sameAs_56 ?_
          refine g_cne (tgt := 66) C0 d_Mo_sameAs_57 (by decide) (by first | omega | exact hM.b (by omega) | exact hR.p (by omega)) (by first | omega | exact hM.b (by omega) | exact hR.p (by omega)) (fun c_57 => ?_) (fun c_57 => ?_)
          · skip
            refine lv_iload_n hx hb d_Mo_sameAs_66 rfl (lv_at hl 0 rfl) ?_
            refine g_iret C0 hlk hr d_Mo_sameAs_67 (t_nil (free := noF)) ?_
            exact ⟨rdI (by rw [mSa, pfx_at (i := i) hi hj (fun h6 => by first | (have q := c_57; simp [Nat.not_lt.mpr q]; done) | (simp [c_57]; done))]), rfl⟩
          · skip
            refine lv_iinc (v := (nI (i + 1))) (lv' := [(3, .int (nI (i + 1))), (0, .ref o), (1, .int (nI w)), (2, .int (nI a))]) hx hb d_Mo_sameAs_60 hl (k := 0) rfl (gI_inc _) (by decide) rfl (fun ls hl => ?_)
            refine lv_goto (tgt := 2) hx hb d_Mo_sameAs_63 (by decide) ?_
            exact ih2 (i + 1) (by omega) (by omega) (all_s hj (by simp [c_13, c_26, c_57])) ls (lv_sub hl [0, 1, 2, 3] rfl)
  exact lp2 ((6 - 0) + 1) 0 (by omega) (by omega) all_0 ls (lv_sub hl [0, 1, 2, 3] rfl)

set_option maxHeartbeats 4000000 in
set_option maxRecDepth 100000 in
theorem k_Mo_isListed (l : Launch) (G : gT) (o : Nat) (S sp bf sv iz rr pd : Nat → Nat) (ln sts td ac : Nat) (v ct k : Nat) (hv : v < 2 ^ 31) (hc : ct < 2) (hk : k < 3) (hM : mOk S) : gM l y_Mo_isListed c_Mo_isListed 6 (some .boolean) 1 21 0 0 G [.ref o, .int (nI v), .int (nI ct), .int (nI k)] (fun H => MAt G o S sp bf sv iz rr pd ln sts td ac H) (rd (.int (bI (mLs S v ct k)))) noF := by
  refine g_enter "GaleNamesModel" (by decide +kernel) rfl (Nat.le_of_ble_eq_true rfl) ?_
  intro p e s m args below meth c C0 hlk hr hnm hP hK ls hl
  have hx := C0.1
  have hb := C0.2.1
  have hl : lv_has ls 6 [(0, .ref o), (1, .int (nI v)), (2, .int (nI ct)), (3, .int (nI k))] := hl
  have hn40 := hM.n
  have hg16 := hM.g
  have hk10 := hM.k
  have hl8 := hM.l hc hk
  refine lv_iconst (v := nI 0) hx hb d_Mo_isListed_0 (by decide +kernel) ?_
  refine lv_istore (lv' := [(4, .int (nI 0)), (0, .ref o), (1, .int (nI v)), (2, .int (nI ct)), (3, .int (nI k))]) hx hb d_Mo_isListed_1 hl (by decide) rfl (fun ls hl => ?_)
  refine lv_iconst (v := nI 0) hx hb d_Mo_isListed_3 (by decide +kernel) ?_
  refine lv_istore (lv' := [(5, .int (nI 0)), (4, .int (nI 0)), (0, .ref o), (1, .int (nI v)), (2, .int (nI ct)), (3, .int (nI k))]) hx hb d_Mo_isListed_4 hl (by decide) rfl (fun ls hl => ?_)
  have lp6 : ∀ (fu : Nat) (i : Nat) (b : Bool), (S (409 + 27 * ct + 9 * k) - i) < fu → i ≤ S (409 + 27 * ct + 9 * k) → b = aN (fun j => S (409 + 27 * ct + 9 * k + 1 + j) == v) i → ∀ ls : Array Slot, lv_has ls 6 [(5, .int (nI i)), (4, .int (bI b)), (0, .ref o), (1, .int (nI v)), (2, .int (nI ct)), (3, .int (nI k))] → W p l e ({ frames := 1, cells := 0, slots := 0, locals := 21 } : Room) s m args below meth c s.heap [] 0 0 (MQ below (gQ (rd (.int (bI (mLs S v ct k))))) args s 0 0 noF) (F0 m 6 ls []) := by
    intro fu
    induction fu with
    | zero => intro i b  hfu; exact absurd hfu (Nat.not_lt_zero _)
    | succ fu ih6 =>
      intro i b hfu hi hbb ls hl
      refine lv_iload hx hb d_Mo_isListed_6 (lv_at hl 0 rfl) ?_
      refine lv_aload_n hx hb d_Mo_isListed_8 rfl (lv_at hl 2 rfl) ?_
      refine g_get C0 hK il_Mo hP.1 rfl 0 (by decide) fl_Mo_7 rfl d_Mo_isListed_9 ?_
      refine lv_iload_n hx hb d_Mo_isListed_12 rfl (lv_at hl 4 rfl) ?_
      refine lv_iload_n hx hb d_Mo_isListed_13 rfl (lv_at hl 5 rfl) ?_
      refine g_S C0 (k_Mo_l l G ct k) co_Mo_l sm_Mo_l in_Mo gc_Mo_l ml_Mo_68 ⟨Nat.le_of_ble_eq_true rfl, Nat.le_of_ble_eq_true rfl⟩ hK trivial rfl hl.1 rfl (Nat.le_of_ble_eq_true rfl) d_Mo_isListed_14 ⟨Nat.le_of_ble_eq_true rfl, Nat.le_of_ble_eq_true rfl⟩ (g_r rfl ?_)
      refine g_iald C0 hK hP.2.1 (by omega) (by omega) d_Mo_isListed_17 ?_
      refine g_cge (tgt := 58) C0 d_Mo_isListed_18 (by decide) (by first | omega | exact hM.b (by omega) | exact hR.p (by omega)) (by first | omega | exact hM.b (by omega) | exact hR.p (by omega)) (fun c_18 => ?_) (fun c_18 => ?_)
      · skip
        refine lv_iload hx hb d_Mo_isListed_58 (lv_at hl 1 rfl) ?_
        refine g_zret C0 hlk hr d_Mo_isListed_60 (t_nil (free := noF)) ?_
        exact ⟨rdB (by rw [hbb, show i = S (409 + 27 * ct + 9 * k) by omega]; rfl), rfl⟩
      · skip
        refine lv_iload hx hb d_Mo_isListed_21 (lv_at hl 1 rfl) ?_
        refine g_zne (tgt := 45) C0 d_Mo_isListed_23 (by decide) (fun c_23 => ?_) (fun c_23 => ?_)
        · skip
          refine lv_iconst (v := nI 1) hx hb d_Mo_isListed_45 (by decide +kernel) ?_
          refine lv_goto (tgt := 50) hx hb d_Mo_isListed_46 (by decide) ?_
          refine lv_istore (lv' := [(4, .int (nI 1)), (5, .int (nI i)), (0, .ref o), (1, .int (nI v)), (2, .int (nI ct)), (3, .int (nI k))]) hx hb d_Mo_isListed_50 hl (by decide) rfl (fun ls hl => ?_)
          refine lv_iinc (v := (nI (i + 1))) (lv' := [(5, .int (nI (i + 1))), (4, .int (nI 1)), (0, .ref o), (1, .int (nI v)), (2, .int (nI ct)), (3, .int (nI k))]) hx hb d_Mo_isListed_52 hl (k := 1) rfl (gI_inc _) (by decide) rfl (fun ls hl => ?_)
          refine lv_goto (tgt := 6) hx hb d_Mo_isListed_55 (by decide) ?_
          exact ih6 (i + 1) true (by omega) (by omega) (by rw [aN_s, ← hbb, c_23]; rfl) ls (lv_sub hl [0, 1, 2, 3, 4, 5] rfl)
        · skip
          refine lv_aload_n hx hb d_Mo_isListed_26 rfl (lv_at hl 2 rfl) ?_
          refine g_get C0 hK il_Mo hP.1 rfl 0 (by decide) fl_Mo_7 rfl d_Mo_isListed_27 ?_
          refine lv_iload_n hx hb d_Mo_isListed_30 rfl (lv_at hl 4 rfl) ?_
          refine lv_iload_n hx hb d_Mo_isListed_31 rfl (lv_at hl 5 rfl) ?_
          refine g_S C0 (k_Mo_l l G ct k) co_Mo_l sm_Mo_l in_Mo gc_Mo_l ml_Mo_68 ⟨Nat.le_of_ble_eq_true rfl, Nat.le_of_ble_eq_true rfl⟩ hK trivial rfl hl.1 rfl (Nat.le_of_ble_eq_true rfl) d_Mo_isListed_32 ⟨Nat.le_of_ble_eq_true rfl, Nat.le_of_ble_eq_true rfl⟩ (g_r rfl ?_)
          refine lv_iconst (v := nI 1) hx hb d_Mo_isListed_35 (by decide +kernel) ?_
          refine g_iadd C0 (z := 409 + 27 * ct + 9 * k + 1) d_Mo_isListed_36 rfl ?_
          refine lv_iload hx hb d_Mo_isListed_37 (lv_at hl 0 rfl) ?_
          refine g_iadd C0 (z := 409 + 27 * ct + 9 * k + 1 + i) d_Mo_isListed_39 rfl ?_
          refine g_iald C0 hK hP.2.1 (by omega) (by omega) d_Mo_isListed_40 ?_
          refine lv_iload_n hx hb d_Mo_isListed_41 rfl (lv_at hl 3 rfl) ?_
          refine g_cne (tgt := 49) C0 d_Mo_isListed_42 (by decide) (by first | omega | exact hM.b (by omega) | exact hR.p (by omega)) (by first | omega | exact hM.b (by omega) | exact hR.p (by omega)) (fun c_42 => ?_) (fun c_42 => ?_)
          · skip
            refine lv_iconst (v := nI 0) hx hb d_Mo_isListed_49 (by decide +kernel) ?_
            refine lv_istore (lv' := [(4, .int (nI 0)), (5, .int (nI i)), (0, .ref o), (1, .int (nI v)), (2, .int (nI ct)), (3, .int (nI k))]) hx hb d_Mo_isListed_50 hl (by decide) rfl (fun ls hl => ?_)
            refine lv_iinc (v := (nI (i + 1))) (lv' := [(5, .int (nI (i + 1))), (4, .int (nI 0)), (0, .ref o), (1, .int (nI v)), (2, .int (nI ct)), (3, .int (nI k))]) hx hb d_Mo_isListed_52 hl (k := 1) rfl (gI_inc _) (by decide) rfl (fun ls hl => ?_)
            refine lv_goto (tgt := 6) hx hb d_Mo_isListed_55 (by decide) ?_
            exact ih6 (i + 1) false (by omega) (by omega) (by rw [aN_s, ← hbb, c_23]; simp [c_42]) ls (lv_sub hl [0, 1, 2, 3, 4, 5] rfl)
          · skip
            refine lv_iconst (v := nI 1) hx hb d_Mo_isListed_45 (by decide +kernel) ?_
            refine lv_goto (tgt := 50) hx hb d_Mo_isListed_46 (by decide) ?_
            refine lv_istore (lv' := [(4, .int (nI 1)), (5, .int (nI i)), (0, .ref o), (1, .int (nI v)), (2, .int (nI ct)), (3, .int (nI k))]) hx hb d_Mo_isListed_50 hl (by decide) rfl (fun ls hl => ?_)
            refine lv_iinc (v := (nI (i + 1))) (lv' := [(5, .int (nI (i + 1))), (4, .int (nI 1)), (0, .ref o), (1, .int (nI v)), (2, .int (nI ct)), (3, .int (nI k))]) hx hb d_Mo_isListed_52 hl (k := 1) rfl (gI_inc _) (by decide) rfl (fun ls hl => ?_)
            refine lv_goto (tgt := 6) hx hb d_Mo_isListed_55 (by decide) ?_
            exact ih6 (i + 1) true (by omega) (by omega) (by rw [aN_s, ← hbb, c_23]; simp [c_42]) ls (lv_sub hl [0, 1, 2, 3, 4, 5] rfl)
  exact lp6 ((S (409 + 27 * ct + 9 * k) - 0) + 1) 0 false (by omega) (by omega) rfl ls (lv_sub hl [0, 1, 2, 3, 4, 5] rfl)

set_option maxHeartbeats 4000000 in
set_option maxRecDepth 100000 in
theorem k_Mo_isOn (l : Launch) (G : gT) (o : Nat) (S sp bf sv iz rr pd : Nat → Nat) (ln sts td ac : Nat) (v ct : Nat) (hv : v < 2 ^ 31) (hc : ct < 2) (hM : mOk S) : gM l y_Mo_isOn c_Mo_isOn 3 (some .boolean) 2 46 0 0 G [.ref o, .int (nI v), .int (nI ct)] (fun H => MAt G o S sp bf sv iz rr pd ln sts td ac H) (rd (.int (bI (mOn S v ct)))) noF := by
  refine g_enter "GaleNamesModel" (by decide +kernel) rfl (Nat.le_of_ble_eq_true rfl) ?_
  intro p e s m args below meth c C0 hlk hr hnm hP hK ls hl
  have hx := C0.1
  have hb := C0.2.1
  have hl : lv_has ls 3 [(0, .ref o), (1, .int (nI v)), (2, .int (nI ct))] := hl
  have hn40 := hM.n
  have hg16 := hM.g
  have hk10 := hM.k
  refine lv_aload_n hx hb d_Mo_isOn_0 rfl (lv_at hl 0 rfl) ?_
  refine lv_iload_n hx hb d_Mo_isOn_1 rfl (lv_at hl 1 rfl) ?_
  refine lv_iload_n hx hb d_Mo_isOn_2 rfl (lv_at hl 2 rfl) ?_
  refine lv_iconst (v := nI 0) hx hb d_Mo_isOn_3 (by decide +kernel) ?_
  refine g_V C0 (k_Mo_isListed l G o S sp bf sv iz rr pd ln sts td ac v ct 0 (by omega) (by omega) (by omega) hM) co_Mo_isListed im_Mo_isListed se_Mo_isListed in_Mo gc_Mo_isListed ml_Mo_71 ⟨Nat.le_of_ble_eq_true rfl, Nat.le_of_ble_eq_true rfl⟩ hK hP.1 rfl ⟨hP.1, hP.2.1, hP.2.2.1, hP.2.2.2.1, hP.2.2.2.2.1, hP.2.2.2.2.2.1, hP.2.2.2.2.2.2.1, hP.2.2.2.2.2.2.2⟩ rfl hl.1 rfl (Nat.le_of_ble_eq_true rfl) d_Mo_isOn_4 ⟨Nat.le_of_ble_eq_true rfl, Nat.le_of_ble_eq_true rfl⟩ (g_r rfl ?_)
  refine g_zne (tgt := 30) C0 d_Mo_isOn_7 (by decide) (fun c_7 => ?_) (fun c_7 => ?_)
  · skip
    refine lv_iconst (v := nI 1) hx hb d_Mo_isOn_30 (by decide +kernel) ?_
    refine lv_goto (tgt := 35) hx hb d_Mo_isOn_31 (by decide) ?_
    refine g_zret (b := true) C0 hlk hr d_Mo_isOn_35 (t_nil (free := noF)) ?_
    exact ⟨rdB (by simp [mOn, c_7]), rfl⟩
  · skip
    refine lv_aload_n hx hb d_Mo_isOn_10 rfl (lv_at hl 0 rfl) ?_
    refine lv_iload_n hx hb d_Mo_isOn_11 rfl (lv_at hl 1 rfl) ?_
    refine lv_iload_n hx hb d_Mo_isOn_12 rfl (lv_at hl 2 rfl) ?_
    refine lv_iconst (v := nI 1) hx hb d_Mo_isOn_13 (by decide +kernel) ?_
    refine g_V C0 (k_Mo_isListed l G o S sp bf sv iz rr pd ln sts td ac v ct 1 (by omega) (by omega) (by omega) hM) co_Mo_isListed im_Mo_isListed se_Mo_isListed in_Mo gc_Mo_isListed ml_Mo_71 ⟨Nat.le_of_ble_eq_true rfl, Nat.le_of_ble_eq_true rfl⟩ hK hP.1 rfl ⟨hP.1, hP.2.1, hP.2.2.1, hP.2.2.2.1, hP.2.2.2.2.1, hP.2.2.2.2.2.1, hP.2.2.2.2.2.2.1, hP.2.2.2.2.2.2.2⟩ rfl hl.1 rfl (Nat.le_of_ble_eq_true rfl) d_Mo_isOn_14 ⟨Nat.le_of_ble_eq_true rfl, Nat.le_of_ble_eq_true rfl⟩ (g_r rfl ?_)
    refine g_zne (tgt := 30) C0 d_Mo_isOn_17 (by decide) (fun c_17 => ?_) (fun c_17 => ?_)
    · skip
      refine lv_iconst (v := nI 1) hx hb d_Mo_isOn_30 (by decide +kernel) ?_
      refine lv_goto (tgt := 35) hx hb d_Mo_isOn_31 (by decide) ?_
      refine g_zret (b := true) C0 hlk hr d_Mo_isOn_35 (t_nil (free := noF)) ?_
      exact ⟨rdB (by simp [mOn, c_7, c_17]), rfl⟩
    · skip
      refine lv_aload_n hx hb d_Mo_isOn_20 rfl (lv_at hl 0 rfl) ?_
      refine lv_iload_n hx hb d_Mo_isOn_21 rfl (lv_at hl 1 rfl) ?_
      refine lv_iload_n hx hb d_Mo_isOn_22 rfl (lv_at hl 2 rfl) ?_
      refine lv_iconst (v := nI 2) hx hb d_Mo_isOn_23 (by decide +kernel) ?_
      refine g_V C0 (k_Mo_isListed l G o S sp bf sv iz rr pd ln sts td ac v ct 2 (by omega) (by omega) (by omega) hM) co_Mo_isListed im_Mo_isListed se_Mo_isListed in_Mo gc_Mo_isListed ml_Mo_71 ⟨Nat.le_of_ble_eq_true rfl, Nat.le_of_ble_eq_true rfl⟩ hK hP.1 rfl ⟨hP.1, hP.2.1, hP.2.2.1, hP.2.2.2.1, hP.2.2.2.2.1, hP.2.2.2.2.2.1, hP.2.2.2.2.2.2.1, hP.2.2.2.2.2.2.2⟩ rfl hl.1 rfl (Nat.le_of_ble_eq_true rfl) d_Mo_isOn_24 ⟨Nat.le_of_ble_eq_true rfl, Nat.le_of_ble_eq_true rfl⟩ (g_r rfl ?_)
      refine g_zeq (tgt := 34) C0 d_Mo_isOn_27 (by decide) (fun c_27 => ?_) (fun c_27 => ?_)
      · skip
        refine lv_iconst (v := nI 0) hx hb d_Mo_isOn_34 (by decide +kernel) ?_
        refine g_zret (b := false) C0 hlk hr d_Mo_isOn_35 (t_nil (free := noF)) ?_
        exact ⟨rdB (by simp [mOn, c_7, c_17, c_27]), rfl⟩
      · skip
        refine lv_iconst (v := nI 1) hx hb d_Mo_isOn_30 (by decide +kernel) ?_
        refine lv_goto (tgt := 35) hx hb d_Mo_isOn_31 (by decide) ?_
        refine g_zret (b := true) C0 hlk hr d_Mo_isOn_35 (t_nil (free := noF)) ?_
        exact ⟨rdB (by simp [mOn, c_7, c_17, c_27]), rfl⟩

set_option maxHeartbeats 4000000 in
set_option maxRecDepth 100000 in
theorem k_Mo_isGiven (l : Launch) (G : gT) (o : Nat) (S sp bf sv iz rr pd : Nat → Nat) (ln sts td ac : Nat) (v ct : Nat) (hv : v < 2 ^ 31) (hc : ct < 2) (hM : mOk S) : gM l y_Mo_isGiven c_Mo_isGiven 5 (some .boolean) 1 20 0 0 G [.ref o, .int (nI v), .int (nI ct)] (fun H => MAt G o S sp bf sv iz rr pd ln sts td ac H) (rd (.int (bI (mGv S v ct)))) noF := by
  refine g_enter "GaleNamesModel" (by decide +kernel) rfl (Nat.le_of_ble_eq_true rfl) ?_
  intro p e s m args below meth c C0 hlk hr hnm hP hK ls hl
  have hx := C0.1
  have hb := C0.2.1
  have hl : lv_has ls 5 [(0, .ref o), (1, .int (nI v)), (2, .int (nI ct))] := hl
  have hn40 := hM.n
  have hg16 := hM.g
  have hk10 := hM.k
  refine lv_iconst (v := nI 0) hx hb d_Mo_isGiven_0 (by decide +kernel) ?_
  refine lv_istore_n (lv' := [(3, .int (nI 0)), (0, .ref o), (1, .int (nI v)), (2, .int (nI ct))]) hx hb d_Mo_isGiven_1 rfl hl (by decide) rfl (fun ls hl => ?_)
  refine lv_iconst (v := nI 0) hx hb d_Mo_isGiven_2 (by decide +kernel) ?_
  refine lv_istore (lv' := [(4, .int (nI 0)), (3, .int (nI 0)), (0, .ref o), (1, .int (nI v)), (2, .int (nI ct))]) hx hb d_Mo_isGiven_3 hl (by decide) rfl (fun ls hl => ?_)
  have lp5 : ∀ (fu : Nat) (i : Nat) (b : Bool), (S 5 - i) < fu → i ≤ S 5 → b = aN (fun g => S (463 + 3 * g) == v && S (463 + 3 * g + 1) == ct) i → ∀ ls : Array Slot, lv_has ls 5 [(4, .int (nI i)), (3, .int (bI b)), (0, .ref o), (1, .int (nI v)), (2, .int (nI ct))] → W p l e ({ frames := 1, cells := 0, slots := 0, locals := 20 } : Room) s m args below meth c s.heap [] 0 0 (MQ below (gQ (rd (.int (bI (mGv S v ct))))) args s 0 0 noF) (F0 m 5 ls []) := by
    intro fu
    induction fu with
    | zero => intro i b  hfu; exact absurd hfu (Nat.not_lt_zero _)
    | succ fu ih5 =>
      intro i b hfu hi hbb ls hl
      refine lv_iload hx hb d_Mo_isGiven_5 (lv_at hl 0 rfl) ?_
      refine lv_aload_n hx hb d_Mo_isGiven_7 rfl (lv_at hl 2 rfl) ?_
      refine g_get C0 hK il_Mo hP.1 rfl 0 (by decide) fl_Mo_7 rfl d_Mo_isGiven_8 ?_
      refine lv_iconst (v := nI 5) hx hb d_Mo_isGiven_11 (by decide +kernel) ?_
      refine g_iald C0 hK hP.2.1 (by omega) (by omega) d_Mo_isGiven_12 ?_
      refine g_cge (tgt := 62) C0 d_Mo_isGiven_13 (by decide) (by first | omega | exact hM.b (by omega) | exact hR.p (by omega)) (by first | omega | exact hM.b (by omega) | exact hR.p (by omega)) (fun c_13 => ?_) (fun c_13 => ?_)
      · skip
        refine lv_iload_n hx hb d_Mo_isGiven_62 rfl (lv_at hl 1 rfl) ?_
        refine g_zret C0 hlk hr d_Mo_isGiven_63 (t_nil (free := noF)) ?_
        exact ⟨rdB (by rw [hbb, show i = S 5 by omega]; rfl), rfl⟩
      · skip
        refine lv_iload_n hx hb d_Mo_isGiven_16 rfl (lv_at hl 1 rfl) ?_
        refine g_zne (tgt := 50) C0 d_Mo_isGiven_17 (by decide) (fun c_17 => ?_) (fun c_17 => ?_)
        · skip
          refine lv_iconst (v := nI 1) hx hb d_Mo_isGiven_50 (by decide +kernel) ?_
          refine lv_goto (tgt := 55) hx hb d_Mo_isGiven_51 (by decide) ?_
          refine lv_istore_n (lv' := [(3, .int (nI 1)), (4, .int (nI i)), (0, .ref o), (1, .int (nI v)), (2, .int (nI ct))]) hx hb d_Mo_isGiven_55 rfl hl (by decide) rfl (fun ls hl => ?_)
          refine lv_iinc (v := (nI (i + 1))) (lv' := [(4, .int (nI (i + 1))), (3, .int (nI 1)), (0, .ref o), (1, .int (nI v)), (2, .int (nI ct))]) hx hb d_Mo_isGiven_56 hl (k := 1) rfl (gI_inc _) (by decide) rfl (fun ls hl => ?_)
          refine lv_goto (tgt := 5) hx hb d_Mo_isGiven_59 (by decide) ?_
          exact ih5 (i + 1) true (by omega) (by omega) (by rw [aN_s, ← hbb, c_17]; rfl) ls (lv_sub hl [0, 1, 2, 3, 4] rfl)
        · skip
          refine lv_aload_n hx hb d_Mo_isGiven_20 rfl (lv_at hl 2 rfl) ?_
          refine g_get C0 hK il_Mo hP.1 rfl 0 (by decide) fl_Mo_7 rfl d_Mo_isGiven_21 ?_
          refine lv_iload hx hb d_Mo_isGiven_24 (lv_at hl 0 rfl) ?_
          refine g_S C0 (k_Mo_g l G i) co_Mo_g sm_Mo_g in_Mo gc_Mo_g ml_Mo_74 ⟨Nat.le_of_ble_eq_true rfl, Nat.le_of_ble_eq_true rfl⟩ hK trivial rfl hl.1 rfl (Nat.le_of_ble_eq_true rfl) d_Mo_isGiven_26 ⟨Nat.le_of_ble_eq_true rfl, Nat.le_of_ble_eq_true rfl⟩ (g_r rfl ?_)
          refine g_iald C0 hK hP.2.1 (by omega) (by omega) d_Mo_isGiven_29 ?_
          refine lv_iload_n hx hb d_Mo_isGiven_30 rfl (lv_at hl 3 rfl) ?_
          refine g_cne (tgt := 54) C0 d_Mo_isGiven_31 (by decide) (by first | omega | exact hM.b (by omega) | exact hR.p (by omega)) (by first | omega | exact hM.b (by omega) | exact hR.p (by omega)) (fun c_31 => ?_) (fun c_31 => ?_)
          · skip
            refine lv_iconst (v := nI 0) hx hb d_Mo_isGiven_54 (by decide +kernel) ?_
            refine lv_istore_n (lv' := [(3, .int (nI 0)), (4, .int (nI i)), (0, .ref o), (1, .int (nI v)), (2, .int (nI ct))]) hx hb d_Mo_isGiven_55 rfl hl (by decide) rfl (fun ls hl => ?_)
            refine lv_iinc (v := (nI (i + 1))) (lv' := [(4, .int (nI (i + 1))), (3, .int (nI 0)), (0, .ref o), (1, .int (nI v)), (2, .int (nI ct))]) hx hb d_Mo_isGiven_56 hl (k := 1) rfl (gI_inc _) (by decide) rfl (fun ls hl => ?_)
            refine lv_goto (tgt := 5) hx hb d_Mo_isGiven_59 (by decide) ?_
            exact ih5 (i + 1) false (by omega) (by omega) (by rw [aN_s, ← hbb, c_17]; simp [c_31]) ls (lv_sub hl [0, 1, 2, 3, 4] rfl)
          · skip
            refine lv_aload_n hx hb d_Mo_isGiven_34 rfl (lv_at hl 2 rfl) ?_
            refine g_get C0 hK il_Mo hP.1 rfl 0 (by decide) fl_Mo_7 rfl d_Mo_isGiven_35 ?_
            refine lv_iload hx hb d_Mo_isGiven_38 (lv_at hl 0 rfl) ?_
            refine g_S C0 (k_Mo_g l G i) co_Mo_g sm_Mo_g in_Mo gc_Mo_g ml_Mo_74 ⟨Nat.le_of_ble_eq_true rfl, Nat.le_of_ble_eq_true rfl⟩ hK trivial rfl hl.1 rfl (Nat.le_of_ble_eq_true rfl) d_Mo_isGiven_40 ⟨Nat.le_of_ble_eq_true rfl, Nat.le_of_ble_eq_true rfl⟩ (g_r rfl ?_)
            refine lv_iconst (v := nI 1) hx hb d_Mo_isGiven_43 (by decide +kernel) ?_
            refine g_iadd C0 (z := 463 + 3 * i + 1) d_Mo_isGiven_44 rfl ?_
            refine g_iald C0 hK hP.2.1 (by omega) (by omega) d_Mo_isGiven_45 ?_
            refine lv_iload_n hx hb d_Mo_isGiven_46 rfl (lv_at hl 4 rfl) ?_
            refine g_cne (tgt := 54) C0 d_Mo_isGiven_47 (by decide) (by first | omega | exact hM.b (by omega) | exact hR.p (by omega)) (by first | omega | exact hM.b (by omega) | exact hR.p (by omega)) (fun c_47 => ?_) (fun c_47 => ?_)
            · skip
              refine lv_iconst (v := nI 0) hx hb d_Mo_isGiven_54 (by decide +kernel) ?_
              refine lv_istore_n (lv' := [(3, .int (nI 0)), (4, .int (nI i)), (0, .ref o), (1, .int (nI v)), (2, .int (nI ct))]) hx hb d_Mo_isGiven_55 rfl hl (by decide) rfl (fun ls hl => ?_)
              refine lv_iinc (v := (nI (i + 1))) (lv' := [(4, .int (nI (i + 1))), (3, .int (nI 0)), (0, .ref o), (1, .int (nI v)), (2, .int (nI ct))]) hx hb d_Mo_isGiven_56 hl (k := 1) rfl (gI_inc _) (by decide) rfl (fun ls hl => ?_)
              refine lv_goto (tgt := 5) hx hb d_Mo_isGiven_59 (by decide) ?_
              exact ih5 (i + 1) false (by omega) (by omega) (by rw [aN_s, ← hbb, c_17]; simp [c_31, c_47]) ls (lv_sub hl [0, 1, 2, 3, 4] rfl)
            · skip
              refine lv_iconst (v := nI 1) hx hb d_Mo_isGiven_50 (by decide +kernel) ?_
              refine lv_goto (tgt := 55) hx hb d_Mo_isGiven_51 (by decide) ?_
              refine lv_istore_n (lv' := [(3, .int (nI 1)), (4, .int (nI i)), (0, .ref o), (1, .int (nI v)), (2, .int (nI ct))]) hx hb d_Mo_isGiven_55 rfl hl (by decide) rfl (fun ls hl => ?_)
              refine lv_iinc (v := (nI (i + 1))) (lv' := [(4, .int (nI (i + 1))), (3, .int (nI 1)), (0, .ref o), (1, .int (nI v)), (2, .int (nI ct))]) hx hb d_Mo_isGiven_56 hl (k := 1) rfl (gI_inc _) (by decide) rfl (fun ls hl => ?_)
              refine lv_goto (tgt := 5) hx hb d_Mo_isGiven_59 (by decide) ?_
              exact ih5 (i + 1) true (by omega) (by omega) (by rw [aN_s, ← hbb, c_17]; simp [c_31, c_47]) ls (lv_sub hl [0, 1, 2, 3, 4] rfl)
  exact lp5 ((S 5 - 0) + 1) 0 false (by omega) (by omega) rfl ls (lv_sub hl [0, 1, 2, 3, 4] rfl)

set_option maxHeartbeats 4000000 in
set_option maxRecDepth 100000 in
theorem k_Mo_nextOf (l : Launch) (G : gT) (o : Nat) (S sp bf sv iz rr pd : Nat → Nat) (ln sts td ac : Nat) (ct : Nat) (hc : ct < 2) (hM : mOk S) : gM l y_Mo_nextOf c_Mo_nextOf 5 (some .int) 2 44 0 0 G [.ref o, .int (nI ct)] (fun H => MAt G o S sp bf sv iz rr pd ln sts td ac H) (rd (.int (oI (-6) (mNx S ct)))) noF := by
  refine g_enter "GaleNamesModel" (by decide +kernel) rfl (Nat.le_of_ble_eq_true rfl) ?_
  intro p e s m args below meth c C0 hlk hr hnm hP hK ls hl
  have hx := C0.1
  have hb := C0.2.1
  have hl : lv_has ls 5 [(0, .ref o), (1, .int (nI ct))] := hl
  have hn40 := hM.n
  have hg16 := hM.g
  have hk10 := hM.k
  have hm3 : S 3 % 3 < 3 := Nat.mod_lt _ (by decide)
  have hl8 := hM.l hc hm3
  have hy := hM.b (k := 3) (by decide)
  refine lv_iload_n hx hb d_Mo_nextOf_0 rfl (lv_at hl 1 rfl) ?_
  refine lv_aload_n hx hb d_Mo_nextOf_1 rfl (lv_at hl 0 rfl) ?_
  refine g_get C0 hK il_Mo hP.1 rfl 0 (by decide) fl_Mo_7 rfl d_Mo_nextOf_2 ?_
  refine lv_iconst (v := nI 3) hx hb d_Mo_nextOf_5 (by decide +kernel) ?_
  refine g_iald C0 hK hP.2.1 (by omega) (by omega) d_Mo_nextOf_6 ?_
  refine lv_iconst (v := nI 3) hx hb d_Mo_nextOf_7 (by decide +kernel) ?_
  refine g_irem C0 (z := (S 3) % 3) d_Mo_nextOf_8 (by omega) (by omega) (by omega) rfl ?_
  refine g_S C0 (k_Mo_l l G ct ((S 3) % 3)) co_Mo_l sm_Mo_l in_Mo gc_Mo_l ml_Mo_68 ⟨Nat.le_of_ble_eq_true rfl, Nat.le_of_ble_eq_true rfl⟩ hK trivial rfl hl.1 rfl (Nat.le_of_ble_eq_true rfl) d_Mo_nextOf_9 ⟨Nat.le_of_ble_eq_true rfl, Nat.le_of_ble_eq_true rfl⟩ (g_r rfl ?_)
  refine lv_istore_n (lv' := [(2, .int (nI (409 + 27 * ct + 9 * ((S 3) % 3)))), (0, .ref o), (1, .int (nI ct))]) hx hb d_Mo_nextOf_12 rfl hl (by decide) rfl (fun ls hl => ?_)
  refine lv_bipush (v := -6) hx hb d_Mo_nextOf_13 (by decide +kernel) ?_
  refine lv_istore_n (lv' := [(3, .int (-6)), (2, .int (nI (409 + 27 * ct + 9 * ((S 3) % 3)))), (0, .ref o), (1, .int (nI ct))]) hx hb d_Mo_nextOf_15 rfl hl (by decide) rfl (fun ls hl => ?_)
  refine lv_aload_n hx hb d_Mo_nextOf_16 rfl (lv_at hl 2 rfl) ?_
  refine g_get C0 hK il_Mo hP.1 rfl 0 (by decide) fl_Mo_7 rfl d_Mo_nextOf_17 ?_
  refine lv_iload_n hx hb d_Mo_nextOf_20 rfl (lv_at hl 1 rfl) ?_
  refine g_iald C0 hK hP.2.1 (by omega) (by omega) d_Mo_nextOf_21 ?_
  refine lv_iconst (v := nI 1) hx hb d_Mo_nextOf_22 (by decide +kernel) ?_
  refine lv_isub hx hb d_Mo_nextOf_23 ?_
  refine lv_istore (lv' := [(4, .int ((nI (S (409 + 27 * ct + 9 * ((S 3) % 3)))) - (nI 1))), (3, .int (-6)), (2, .int (nI (409 + 27 * ct + 9 * ((S 3) % 3)))), (0, .ref o), (1, .int (nI ct))]) hx hb d_Mo_nextOf_24 hl (by decide) rfl (fun ls hl => ?_)
  have lp26 : ∀ (fu : Nat) (u : Nat) (f : Option Nat) (t : Nat), (u) < fu → t + u = S (409 + 27 * ct + 9 * (S 3 % 3)) → f = mNd S ct (409 + 27 * ct + 9 * (S 3 % 3)) (S (409 + 27 * ct + 9 * (S 3 % 3))) t → ∀ ls : Array Slot, lv_has ls 5 [(4, .int (nI u - 1)), (3, .int (oI (-6) f)), (2, .int (nI (409 + 27 * ct + 9 * ((S 3) % 3)))), (0, .ref o), (1, .int (nI ct))] → W p l e ({ frames := 2, cells := 0, slots := 0, locals := 44 } : Room) s m args below meth c s.heap [] 0 0 (MQ below (gQ (rd (.int (oI (-6) (mNx S ct))))) args s 0 0 noF) (F0 m 26 ls []) := by
    intro fu
    induction fu with
    | zero => intro u f t  hfu; exact absurd hfu (Nat.not_lt_zero _)
    | succ fu ih26 =>
      intro u f t hfu htu hf2 ls hl
      refine lv_iload hx hb d_Mo_nextOf_26 (lv_at hl 0 rfl) ?_
      refine lv_if_lt (tgt := 72) hx hb d_Mo_nextOf_28 (by decide) (fun c_28 => ?_) (fun c_28 => ?_)
      · skip
        have hu0 : u = 0 := gU0 (by omega) c_28
        refine lv_iload_n hx hb d_Mo_nextOf_72 rfl (lv_at hl 1 rfl) ?_
        refine g_iret C0 hlk hr d_Mo_nextOf_73 (t_nil (free := noF)) ?_
        exact ⟨rdI (by rw [hf2, show t = S (409 + 27 * ct + 9 * (S 3 % 3)) by omega]; rfl), rfl⟩
      · skip
        obtain ⟨v, rfl⟩ := gU1 c_28
        rw [gI_s1] at hl
        have hl : lv_has ls 5 [(4, .int (nI v)), (3, .int (oI (-6) f)), (2, .int (nI (409 + 27 * ct + 9 * ((S 3) % 3)))), (0, .ref o), (1, .int (nI ct))] := hl
        refine lv_aload_n hx hb d_Mo_nextOf_31 rfl (lv_at hl 3 rfl) ?_
        refine lv_aload_n hx hb d_Mo_nextOf_32 rfl (lv_at hl 3 rfl) ?_
        refine g_get C0 hK il_Mo hP.1 rfl 0 (by decide) fl_Mo_7 rfl d_Mo_nextOf_33 ?_
        refine lv_iload_n hx hb d_Mo_nextOf_36 rfl (lv_at hl 2 rfl) ?_
        refine lv_iconst (v := nI 1) hx hb d_Mo_nextOf_37 (by decide +kernel) ?_
        refine g_iadd C0 (z := 409 + 27 * ct + 9 * ((S 3) % 3) + 1) d_Mo_nextOf_38 rfl ?_
        refine lv_iload hx hb d_Mo_nextOf_39 (lv_at hl 0 rfl) ?_
        refine g_iadd C0 (z := 409 + 27 * ct + 9 * ((S 3) % 3) + 1 + v) d_Mo_nextOf_41 rfl ?_
        refine g_iald C0 hK hP.2.1 (by omega) (by omega) d_Mo_nextOf_42 ?_
        refine lv_iload_n hx hb d_Mo_nextOf_43 rfl (lv_at hl 4 rfl) ?_
        refine g_V C0 (k_Mo_isGiven l G o S sp bf sv iz rr pd ln sts td ac (S (409 + 27 * ct + 9 * ((S 3) % 3) + 1 + v)) ct (hM.b (by omega)) (by omega) hM) co_Mo_isGiven im_Mo_isGiven se_Mo_isGiven in_Mo gc_Mo_isGiven ml_Mo_77 ⟨Nat.le_of_ble_eq_true rfl, Nat.le_of_ble_eq_true rfl⟩ hK hP.1 rfl ⟨hP.1, hP.2.1, hP.2.2.1, hP.2.2.2.1, hP.2.2.2.2.1, hP.2.2.2.2.2.1, hP.2.2.2.2.2.2.1, hP.2.2.2.2.2.2.2⟩ rfl hl.1 rfl (Nat.le_of_ble_eq_true rfl) d_Mo_nextOf_44 ⟨Nat.le_of_ble_eq_true rfl, Nat.le_of_ble_eq_true rfl⟩ (g_r rfl ?_)
        refine g_zeq (tgt := 54) C0 d_Mo_nextOf_47 (by decide) (fun c_47 => ?_) (fun c_47 => ?_)
        · skip
          have c_47 : mGv S (S (409 + 27 * ct + 9 * (S 3 % 3) + 1 + v)) ct = false := c_47
          refine lv_aload_n hx hb d_Mo_nextOf_54 rfl (lv_at hl 3 rfl) ?_
          refine g_get C0 hK il_Mo hP.1 rfl 0 (by decide) fl_Mo_7 rfl d_Mo_nextOf_55 ?_
          refine lv_iload_n hx hb d_Mo_nextOf_58 rfl (lv_at hl 2 rfl) ?_
          refine lv_iconst (v := nI 1) hx hb d_Mo_nextOf_59 (by decide +kernel) ?_
          refine g_iadd C0 (z := 409 + 27 * ct + 9 * ((S 3) % 3) + 1) d_Mo_nextOf_60 rfl ?_
          refine lv_iload hx hb d_Mo_nextOf_61 (lv_at hl 0 rfl) ?_
          refine g_iadd C0 (z := 409 + 27 * ct + 9 * ((S 3) % 3) + 1 + v) d_Mo_nextOf_63 rfl ?_
          refine g_iald C0 hK hP.2.1 (by omega) (by omega) d_Mo_nextOf_64 ?_
          refine lv_istore_n (lv' := [(3, .int (nI (S (409 + 27 * ct + 9 * ((S 3) % 3) + 1 + v)))), (4, .int (nI v)), (2, .int (nI (409 + 27 * ct + 9 * ((S 3) % 3)))), (0, .ref o), (1, .int (nI ct))]) hx hb d_Mo_nextOf_65 rfl hl (by decide) rfl (fun ls hl => ?_)
          refine lv_iinc (v := (nI v - 1)) (lv' := [(4, .int (nI v - 1)), (3, .int (nI (S (409 + 27 * ct + 9 * ((S 3) % 3) + 1 + v)))), (2, .int (nI (409 + 27 * ct + 9 * ((S 3) % 3)))), (0, .ref o), (1, .int (nI ct))]) hx hb d_Mo_nextOf_66 hl (k := 1) rfl (gI_d1 _) (by decide) rfl (fun ls hl => ?_)
          refine lv_goto (tgt := 26) hx hb d_Mo_nextOf_69 (by decide) ?_
          exact ih26 v (some (S (409 + 27 * ct + 9 * ((S 3) % 3) + 1 + v))) (t + 1) (by omega) (by omega) (by rw [mNd, show S (409 + 27 * ct + 9 * (S 3 % 3)) - 1 - t = v by omega, c_47]; rfl) ls (lv_sub hl [0, 1, 2, 3, 4] rfl)
        · skip
          have c_47 : mGv S (S (409 + 27 * ct + 9 * (S 3 % 3) + 1 + v)) ct = true := c_47
          refine lv_iload_n hx hb d_Mo_nextOf_50 rfl (lv_at hl 1 rfl) ?_
          refine lv_goto (tgt := 65) hx hb d_Mo_nextOf_51 (by decide) ?_
          refine lv_istore_n (lv' := [(3, .int (oI (-6) f)), (4, .int (nI v)), (2, .int (nI (409 + 27 * ct + 9 * ((S 3) % 3)))), (0, .ref o), (1, .int (nI ct))]) hx hb d_Mo_nextOf_65 rfl hl (by decide) rfl (fun ls hl => ?_)
          refine lv_iinc (v := (nI v - 1)) (lv' := [(4, .int (nI v - 1)), (3, .int (oI (-6) f)), (2, .int (nI (409 + 27 * ct + 9 * ((S 3) % 3)))), (0, .ref o), (1, .int (nI ct))]) hx hb d_Mo_nextOf_66 hl (k := 1) rfl (gI_d1 _) (by decide) rfl (fun ls hl => ?_)
          refine lv_goto (tgt := 26) hx hb d_Mo_nextOf_69 (by decide) ?_
          exact ih26 v f (t + 1) (by omega) (by omega) (by rw [mNd, show S (409 + 27 * ct + 9 * (S 3 % 3)) - 1 - t = v by omega, c_47]; exact hf2) ls (lv_sub hl [0, 1, 2, 3, 4] rfl)
  exact lp26 ((S (409 + 27 * ct + 9 * (S 3 % 3))) + 1) (S (409 + 27 * ct + 9 * (S 3 % 3))) none 0 (by omega) (Nat.zero_add _) rfl ls (lv_sub hl [0, 1, 2, 3, 4] rfl)

set_option maxHeartbeats 4000000 in
set_option maxRecDepth 100000 in
theorem k_Mo_harmOf (l : Launch) (G : gT) (o : Nat) (S sp bf sv iz rr pd : Nat → Nat) (ln sts td ac : Nat) (v : Nat) (hv : v < 2 ^ 31) (hM : mOk S) : gM l y_Mo_harmOf c_Mo_harmOf 4 (some .int) 1 20 0 0 G [.ref o, .int (nI v)] (fun H => MAt G o S sp bf sv iz rr pd ln sts td ac H) (rd (.int (nI (mHm S v)))) noF := by
  refine g_enter "GaleNamesModel" (by decide +kernel) rfl (Nat.le_of_ble_eq_true rfl) ?_
  intro p e s m args below meth c C0 hlk hr hnm hP hK ls hl
  have hx := C0.1
  have hb := C0.2.1
  have hl : lv_has ls 4 [(0, .ref o), (1, .int (nI v))] := hl
  have hn40 := hM.n
  have hg16 := hM.g
  have hk10 := hM.k
  refine lv_iconst (v := nI 0) hx hb d_Mo_harmOf_0 (by decide +kernel) ?_
  refine lv_istore_n (lv' := [(2, .int (nI 0)), (0, .ref o), (1, .int (nI v))]) hx hb d_Mo_harmOf_1 rfl hl (by decide) rfl (fun ls hl => ?_)
  refine lv_iconst (v := nI 0) hx hb d_Mo_harmOf_2 (by decide +kernel) ?_
  refine lv_istore_n (lv' := [(3, .int (nI 0)), (2, .int (nI 0)), (0, .ref o), (1, .int (nI v))]) hx hb d_Mo_harmOf_3 rfl hl (by decide) rfl (fun ls hl => ?_)
  have lp4 : ∀ (fu : Nat) (i : Nat) (x : Nat), (S 5 - i) < fu → i ≤ S 5 → x = sN (fun g => if S (463 + 3 * g) == v then S (463 + 3 * g + 2) else 0) i → ∀ ls : Array Slot, lv_has ls 4 [(3, .int (nI i)), (2, .int (nI x)), (0, .ref o), (1, .int (nI v))] → W p l e ({ frames := 1, cells := 0, slots := 0, locals := 20 } : Room) s m args below meth c s.heap [] 0 0 (MQ below (gQ (rd (.int (nI (mHm S v))))) args s 0 0 noF) (F0 m 4 ls []) := by
    intro fu
    induction fu with
    | zero => intro i x  hfu; exact absurd hfu (Nat.not_lt_zero _)
    | succ fu ih4 =>
      intro i x hfu hi hx2 ls hl
      refine lv_iload_n hx hb d_Mo_harmOf_4 rfl (lv_at hl 0 rfl) ?_
      refine lv_aload_n hx hb d_Mo_harmOf_5 rfl (lv_at hl 2 rfl) ?_
      refine g_get C0 hK il_Mo hP.1 rfl 0 (by decide) fl_Mo_7 rfl d_Mo_harmOf_6 ?_
      refine lv_iconst (v := nI 5) hx hb d_Mo_harmOf_9 (by decide +kernel) ?_
      refine g_iald C0 hK hP.2.1 (by omega) (by omega) d_Mo_harmOf_10 ?_
      refine g_cge (tgt := 51) C0 d_Mo_harmOf_11 (by decide) (by first | omega | exact hM.b (by omega) | exact hR.p (by omega)) (by first | omega | exact hM.b (by omega) | exact hR.p (by omega)) (fun c_11 => ?_) (fun c_11 => ?_)
      · skip
        refine lv_iload_n hx hb d_Mo_harmOf_51 rfl (lv_at hl 1 rfl) ?_
        refine g_iret C0 hlk hr d_Mo_harmOf_52 (t_nil (free := noF)) ?_
        exact ⟨rdI (by rw [hx2, show i = S 5 by omega]; rfl), rfl⟩
      · skip
        refine lv_iload_n hx hb d_Mo_harmOf_14 rfl (lv_at hl 1 rfl) ?_
        refine lv_aload_n hx hb d_Mo_harmOf_15 rfl (lv_at hl 2 rfl) ?_
        refine g_get C0 hK il_Mo hP.1 rfl 0 (by decide) fl_Mo_7 rfl d_Mo_harmOf_16 ?_
        refine lv_iload_n hx hb d_Mo_harmOf_19 rfl (lv_at hl 0 rfl) ?_
        refine g_S C0 (k_Mo_g l G i) co_Mo_g sm_Mo_g in_Mo gc_Mo_g ml_Mo_74 ⟨Nat.le_of_ble_eq_true rfl, Nat.le_of_ble_eq_true rfl⟩ hK trivial rfl hl.1 rfl (Nat.le_of_ble_eq_true rfl) d_Mo_harmOf_20 ⟨Nat.le_of_ble_eq_true rfl, Nat.le_of_ble_eq_true rfl⟩ (g_r rfl ?_)
        refine g_iald C0 hK hP.2.1 (by omega) (by omega) d_Mo_harmOf_23 ?_
        refine lv_iload_n hx hb d_Mo_harmOf_24 rfl (lv_at hl 3 rfl) ?_
        refine g_cne (tgt := 42) C0 d_Mo_harmOf_25 (by decide) (by first | omega | exact hM.b (by omega) | exact hR.p (by omega)) (by first | omega | exact hM.b (by omega) | exact hR.p (by omega)) (fun c_25 => ?_) (fun c_25 => ?_)
        · skip
          refine lv_iconst (v := nI 0) hx hb d_Mo_harmOf_42 (by decide +kernel) ?_
          refine g_iadd C0 (z := x) d_Mo_harmOf_43 rfl ?_
          refine lv_istore_n (lv' := [(2, .int (nI x)), (3, .int (nI i)), (0, .ref o), (1, .int (nI v))]) hx hb d_Mo_harmOf_44 rfl hl (by decide) rfl (fun ls hl => ?_)
          refine lv_iinc (v := (nI (i + 1))) (lv' := [(3, .int (nI (i + 1))), (2, .int (nI x)), (0, .ref o), (1, .int (nI v))]) hx hb d_Mo_harmOf_45 hl (k := 1) rfl (gI_inc _) (by decide) rfl (fun ls hl => ?_)
          refine lv_goto (tgt := 4) hx hb d_Mo_harmOf_48 (by decide) ?_
          exact ih4 (i + 1) x (by omega) (by omega) (by rw [sN_s, ← hx2]; simp [c_25]) ls (lv_sub hl [0, 1, 2, 3] rfl)
        · skip
          refine lv_aload_n hx hb d_Mo_harmOf_28 rfl (lv_at hl 2 rfl) ?_
          refine g_get C0 hK il_Mo hP.1 rfl 0 (by decide) fl_Mo_7 rfl d_Mo_harmOf_29 ?_
          refine lv_iload_n hx hb d_Mo_harmOf_32 rfl (lv_at hl 0 rfl) ?_
          refine g_S C0 (k_Mo_g l G i) co_Mo_g sm_Mo_g in_Mo gc_Mo_g ml_Mo_74 ⟨Nat.le_of_ble_eq_true rfl, Nat.le_of_ble_eq_true rfl⟩ hK trivial rfl hl.1 rfl (Nat.le_of_ble_eq_true rfl) d_Mo_harmOf_33 ⟨Nat.le_of_ble_eq_true rfl, Nat.le_of_ble_eq_true rfl⟩ (g_r rfl ?_)
          refine lv_iconst (v := nI 2) hx hb d_Mo_harmOf_36 (by decide +kernel) ?_
          refine g_iadd C0 (z := 463 + 3 * i + 2) d_Mo_harmOf_37 rfl ?_
          refine g_iald C0 hK hP.2.1 (by omega) (by omega) d_Mo_harmOf_38 ?_
          refine lv_goto (tgt := 43) hx hb d_Mo_harmOf_39 (by decide) ?_
          refine g_iadd C0 (z := x + (S (463 + 3 * i + 2))) d_Mo_harmOf_43 rfl ?_
          refine lv_istore_n (lv' := [(2, .int (nI (x + (S (463 + 3 * i + 2))))), (3, .int (nI i)), (0, .ref o), (1, .int (nI v))]) hx hb d_Mo_harmOf_44 rfl hl (by decide) rfl (fun ls hl => ?_)
          refine lv_iinc (v := (nI (i + 1))) (lv' := [(3, .int (nI (i + 1))), (2, .int (nI (x + (S (463 + 3 * i + 2))))), (0, .ref o), (1, .int (nI v))]) hx hb d_Mo_harmOf_45 hl (k := 1) rfl (gI_inc _) (by decide) rfl (fun ls hl => ?_)
          refine lv_goto (tgt := 4) hx hb d_Mo_harmOf_48 (by decide) ?_
          exact ih4 (i + 1) (x + (S (463 + 3 * i + 2))) (by omega) (by omega) (by rw [sN_s, ← hx2]; simp [c_25]) ls (lv_sub hl [0, 1, 2, 3] rfl)
  exact lp4 ((S 5 - 0) + 1) 0 0 (by omega) (by omega) rfl ls (lv_sub hl [0, 1, 2, 3] rfl)
