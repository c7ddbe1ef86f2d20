set_option maxHeartbeats 4000000 in
set_option maxRecDepth 100000 in
theorem k_Mo_in (l : Launch) (G : gT) (x lo hi : Int32) : gM l y_Mo_in c_Mo_in 3 (some .boolean) 0 0 0 0 G [.int x, .int lo, .int hi] (fun _ => True) (rd (.int (bI (inD x lo hi)))) noF := by
  refine g_enter "GaleNamesModel" (by decide +kernel) rfl (Nat.le_of_ble_eq_true rfl) ?_
  intro p e s m args below meth c C0 hlk hr hnm hP hK ls hl
  have hx := C0.1
  have hb := C0.2.1
  have hl : lv_has ls 3 [(0, .int x), (1, .int lo), (2, .int hi)] := hl
  refine lv_iload_n hx hb d_Mo_in_0 rfl (lv_at hl 0 rfl) ?_
  refine lv_iload_n hx hb d_Mo_in_1 rfl (lv_at hl 1 rfl) ?_
  refine lv_icmp_lt (tgt := 14) hx hb d_Mo_in_2 (by decide) (fun c_2 => ?_) (fun c_2 => ?_)
  · skip
    refine lv_iconst (v := nI 0) hx hb d_Mo_in_14 (by decide +kernel) ?_
    refine g_zret (b := false) C0 hlk hr d_Mo_in_15 (t_nil (free := noF)) ?_
    exact ⟨rdB (inD_l c_2), rfl⟩
  · skip
    refine lv_iload_n hx hb d_Mo_in_5 rfl (lv_at hl 0 rfl) ?_
    refine lv_iload_n hx hb d_Mo_in_6 rfl (lv_at hl 2 rfl) ?_
    refine lv_icmp_gt (tgt := 14) hx hb d_Mo_in_7 (by decide) (fun c_7 => ?_) (fun c_7 => ?_)
    · skip
      refine lv_iconst (v := nI 0) hx hb d_Mo_in_14 (by decide +kernel) ?_
      refine g_zret (b := false) C0 hlk hr d_Mo_in_15 (t_nil (free := noF)) ?_
      exact ⟨rdB (inD_h2 c_7), rfl⟩
    · skip
      refine lv_iconst (v := nI 1) hx hb d_Mo_in_10 (by decide +kernel) ?_
      refine lv_goto (tgt := 15) hx hb d_Mo_in_11 (by decide) ?_
      refine g_zret (b := true) C0 hlk hr d_Mo_in_15 (t_nil (free := noF)) ?_
      exact ⟨rdB (inD_y2 c_2 c_7), rfl⟩

set_option maxHeartbeats 4000000 in
set_option maxRecDepth 100000 in
theorem k_Mo_n (l : Launch) (G : gT) (a : Nat) : gM l y_Mo_n c_Mo_n 1 (some .int) 0 0 0 0 G [.int (nI a)] (fun _ => True) (rd (.int (nI (9 + 10 * a)))) noF := by
  refine g_enter "GaleNamesModel" (by decide +kernel) rfl (Nat.le_of_ble_eq_true rfl) ?_
  intro p e s m args below meth c C0 hlk hr hnm hP hK ls hl
  have hx := C0.1
  have hb := C0.2.1
  have hl : lv_has ls 1 [(0, .int (nI a))] := hl
  refine lv_bipush (v := nI 9) hx hb d_Mo_n_0 (by decide +kernel) ?_
  refine lv_bipush (v := nI 10) hx hb d_Mo_n_2 (by decide +kernel) ?_
  refine lv_iload_n hx hb d_Mo_n_4 rfl (lv_at hl 0 rfl) ?_
  refine g_imul C0 (z := 10 * a) d_Mo_n_5 rfl ?_
  refine g_iadd C0 (z := 9 + (10 * a)) d_Mo_n_6 rfl ?_
  refine g_iret C0 hlk hr d_Mo_n_7 (t_nil (free := noF)) ?_
  exact ⟨rfl, rfl⟩

set_option maxHeartbeats 4000000 in
set_option maxRecDepth 100000 in
theorem k_Mo_l (l : Launch) (G : gT) (a k : Nat) : gM l y_Mo_l c_Mo_l 2 (some .int) 0 0 0 0 G [.int (nI a), .int (nI k)] (fun _ => True) (rd (.int (nI (409 + 27 * a + 9 * k)))) noF := by
  refine g_enter "GaleNamesModel" (by decide +kernel) rfl (Nat.le_of_ble_eq_true rfl) ?_
  intro p e s m args below meth c C0 hlk hr hnm hP hK ls hl
  have hx := C0.1
  have hb := C0.2.1
  have hl : lv_has ls 2 [(0, .int (nI a)), (1, .int (nI k))] := hl
  refine lv_sipush (v := nI 409) hx hb d_Mo_l_0 (by decide +kernel) ?_
  refine lv_bipush (v := nI 27) hx hb d_Mo_l_3 (by decide +kernel) ?_
  refine lv_iload_n hx hb d_Mo_l_5 rfl (lv_at hl 0 rfl) ?_
  refine g_imul C0 (z := 27 * a) d_Mo_l_6 rfl ?_
  refine g_iadd C0 (z := 409 + (27 * a)) d_Mo_l_7 rfl ?_
  refine lv_bipush (v := nI 9) hx hb d_Mo_l_8 (by decide +kernel) ?_
  refine lv_iload_n hx hb d_Mo_l_10 rfl (lv_at hl 1 rfl) ?_
  refine g_imul C0 (z := 9 * k) d_Mo_l_11 rfl ?_
  refine g_iadd C0 (z := 409 + (27 * a) + (9 * k)) d_Mo_l_12 rfl ?_
  refine g_iret C0 hlk hr d_Mo_l_13 (t_nil (free := noF)) ?_
  exact ⟨rfl, rfl⟩

set_option maxHeartbeats 4000000 in
set_option maxRecDepth 100000 in
theorem k_Mo_g (l : Launch) (G : gT) (a : Nat) : gM l y_Mo_g c_Mo_g 1 (some .int) 0 0 0 0 G [.int (nI a)] (fun _ => True) (rd (.int (nI (463 + 3 * a)))) noF := by
  refine g_enter "GaleNamesModel" (by decide +kernel) rfl (Nat.le_of_ble_eq_true rfl) ?_
  intro p e s m args below meth c C0 hlk hr hnm hP hK ls hl
  have hx := C0.1
  have hb := C0.2.1
  have hl : lv_has ls 1 [(0, .int (nI a))] := hl
  refine lv_sipush (v := nI 463) hx hb d_Mo_g_0 (by decide +kernel) ?_
  refine lv_iconst (v := nI 3) hx hb d_Mo_g_3 (by decide +kernel) ?_
  refine lv_iload_n hx hb d_Mo_g_4 rfl (lv_at hl 0 rfl) ?_
  refine g_imul C0 (z := 3 * a) d_Mo_g_5 rfl ?_
  refine g_iadd C0 (z := 463 + (3 * a)) d_Mo_g_6 rfl ?_
  refine g_iret C0 hlk hr d_Mo_g_7 (t_nil (free := noF)) ?_
  exact ⟨rfl, rfl⟩

set_option maxHeartbeats 4000000 in
set_option maxRecDepth 100000 in
theorem k_Mo_k (l : Launch) (G : gT) (a : Nat) : gM l y_Mo_k c_Mo_k 1 (some .int) 0 0 0 0 G [.int (nI a)] (fun _ => True) (rd (.int (nI (511 + 3 * a)))) noF := by
  refine g_enter "GaleNamesModel" (by decide +kernel) rfl (Nat.le_of_ble_eq_true rfl) ?_
  intro p e s m args below meth c C0 hlk hr hnm hP hK ls hl
  have hx := C0.1
  have hb := C0.2.1
  have hl : lv_has ls 1 [(0, .int (nI a))] := hl
  refine lv_sipush (v := nI 511) hx hb d_Mo_k_0 (by decide +kernel) ?_
  refine lv_iconst (v := nI 3) hx hb d_Mo_k_3 (by decide +kernel) ?_
  refine lv_iload_n hx hb d_Mo_k_4 rfl (lv_at hl 0 rfl) ?_
  refine g_imul C0 (z := 3 * a) d_Mo_k_5 rfl ?_
  refine g_iadd C0 (z := 511 + (3 * a)) d_Mo_k_6 rfl ?_
  refine g_iret C0 hlk hr d_Mo_k_7 (t_nil (free := noF)) ?_
  exact ⟨rfl, rfl⟩

set_option maxHeartbeats 4000000 in
set_option maxRecDepth 100000 in
theorem k_Mo_isName (l : Launch) (G : gT) (o : Nat) (S sp bf sv iz rr pd : Nat → Nat) (ln sts td ac : Nat) (x : Int32) (hM : mOk S) : gM l y_Mo_isName c_Mo_isName 2 (some .boolean) 1 22 0 0 G [.ref o, .int x] (fun H => MAt G o S sp bf sv iz rr pd ln sts td ac H) (rd (.int (bI (inR x (S 4))))) noF := by
  refine g_enter "GaleNamesModel" (by decide +kernel) rfl (Nat.le_of_ble_eq_true rfl) ?_
  intro p e s m args below meth c C0 hlk hr hnm hP hK ls hl
  have hx := C0.1
  have hb := C0.2.1
  have hl : lv_has ls 2 [(0, .ref o), (1, .int x)] := hl
  have hn40 := hM.n
  have hg16 := hM.g
  have hk10 := hM.k
  refine lv_iload_n hx hb d_Mo_isName_0 rfl (lv_at hl 1 rfl) ?_
  refine lv_iconst (v := nI 0) hx hb d_Mo_isName_1 (by decide +kernel) ?_
  refine lv_aload_n hx hb d_Mo_isName_2 rfl (lv_at hl 0 rfl) ?_
  refine g_get C0 hK il_Mo hP.1 rfl 0 (by decide) fl_Mo_7 rfl d_Mo_isName_3 ?_
  refine lv_iconst (v := nI 4) hx hb d_Mo_isName_6 (by decide +kernel) ?_
  refine g_iald C0 hK hP.2.1 (by omega) (by omega) d_Mo_isName_7 ?_
  refine lv_iconst (v := nI 1) hx hb d_Mo_isName_8 (by decide +kernel) ?_
  refine lv_isub hx hb d_Mo_isName_9 ?_
  refine g_S C0 (k_Mo_in l G x (nI 0) ((nI (S 4)) - (nI 1))) co_Mo_in sm_Mo_in in_Mo gc_Mo_in ml_Mo_33 ⟨Nat.le_of_ble_eq_true rfl, Nat.le_of_ble_eq_true rfl⟩ hK trivial rfl hl.1 rfl (Nat.le_of_ble_eq_true rfl) d_Mo_isName_10 ⟨Nat.le_of_ble_eq_true rfl, Nat.le_of_ble_eq_true rfl⟩ (g_r rfl ?_)
  refine g_zret C0 hlk hr d_Mo_isName_13 (t_nil (free := noF)) ?_
  exact ⟨rdB (inD_R (hM.b (by decide))).symm, rfl⟩

set_option maxHeartbeats 4000000 in
set_option maxRecDepth 100000 in
theorem k_Mo_isStorm (l : Launch) (G : gT) (o : Nat) (S sp bf sv iz rr pd : Nat → Nat) (ln sts td ac : Nat) (x : Int32) (hM : mOk S) : gM l y_Mo_isStorm c_Mo_isStorm 2 (some .boolean) 1 22 0 0 G [.ref o, .int x] (fun H => MAt G o S sp bf sv iz rr pd ln sts td ac H) (rd (.int (bI (inR x (S 5))))) noF := by
  refine g_enter "GaleNamesModel" (by decide +kernel) rfl (Nat.le_of_ble_eq_true rfl) ?_
  intro p e s m args below meth c C0 hlk hr hnm hP hK ls hl
  have hx := C0.1
  have hb := C0.2.1
  have hl : lv_has ls 2 [(0, .ref o), (1, .int x)] := hl
  have hn40 := hM.n
  have hg16 := hM.g
  have hk10 := hM.k
  refine lv_iload_n hx hb d_Mo_isStorm_0 rfl (lv_at hl 1 rfl) ?_
  refine lv_iconst (v := nI 0) hx hb d_Mo_isStorm_1 (by decide +kernel) ?_
  refine lv_aload_n hx hb d_Mo_isStorm_2 rfl (lv_at hl 0 rfl) ?_
  refine g_get C0 hK il_Mo hP.1 rfl 0 (by decide) fl_Mo_7 rfl d_Mo_isStorm_3 ?_
  refine lv_iconst (v := nI 5) hx hb d_Mo_isStorm_6 (by decide +kernel) ?_
  refine g_iald C0 hK hP.2.1 (by omega) (by omega) d_Mo_isStorm_7 ?_
  refine lv_iconst (v := nI 1) hx hb d_Mo_isStorm_8 (by decide +kernel) ?_
  refine lv_isub hx hb d_Mo_isStorm_9 ?_
  refine g_S C0 (k_Mo_in l G x (nI 0) ((nI (S 5)) - (nI 1))) co_Mo_in sm_Mo_in in_Mo gc_Mo_in ml_Mo_33 ⟨Nat.le_of_ble_eq_true rfl, Nat.le_of_ble_eq_true rfl⟩ hK trivial rfl hl.1 rfl (Nat.le_of_ble_eq_true rfl) d_Mo_isStorm_10 ⟨Nat.le_of_ble_eq_true rfl, Nat.le_of_ble_eq_true rfl⟩ (g_r rfl ?_)
  refine g_zret C0 hlk hr d_Mo_isStorm_13 (t_nil (free := noF)) ?_
  exact ⟨rdB (inD_R (hM.b (by decide))).symm, rfl⟩

set_option maxHeartbeats 4000000 in
set_option maxRecDepth 100000 in
theorem k_Mo_isSake (l : Launch) (G : gT) (o : Nat) (S sp bf sv iz rr pd : Nat → Nat) (ln sts td ac : Nat) (x : Int32) (hM : mOk S) : gM l y_Mo_isSake c_Mo_isSake 2 (some .boolean) 1 22 0 0 G [.ref o, .int x] (fun H => MAt G o S sp bf sv iz rr pd ln sts td ac H) (rd (.int (bI (inR x (S 7))))) noF := by
  refine g_enter "GaleNamesModel" (by decide +kernel) rfl (Nat.le_of_ble_eq_true rfl) ?_
  intro p e s m args below meth c C0 hlk hr hnm hP hK ls hl
  have hx := C0.1
  have hb := C0.2.1
  have hl : lv_has ls 2 [(0, .ref o), (1, .int x)] := hl
  have hn40 := hM.n
  have hg16 := hM.g
  have hk10 := hM.k
  refine lv_iload_n hx hb d_Mo_isSake_0 rfl (lv_at hl 1 rfl) ?_
  refine lv_iconst (v := nI 0) hx hb d_Mo_isSake_1 (by decide +kernel) ?_
  refine lv_aload_n hx hb d_Mo_isSake_2 rfl (lv_at hl 0 rfl) ?_
  refine g_get C0 hK il_Mo hP.1 rfl 0 (by decide) fl_Mo_7 rfl d_Mo_isSake_3 ?_
  refine lv_bipush (v := nI 7) hx hb d_Mo_isSake_6 (by decide +kernel) ?_
  refine g_iald C0 hK hP.2.1 (by omega) (by omega) d_Mo_isSake_8 ?_
  refine lv_iconst (v := nI 1) hx hb d_Mo_isSake_9 (by decide +kernel) ?_
  refine lv_isub hx hb d_Mo_isSake_10 ?_
  refine g_S C0 (k_Mo_in l G x (nI 0) ((nI (S 7)) - (nI 1))) co_Mo_in sm_Mo_in in_Mo gc_Mo_in ml_Mo_33 ⟨Nat.le_of_ble_eq_true rfl, Nat.le_of_ble_eq_true rfl⟩ hK trivial rfl hl.1 rfl (Nat.le_of_ble_eq_true rfl) d_Mo_isSake_11 ⟨Nat.le_of_ble_eq_true rfl, Nat.le_of_ble_eq_true rfl⟩ (g_r rfl ?_)
  refine g_zret C0 hlk hr d_Mo_isSake_14 (t_nil (free := noF)) ?_
  exact ⟨rdB (inD_R (hM.b (by decide))).symm, rfl⟩

set_option maxHeartbeats 4000000 in
set_option maxRecDepth 100000 in
theorem k_Mo_isList (l : Launch) (G : gT) (x y : Int32) : gM l y_Mo_isList c_Mo_isList 2 (some .boolean) 1 22 0 0 G [.int x, .int y] (fun _ => True) (rd (.int (bI (inL x y)))) noF := by
  refine g_enter "GaleNamesModel" (by decide +kernel) rfl (Nat.le_of_ble_eq_true rfl) ?_
  intro p e s m args below meth c C0 hlk hr hnm hP hK ls hl
  have hx := C0.1
  have hb := C0.2.1
  have hl : lv_has ls 2 [(0, .int x), (1, .int y)] := hl
  refine lv_iload_n hx hb d_Mo_isList_0 rfl (lv_at hl 0 rfl) ?_
  refine lv_iconst (v := nI 0) hx hb d_Mo_isList_1 (by decide +kernel) ?_
  refine lv_iconst (v := nI 1) hx hb d_Mo_isList_2 (by decide +kernel) ?_
  refine g_S C0 (k_Mo_in l G x (nI 0) (nI 1)) co_Mo_in sm_Mo_in in_Mo gc_Mo_in ml_Mo_33 ⟨Nat.le_of_ble_eq_true rfl, Nat.le_of_ble_eq_true rfl⟩ hK trivial rfl hl.1 rfl (Nat.le_of_ble_eq_true rfl) d_Mo_isList_3 ⟨Nat.le_of_ble_eq_true rfl, Nat.le_of_ble_eq_true rfl⟩ (g_r rfl ?_)
  refine g_zeq (tgt := 22) C0 d_Mo_isList_6 (by decide) (fun c_6 => ?_) (fun c_6 => ?_)
  · skip
    refine lv_iconst (v := nI 0) hx hb d_Mo_isList_22 (by decide +kernel) ?_
    refine g_zret (b := false) C0 hlk hr d_Mo_isList_23 (t_nil (free := noF)) ?_
    exact ⟨rdB (by unfold inL; rw [← inD_c (x := x) (h := 1) (by decide), ← inD_c (x := y) (h := 2) (by decide), c_6, Bool.false_and]), rfl⟩
  · skip
    refine lv_iload_n hx hb d_Mo_isList_9 rfl (lv_at hl 1 rfl) ?_
    refine lv_iconst (v := nI 0) hx hb d_Mo_isList_10 (by decide +kernel) ?_
    refine lv_iconst (v := nI 2) hx hb d_Mo_isList_11 (by decide +kernel) ?_
    refine g_S C0 (k_Mo_in l G y (nI 0) (nI 2)) co_Mo_in sm_Mo_in in_Mo gc_Mo_in ml_Mo_33 ⟨Nat.le_of_ble_eq_true rfl, Nat.le_of_ble_eq_true rfl⟩ hK trivial rfl hl.1 rfl (Nat.le_of_ble_eq_true rfl) d_Mo_isList_12 ⟨Nat.le_of_ble_eq_true rfl, Nat.le_of_ble_eq_true rfl⟩ (g_r rfl ?_)
    refine g_zeq (tgt := 22) C0 d_Mo_isList_15 (by decide) (fun c_15 => ?_) (fun c_15 => ?_)
    · skip
      refine lv_iconst (v := nI 0) hx hb d_Mo_isList_22 (by decide +kernel) ?_
      refine g_zret (b := false) C0 hlk hr d_Mo_isList_23 (t_nil (free := noF)) ?_
      exact ⟨rdB (by unfold inL; rw [← inD_c (x := x) (h := 1) (by decide), ← inD_c (x := y) (h := 2) (by decide), c_6, c_15]; rfl), rfl⟩
    · skip
      refine lv_iconst (v := nI 1) hx hb d_Mo_isList_18 (by decide +kernel) ?_
      refine lv_goto (tgt := 23) hx hb d_Mo_isList_19 (by decide) ?_
      refine g_zret (b := true) C0 hlk hr d_Mo_isList_23 (t_nil (free := noF)) ?_
      exact ⟨rdB (by unfold inL; rw [← inD_c (x := x) (h := 1) (by decide), ← inD_c (x := y) (h := 2) (by decide), c_6, c_15]; rfl), rfl⟩

set_option maxHeartbeats 4000000 in
set_option maxRecDepth 100000 in
theorem k_Mo_known (l : Launch) (G : gT) (o : Nat) (S sp bf sv iz rr pd : Nat → Nat) (ln sts td ac : Nat) (w : Nat) (hw : w < td) (hM : mOk S) (hR : rOk rr pd td) : gM l y_Mo_known c_Mo_known 6 (some .int) 1 20 0 0 G [.ref o, .int (nI w)] (fun H => MAt G o S sp bf sv iz rr pd ln sts td ac H) (rd (.int (oI (-6) (mKn S rr pd w)))) noF := by
  refine g_enter "GaleNamesModel" (by decide +kernel) rfl (Nat.le_of_ble_eq_true rfl) ?_
  intro p e s m args below meth c C0 hlk hr hnm hP hK ls hl
  have hx := C0.1
  have hb := C0.2.1
  have hl : lv_has ls 6 [(0, .ref o), (1, .int (nI w))] := hl
  have hn40 := hM.n
  have hg16 := hM.g
  have hk10 := hM.k
  have htd := hR.1
  have hwa := hR.a hw
  have hwl := hR.l hw
  refine lv_bipush (v := -6) hx hb d_Mo_known_0 (by decide +kernel) ?_
  refine lv_istore_n (lv' := [(2, .int (-6)), (0, .ref o), (1, .int (nI w))]) hx hb d_Mo_known_2 rfl hl (by decide) rfl (fun ls hl => ?_)
  refine lv_iconst (v := nI 0) hx hb d_Mo_known_3 (by decide +kernel) ?_
  refine lv_istore_n (lv' := [(3, .int (nI 0)), (2, .int (-6)), (0, .ref o), (1, .int (nI w))]) hx hb d_Mo_known_4 rfl hl (by decide) rfl (fun ls hl => ?_)
  have lp5 : ∀ (fu : Nat) (i : Nat) (f : Option Nat), (S 4 - i) < fu → i ≤ S 4 → f = lF (mtB S rr pd w) i → ∀ ls : Array Slot, lv_has ls 6 [(3, .int (nI i)), (2, .int (oI (-6) f)), (0, .ref o), (1, .int (nI w))] → W p l e ({ frames := 1, cells := 0, slots := 0, locals := 20 } : Room) s m args below meth c s.heap [] 0 0 (MQ below (gQ (rd (.int (oI (-6) (mKn S rr pd w))))) args s 0 0 noF) (F0 m 5 ls []) := by
    intro fu
    induction fu with
    | zero => intro i f  hfu; exact absurd hfu (Nat.not_lt_zero _)
    | succ fu ih5 =>
      intro i f hfu hi hf2 ls hl
      refine lv_iload_n hx hb d_Mo_known_5 rfl (lv_at hl 0 rfl) ?_
      refine lv_aload_n hx hb d_Mo_known_6 rfl (lv_at hl 2 rfl) ?_
      refine g_get C0 hK il_Mo hP.1 rfl 0 (by decide) fl_Mo_7 rfl d_Mo_known_7 ?_
      refine lv_iconst (v := nI 4) hx hb d_Mo_known_10 (by decide +kernel) ?_
      refine g_iald C0 hK hP.2.1 (by omega) (by omega) d_Mo_known_11 ?_
      refine g_cge (tgt := 130) C0 d_Mo_known_12 (by decide) (by first | omega | exact hM.b (by omega) | exact hR.p (by omega)) (by first | omega | exact hM.b (by omega) | exact hR.p (by omega)) (fun c_12 => ?_) (fun c_12 => ?_)
      · skip
        refine lv_iload_n hx hb d_Mo_known_130 rfl (lv_at hl 1 rfl) ?_
        refine g_iret C0 hlk hr d_Mo_known_131 (t_nil (free := noF)) ?_
        exact ⟨rdI (by rw [hf2, show i = S 4 by omega]; rfl), rfl⟩
      · skip
        refine lv_aload_n hx hb d_Mo_known_15 rfl (lv_at hl 2 rfl) ?_
        refine g_get C0 hK il_Mo hP.1 rfl 0 (by decide) fl_Mo_7 rfl d_Mo_known_16 ?_
        refine lv_iload_n hx hb d_Mo_known_19 rfl (lv_at hl 0 rfl) ?_
        refine g_S C0 (k_Mo_n l G i) co_Mo_n sm_Mo_n in_Mo gc_Mo_n ml_Mo_57 ⟨Nat.le_of_ble_eq_true rfl, Nat.le_of_ble_eq_true rfl⟩ hK trivial rfl hl.1 rfl (Nat.le_of_ble_eq_true rfl) d_Mo_known_20 ⟨Nat.le_of_ble_eq_true rfl, Nat.le_of_ble_eq_true rfl⟩ (g_r rfl ?_)
        refine g_iald C0 hK hP.2.1 (by omega) (by omega) d_Mo_known_23 ?_
        refine lv_aload_n hx hb d_Mo_known_24 rfl (lv_at hl 2 rfl) ?_
        refine g_get C0 hK il_Mo hP.1 rfl 5 (by decide) fl_Mo_26 rfl d_Mo_known_25 ?_
        refine lv_iconst (v := nI 2) hx hb d_Mo_known_28 (by decide +kernel) ?_
        refine lv_iload_n hx hb d_Mo_known_29 rfl (lv_at hl 3 rfl) ?_
        refine g_imul C0 (z := 2 * w) d_Mo_known_30 rfl ?_
        refine lv_iconst (v := nI 1) hx hb d_Mo_known_31 (by decide +kernel) ?_
        refine g_iadd C0 (z := 2 * w + 1) d_Mo_known_32 rfl ?_
        refine g_iald C0 hK hP.2.2.2.2.2.2.1 (by omega) (by omega) d_Mo_known_33 ?_
        refine g_cne (tgt := 41) C0 d_Mo_known_34 (by decide) (by first | omega | exact hM.b (by omega) | exact hR.p (by omega)) (by first | omega | exact hM.b (by omega) | exact hR.p (by omega)) (fun c_34 => ?_) (fun c_34 => ?_)
        · skip
          refine lv_iconst (v := nI 0) hx hb d_Mo_known_41 (by decide +kernel) ?_
          refine lv_istore (lv' := [(4, .int (nI 0)), (3, .int (nI i)), (2, .int (oI (-6) f)), (0, .ref o), (1, .int (nI w))]) hx hb d_Mo_known_42 hl (by decide) rfl (fun ls hl => ?_)
          refine lv_iconst (v := nI 0) hx hb d_Mo_known_44 (by decide +kernel) ?_
          refine lv_istore (lv' := [(5, .int (nI 0)), (4, .int (nI 0)), (3, .int (nI i)), (2, .int (oI (-6) f)), (0, .ref o), (1, .int (nI w))]) hx hb d_Mo_known_45 hl (by decide) rfl (fun ls hl => ?_)
          have lp47 : ∀ (fu : Nat) (k : Nat) (b : Bool), (rr (2 * w + 1) - k) < fu → k ≤ rr (2 * w + 1) → b = (S (9 + 10 * i) == rr (2 * w + 1) && !aN (fun j => S (9 + 10 * i + 1 + j) != pd (rr (2 * w) + j)) k) → ∀ ls : Array Slot, lv_has ls 6 [(5, .int (nI k)), (4, .int (bI b)), (3, .int (nI i)), (2, .int (oI (-6) f)), (0, .ref o), (1, .int (nI w))] → W p l e ({ frames := 1, cells := 0, slots := 0, locals := 20 } : Room) s m args below meth c s.heap [] 0 0 (MQ below (gQ (rd (.int (oI (-6) (mKn S rr pd w))))) args s 0 0 noF) (F0 m 47 ls []) := by
            intro fu
            induction fu with
            | zero => intro k b  hfu; exact absurd hfu (Nat.not_lt_zero _)
            | succ fu ih47 =>
              intro k b hfu hk hbb ls hl
              refine lv_iload hx hb d_Mo_known_47 (lv_at hl 0 rfl) ?_
              refine lv_aload_n hx hb d_Mo_known_49 rfl (lv_at hl 4 rfl) ?_
              refine g_get C0 hK il_Mo hP.1 rfl 5 (by decide) fl_Mo_26 rfl d_Mo_known_50 ?_
              refine lv_iconst (v := nI 2) hx hb d_Mo_known_53 (by decide +kernel) ?_
              refine lv_iload_n hx hb d_Mo_known_54 rfl (lv_at hl 5 rfl) ?_
              refine g_imul C0 (z := 2 * w) d_Mo_known_55 rfl ?_
              refine lv_iconst (v := nI 1) hx hb d_Mo_known_56 (by decide +kernel) ?_
              refine g_iadd C0 (z := 2 * w + 1) d_Mo_known_57 rfl ?_
              refine g_iald C0 hK hP.2.2.2.2.2.2.1 (by omega) (by omega) d_Mo_known_58 ?_
              refine g_cge (tgt := 113) C0 d_Mo_known_59 (by decide) (by first | omega | exact hM.b (by omega) | exact hR.p (by omega)) (by first | omega | exact hM.b (by omega) | exact hR.p (by omega)) (fun c_59 => ?_) (fun c_59 => ?_)
              · skip
                have hmb : mtB S rr pd w i = b := by
                  unfold mtB
                  rw [show rr (2 * w + 1) = k by omega] at hbb ⊢; exact hbb.symm
                refine lv_iload hx hb d_Mo_known_113 (lv_at hl 1 rfl) ?_
                refine g_zeq (tgt := 122) C0 d_Mo_known_115 (by decide) (fun c_115 => ?_) (fun c_115 => ?_)
                · skip
                  have hmt : mtB S rr pd w i = false := hmb.trans c_115
                  refine lv_iload_n hx hb d_Mo_known_122 rfl (lv_at hl 3 rfl) ?_
                  refine lv_istore_n (lv' := [(2, .int (oI (-6) f)), (5, .int (nI k)), (4, .int (bI b)), (3, .int (nI i)), (0, .ref o), (1, .int (nI w))]) hx hb d_Mo_known_123 rfl hl (by decide) rfl (fun ls hl => ?_)
                  refine lv_iinc (v := (nI (i + 1))) (lv' := [(3, .int (nI (i + 1))), (2, .int (oI (-6) f)), (5, .int (nI k)), (4, .int (bI b)), (0, .ref o), (1, .int (nI w))]) hx hb d_Mo_known_124 hl (k := 3) rfl (gI_inc _) (by decide) rfl (fun ls hl => ?_)
                  refine lv_goto (tgt := 5) hx hb d_Mo_known_127 (by decide) ?_
                  exact ih5 (i + 1) f (by omega) (by omega) (by rw [lF_f hmt, ← hf2]) ls (lv_sub hl [0, 1, 4, 5] rfl)
                · skip
                  have hmt : mtB S rr pd w i = true := hmb.trans c_115
                  refine lv_iload_n hx hb d_Mo_known_118 rfl (lv_at hl 2 rfl) ?_
                  refine lv_goto (tgt := 123) hx hb d_Mo_known_119 (by decide) ?_
                  refine lv_istore_n (lv' := [(2, .int (nI i)), (5, .int (nI k)), (4, .int (bI b)), (3, .int (nI i)), (0, .ref o), (1, .int (nI w))]) hx hb d_Mo_known_123 rfl hl (by decide) rfl (fun ls hl => ?_)
                  refine lv_iinc (v := (nI (i + 1))) (lv' := [(3, .int (nI (i + 1))), (2, .int (nI i)), (5, .int (nI k)), (4, .int (bI b)), (0, .ref o), (1, .int (nI w))]) hx hb d_Mo_known_124 hl (k := 3) rfl (gI_inc _) (by decide) rfl (fun ls hl => ?_)
                  refine lv_goto (tgt := 5) hx hb d_Mo_known_127 (by decide) ?_
                  exact ih5 (i + 1) (some i) (by omega) (by omega) (by rw [lF_t hmt]) ls (lv_sub hl [0, 1, 4, 5] rfl)
              · skip
                refine lv_iload hx hb d_Mo_known_62 (lv_at hl 1 rfl) ?_
                refine g_zeq (tgt := 113) C0 d_Mo_known_64 (by decide) (fun c_64 => ?_) (fun c_64 => ?_)
                · skip
                  have hmb : mtB S rr pd w i = b := by
                    unfold mtB
                    rw [c_64] at hbb ⊢; exact mtB_f hbb.symm hk
                  refine lv_iload hx hb d_Mo_known_113 (lv_at hl 1 rfl) ?_
                  refine g_zeq (tgt := 122) C0 d_Mo_known_115 (by decide) (fun c_115 => ?_) (fun c_115 => ?_)
                  · skip
                    have hmt : mtB S rr pd w i = false := hmb.trans c_115
                    refine lv_iload_n hx hb d_Mo_known_122 rfl (lv_at hl 3 rfl) ?_
                    refine lv_istore_n (lv' := [(2, .int (oI (-6) f)), (5, .int (nI k)), (4, .int (bI b)), (3, .int (nI i)), (0, .ref o), (1, .int (nI w))]) hx hb d_Mo_known_123 rfl hl (by decide) rfl (fun ls hl => ?_)
                    refine lv_iinc (v := (nI (i + 1))) (lv' := [(3, .int (nI (i + 1))), (2, .int (oI (-6) f)), (5, .int (nI k)), (4, .int (bI b)), (0, .ref o), (1, .int (nI w))]) hx hb d_Mo_known_124 hl (k := 3) rfl (gI_inc _) (by decide) rfl (fun ls hl => ?_)
                    refine lv_goto (tgt := 5) hx hb d_Mo_known_127 (by decide) ?_
                    exact ih5 (i + 1) f (by omega) (by omega) (by rw [lF_f hmt, ← hf2]) ls (lv_sub hl [0, 1, 4, 5] rfl)
                  · skip
                    have hmt : mtB S rr pd w i = true := hmb.trans c_115
                    refine lv_iload_n hx hb d_Mo_known_118 rfl (lv_at hl 2 rfl) ?_
                    refine lv_goto (tgt := 123) hx hb d_Mo_known_119 (by decide) ?_
                    refine lv_istore_n (lv' := [(2, .int (nI i)), (5, .int (nI k)), (4, .int (bI b)), (3, .int (nI i)), (0, .ref o), (1, .int (nI w))]) hx hb d_Mo_known_123 rfl hl (by decide) rfl (fun ls hl => ?_)
                    refine lv_iinc (v := (nI (i + 1))) (lv' := [(3, .int (nI (i + 1))), (2, .int (nI i)), (5, .int (nI k)), (4, .int (bI b)), (0, .ref o), (1, .int (nI w))]) hx hb d_Mo_known_124 hl (k := 3) rfl (gI_inc _) (by decide) rfl (fun ls hl => ?_)
                    refine lv_goto (tgt := 5) hx hb d_Mo_known_127 (by decide) ?_
                    exact ih5 (i + 1) (some i) (by omega) (by omega) (by rw [lF_t hmt]) ls (lv_sub hl [0, 1, 4, 5] rfl)
                · skip
                  refine lv_aload_n hx hb d_Mo_known_67 rfl (lv_at hl 4 rfl) ?_
                  refine g_get C0 hK il_Mo hP.1 rfl 0 (by decide) fl_Mo_7 rfl d_Mo_known_68 ?_
                  refine lv_iload_n hx hb d_Mo_known_71 rfl (lv_at hl 2 rfl) ?_
                  refine g_S C0 (k_Mo_n l G i) co_Mo_n sm_Mo_n in_Mo gc_Mo_n ml_Mo_57 ⟨Nat.le_of_ble_eq_true rfl, Nat.le_of_ble_eq_true rfl⟩ hK trivial rfl hl.1 rfl (Nat.le_of_ble_eq_true rfl) d_Mo_known_72 ⟨Nat.le_of_ble_eq_true rfl, Nat.le_of_ble_eq_true rfl⟩ (g_r rfl ?_)
                  refine lv_iconst (v := nI 1) hx hb d_Mo_known_75 (by decide +kernel) ?_
                  refine g_iadd C0 (z := 9 + 10 * i + 1) d_Mo_known_76 rfl ?_
                  refine lv_iload hx hb d_Mo_known_77 (lv_at hl 0 rfl) ?_
                  refine g_iadd C0 (z := 9 + 10 * i + 1 + k) d_Mo_known_79 rfl ?_
                  refine g_iald C0 hK hP.2.1 (by omega) (by omega) d_Mo_known_80 ?_
                  refine lv_aload_n hx hb d_Mo_known_81 rfl (lv_at hl 4 rfl) ?_
                  refine g_get C0 hK il_Mo hP.1 rfl 6 (by decide) fl_Mo_29 rfl d_Mo_known_82 ?_
                  refine lv_aload_n hx hb d_Mo_known_85 rfl (lv_at hl 4 rfl) ?_
                  refine g_get C0 hK il_Mo hP.1 rfl 5 (by decide) fl_Mo_26 rfl d_Mo_known_86 ?_
                  refine lv_iconst (v := nI 2) hx hb d_Mo_known_89 (by decide +kernel) ?_
                  refine lv_iload_n hx hb d_Mo_known_90 rfl (lv_at hl 5 rfl) ?_
                  refine g_imul C0 (z := 2 * w) d_Mo_known_91 rfl ?_
                  refine g_iald C0 hK hP.2.2.2.2.2.2.1 (by omega) (by omega) d_Mo_known_92 ?_
                  refine lv_iload hx hb d_Mo_known_93 (lv_at hl 0 rfl) ?_
                  refine g_iadd C0 (z := rr (2 * w) + k) d_Mo_known_95 rfl ?_
                  refine g_cald C0 hK hP.2.2.2.2.2.2.2 (by omega) (by omega) d_Mo_known_96 ?_
                  refine g_cne (tgt := 104) C0 d_Mo_known_97 (by decide) (by first | omega | exact hM.b (by omega) | exact hR.p (by omega)) (by first | omega | exact hM.b (by omega) | exact hR.p (by omega)) (fun c_97 => ?_) (fun c_97 => ?_)
                  · skip
                    refine lv_iconst (v := nI 0) hx hb d_Mo_known_104 (by decide +kernel) ?_
                    refine lv_istore (lv' := [(4, .int (nI 0)), (5, .int (nI k)), (3, .int (nI i)), (2, .int (oI (-6) f)), (0, .ref o), (1, .int (nI w))]) hx hb d_Mo_known_105 hl (by decide) rfl (fun ls hl => ?_)
                    refine lv_iinc (v := (nI (k + 1))) (lv' := [(5, .int (nI (k + 1))), (4, .int (nI 0)), (3, .int (nI i)), (2, .int (oI (-6) f)), (0, .ref o), (1, .int (nI w))]) hx hb d_Mo_known_107 hl (k := 1) rfl (gI_inc _) (by decide) rfl (fun ls hl => ?_)
                    refine lv_goto (tgt := 47) hx hb d_Mo_known_110 (by decide) ?_
                    exact ih47 (k + 1) false (by omega) (by omega) (by rw [aN_s]; rw [c_64] at hbb; have h2 := hbb.symm; rw [Bool.and_eq_true] at h2; rw [h2.1, Bool.true_and]; have h3 := h2.2; rw [Bool.not_eq_true'] at h3; rw [h3]; simp [c_97]) ls (lv_sub hl [0, 1, 2, 3, 4, 5] rfl)
                  · skip
                    refine lv_iconst (v := nI 1) hx hb d_Mo_known_100 (by decide +kernel) ?_
                    refine lv_goto (tgt := 105) hx hb d_Mo_known_101 (by decide) ?_
                    refine lv_istore (lv' := [(4, .int (nI 1)), (5, .int (nI k)), (3, .int (nI i)), (2, .int (oI (-6) f)), (0, .ref o), (1, .int (nI w))]) hx hb d_Mo_known_105 hl (by decide) rfl (fun ls hl => ?_)
                    refine lv_iinc (v := (nI (k + 1))) (lv' := [(5, .int (nI (k + 1))), (4, .int (nI 1)), (3, .int (nI i)), (2, .int (oI (-6) f)), (0, .ref o), (1, .int (nI w))]) hx hb d_Mo_known_107 hl (k := 1) rfl (gI_inc _) (by decide) rfl (fun ls hl => ?_)
                    refine lv_goto (tgt := 47) hx hb d_Mo_known_110 (by decide) ?_
                    exact ih47 (k + 1) true (by omega) (by omega) (by rw [aN_s]; rw [c_64] at hbb; have h2 := hbb.symm; rw [Bool.and_eq_true] at h2; rw [h2.1, Bool.true_and]; have h3 := h2.2; rw [Bool.not_eq_true'] at h3; rw [h3]; simp [c_97]) ls (lv_sub hl [0, 1, 2, 3, 4, 5] rfl)
          exact lp47 ((rr (2 * w + 1) - 0) + 1) 0 false (by omega) (by omega) (by simp [aN, c_34]) ls (lv_sub hl [0, 1, 2, 3, 4, 5] rfl)
        · skip
          refine lv_iconst (v := nI 1) hx hb d_Mo_known_37 (by decide +kernel) ?_
          refine lv_goto (tgt := 42) hx hb d_Mo_known_38 (by decide) ?_
          refine lv_istore (lv' := [(4, .int (nI 1)), (3, .int (nI i)), (2, .int (oI (-6) f)), (0, .ref o), (1, .int (nI w))]) hx hb d_Mo_known_42 hl (by decide) rfl (fun ls hl => ?_)
          refine lv_iconst (v := nI 0) hx hb d_Mo_known_44 (by decide +kernel) ?_
          refine lv_istore (lv' := [(5, .int (nI 0)), (4, .int (nI 1)), (3, .int (nI i)), (2, .int (oI (-6) f)), (0, .ref o), (1, .int (nI w))]) hx hb d_Mo_known_45 hl (by decide) rfl (fun ls hl => ?_)
          have lp47 : ∀ (fu : Nat) (k : Nat) (b : Bool), (rr (2 * w + 1) - k) < fu → k ≤ rr (2 * w + 1) → b = (S (9 + 10 * i) == rr (2 * w + 1) && !aN (fun j => S (9 + 10 * i + 1 + j) != pd (rr (2 * w) + j)) k) → ∀ ls : Array Slot, lv_has ls 6 [(5, .int (nI k)), (4, .int (bI b)), (3, .int (nI i)), (2, .int (oI (-6) f)), (0, .ref o), (1, .int (nI w))] → W p l e ({ frames := 1, cells := 0, slots := 0, locals := 20 } : Room) s m args below meth c s.heap [] 0 0 (MQ below (gQ (rd (.int (oI (-6) (mKn S rr pd w))))) args s 0 0 noF) (F0 m 47 ls []) := by
            intro fu
            induction fu with
            | zero => intro k b  hfu; exact absurd hfu (Nat.not_lt_zero _)
            | succ fu ih47 =>
              intro k b hfu hk hbb ls hl
              refine lv_iload hx hb d_Mo_known_47 (lv_at hl 0 rfl) ?_
              refine lv_aload_n hx hb d_Mo_known_49 rfl (lv_at hl 4 rfl) ?_
              refine g_get C0 hK il_Mo hP.1 rfl 5 (by decide) fl_Mo_26 rfl d_Mo_known_50 ?_
              refine lv_iconst (v := nI 2) hx hb d_Mo_known_53 (by decide +kernel) ?_
              refine lv_iload_n hx hb d_Mo_known_54 rfl (lv_at hl 5 rfl) ?_
              refine g_imul C0 (z := 2 * w) d_Mo_known_55 rfl ?_
              refine lv_iconst (v := nI 1) hx hb d_Mo_known_56 (by decide +kernel) ?_
              refine g_iadd C0 (z := 2 * w + 1) d_Mo_known_57 rfl ?_
              refine g_iald C0 hK hP.2.2.2.2.2.2.1 (by omega) (by omega) d_Mo_known_58 ?_
              refine g_cge (tgt := 113) C0 d_Mo_known_59 (by decide) (by first | omega | exact hM.b (by omega) | exact hR.p (by omega)) (by first | omega | exact hM.b (by omega) | exact hR.p (by omega)) (fun c_59 => ?_) (fun c_59 => ?_)
              · skip
                have hmb : mtB S rr pd w i = b := by
                  unfold mtB
                  rw [show rr (2 * w + 1) = k by omega] at hbb ⊢; exact hbb.symm
                refine lv_iload hx hb d_Mo_known_113 (lv_at hl 1 rfl) ?_
                refine g_zeq (tgt := 122) C0 d_Mo_known_115 (by decide) (fun c_115 => ?_) (fun c_115 => ?_)
                · skip
                  have hmt : mtB S rr pd w i = false := hmb.trans c_115
                  refine lv_iload_n hx hb d_Mo_known_122 rfl (lv_at hl 3 rfl) ?_
                  refine lv_istore_n (lv' := [(2, .int (oI (-6) f)), (5, .int (nI k)), (4, .int (bI b)), (3, .int (nI i)), (0, .ref o), (1, .int (nI w))]) hx hb d_Mo_known_123 rfl hl (by decide) rfl (fun ls hl => ?_)
                  refine lv_iinc (v := (nI (i + 1))) (lv' := [(3, .int (nI (i + 1))), (2, .int (oI (-6) f)), (5, .int (nI k)), (4, .int (bI b)), (0, .ref o), (1, .int (nI w))]) hx hb d_Mo_known_124 hl (k := 3) rfl (gI_inc _) (by decide) rfl (fun ls hl => ?_)
                  refine lv_goto (tgt := 5) hx hb d_Mo_known_127 (by decide) ?_
                  exact ih5 (i + 1) f (by omega) (by omega) (by rw [lF_f hmt, ← hf2]) ls (lv_sub hl [0, 1, 4, 5] rfl)
                · skip
                  have hmt : mtB S rr pd w i = true := hmb.trans c_115
                  refine lv_iload_n hx hb d_Mo_known_118 rfl (lv_at hl 2 rfl) ?_
                  refine lv_goto (tgt := 123) hx hb d_Mo_known_119 (by decide) ?_
                  refine lv_istore_n (lv' := [(2, .int (nI i)), (5, .int (nI k)), (4, .int (bI b)), (3, .int (nI i)), (0, .ref o), (1, .int (nI w))]) hx hb d_Mo_known_123 rfl hl (by decide) rfl (fun ls hl => ?_)
                  refine lv_iinc (v := (nI (i + 1))) (lv' := [(3, .int (nI (i + 1))), (2, .int (nI i)), (5, .int (nI k)), (4, .int (bI b)), (0, .ref o), (1, .int (nI w))]) hx hb d_Mo_known_124 hl (k := 3) rfl (gI_inc _) (by decide) rfl (fun ls hl => ?_)
                  refine lv_goto (tgt := 5) hx hb d_Mo_known_127 (by decide) ?_
                  exact ih5 (i + 1) (some i) (by omega) (by omega) (by rw [lF_t hmt]) ls (lv_sub hl [0, 1, 4, 5] rfl)
              · skip
                refine lv_iload hx hb d_Mo_known_62 (lv_at hl 1 rfl) ?_
                refine g_zeq (tgt := 113) C0 d_Mo_known_64 (by decide) (fun c_64 => ?_) (fun c_64 => ?_)
                · skip
                  have hmb : mtB S rr pd w i = b := by
                    unfold mtB
                    rw [c_64] at hbb ⊢; exact mtB_f hbb.symm hk
                  refine lv_iload hx hb d_Mo_known_113 (lv_at hl 1 rfl) ?_
                  refine g_zeq (tgt := 122) C0 d_Mo_known_115 (by decide) (fun c_115 => ?_) (fun c_115 => ?_)
                  · skip
                    have hmt : mtB S rr pd w i = false := hmb.trans c_115
                    refine lv_iload_n hx hb d_Mo_known_122 rfl (lv_at hl 3 rfl) ?_
                    refine lv_istore_n (lv' := [(2, .int (oI (-6) f)), (5, .int (nI k)), (4, .int (bI b)), (3, .int (nI i)), (0, .ref o), (1, .int (nI w))]) hx hb d_Mo_known_123 rfl hl (by decide) rfl (fun ls hl => ?_)
                    refine lv_iinc (v := (nI (i + 1))) (lv' := [(3, .int (nI (i + 1))), (2, .int (oI (-6) f)), (5, .int (nI k)), (4, .int (bI b)), (0, .ref o), (1, .int (nI w))]) hx hb d_Mo_known_124 hl (k := 3) rfl (gI_inc _) (by decide) rfl (fun ls hl => ?_)
                    refine lv_goto (tgt := 5) hx hb d_Mo_known_127 (by decide) ?_
                    exact ih5 (i + 1) f (by omega) (by omega) (by rw [lF_f hmt, ← hf2]) ls (lv_sub hl [0, 1, 4, 5] rfl)
                  · skip
                    have hmt : mtB S rr pd w i = true := hmb.trans c_115
                    refine lv_iload_n hx hb d_Mo_known_118 rfl (lv_at hl 2 rfl) ?_
                    refine lv_goto (tgt := 123) hx hb d_Mo_known_119 (by decide) ?_
                    refine lv_istore_n (lv' := [(2, .int (nI i)), (5, .int (nI k)), (4, .int (bI b)), (3, .int (nI i)), (0, .ref o), (1, .int (nI w))]) hx hb d_Mo_known_123 rfl hl (by decide) rfl (fun ls hl => ?_)
                    refine lv_iinc (v := (nI (i + 1))) (lv' := [(3, .int (nI (i + 1))), (2, .int (nI i)), (5, .int (nI k)), (4, .int (bI b)), (0, .ref o), (1, .int (nI w))]) hx hb d_Mo_known_124 hl (k := 3) rfl (gI_inc _) (by decide) rfl (fun ls hl => ?_)
                    refine lv_goto (tgt := 5) hx hb d_Mo_known_127 (by decide) ?_
                    exact ih5 (i + 1) (some i) (by omega) (by omega) (by rw [lF_t hmt]) ls (lv_sub hl [0, 1, 4, 5] rfl)
                · skip
                  refine lv_aload_n hx hb d_Mo_known_67 rfl (lv_at hl 4 rfl) ?_
                  refine g_get C0 hK il_Mo hP.1 rfl 0 (by decide) fl_Mo_7 rfl d_Mo_known_68 ?_
                  refine lv_iload_n hx hb d_Mo_known_71 rfl (lv_at hl 2 rfl) ?_
                  refine g_S C0 (k_Mo_n l G i) co_Mo_n sm_Mo_n in_Mo gc_Mo_n ml_Mo_57 ⟨Nat.le_of_ble_eq_true rfl, Nat.le_of_ble_eq_true rfl⟩ hK trivial rfl hl.1 rfl (Nat.le_of_ble_eq_true rfl) d_Mo_known_72 ⟨Nat.le_of_ble_eq_true rfl, Nat.le_of_ble_eq_true rfl⟩ (g_r rfl ?_)
                  refine lv_iconst (v := nI 1) hx hb d_Mo_known_75 (by decide +kernel) ?_
                  refine g_iadd C0 (z := 9 + 10 * i + 1) d_Mo_known_76 rfl ?_
                  refine lv_iload hx hb d_Mo_known_77 (lv_at hl 0 rfl) ?_
                  refine g_iadd C0 (z := 9 + 10 * i + 1 + k) d_Mo_known_79 rfl ?_
                  refine g_iald C0 hK hP.2.1 (by omega) (by omega) d_Mo_known_80 ?_
                  refine lv_aload_n hx hb d_Mo_known_81 rfl (lv_at hl 4 rfl) ?_
                  refine g_get C0 hK il_Mo hP.1 rfl 6 (by decide) fl_Mo_29 rfl d_Mo_known_82 ?_
                  refine lv_aload_n hx hb d_Mo_known_85 rfl (lv_at hl 4 rfl) ?_
                  refine g_get C0 hK il_Mo hP.1 rfl 5 (by decide) fl_Mo_26 rfl d_Mo_known_86 ?_
                  refine lv_iconst (v := nI 2) hx hb d_Mo_known_89 (by decide +kernel) ?_
                  refine lv_iload_n hx hb d_Mo_known_90 rfl (lv_at hl 5 rfl) ?_
                  refine g_imul C0 (z := 2 * w) d_Mo_known_91 rfl ?_
                  refine g_iald C0 hK hP.2.2.2.2.2.2.1 (by omega) (by omega) d_Mo_known_92 ?_
                  refine lv_iload hx hb d_Mo_known_93 (lv_at hl 0 rfl) ?_
                  refine g_iadd C0 (z := rr (2 * w) + k) d_Mo_known_95 rfl ?_
                  refine g_cald C0 hK hP.2.2.2.2.2.2.2 (by omega) (by omega) d_Mo_known_96 ?_
                  refine g_cne (tgt := 104) C0 d_Mo_known_97 (by decide) (by first | omega | exact hM.b (by omega) | exact hR.p (by omega)) (by first | omega | exact hM.b (by omega) | exact hR.p (by omega)) (fun c_97 => ?_) (fun c_97 => ?_)
                  · skip
                    refine lv_iconst (v := nI 0) hx hb d_Mo_known_104 (by decide +kernel) ?_
                    refine lv_istore (lv' := [(4, .int (nI 0)), (5, .int (nI k)), (3, .int (nI i)), (2, .int (oI (-6) f)), (0, .ref o), (1, .int (nI w))]) hx hb d_Mo_known_105 hl (by decide) rfl (fun ls hl => ?_)
                    refine lv_iinc (v := (nI (k + 1))) (lv' := [(5, .int (nI (k + 1))), (4, .int (nI 0)), (3, .int (nI i)), (2, .int (oI (-6) f)), (0, .ref o), (1, .int (nI w))]) hx hb d_Mo_known_107 hl (k := 1) rfl (gI_inc _) (by decide) rfl (fun ls hl => ?_)
                    refine lv_goto (tgt := 47) hx hb d_Mo_known_110 (by decide) ?_
                    exact ih47 (k + 1) false (by omega) (by omega) (by rw [aN_s]; rw [c_64] at hbb; have h2 := hbb.symm; rw [Bool.and_eq_true] at h2; rw [h2.1, Bool.true_and]; have h3 := h2.2; rw [Bool.not_eq_true'] at h3; rw [h3]; simp [c_97]) ls (lv_sub hl [0, 1, 2, 3, 4, 5] rfl)
                  · skip
                    refine lv_iconst (v := nI 1) hx hb d_Mo_known_100 (by decide +kernel) ?_
                    refine lv_goto (tgt := 105) hx hb d_Mo_known_101 (by decide) ?_
                    refine lv_istore (lv' := [(4, .int (nI 1)), (5, .int (nI k)), (3, .int (nI i)), (2, .int (oI (-6) f)), (0, .ref o), (1, .int (nI w))]) hx hb d_Mo_known_105 hl (by decide) rfl (fun ls hl => ?_)
                    refine lv_iinc (v := (nI (k + 1))) (lv' := [(5, .int (nI (k + 1))), (4, .int (nI 1)), (3, .int (nI i)), (2, .int (oI (-6) f)), (0, .ref o), (1, .int (nI w))]) hx hb d_Mo_known_107 hl (k := 1) rfl (gI_inc _) (by decide) rfl (fun ls hl => ?_)
                    refine lv_goto (tgt := 47) hx hb d_Mo_known_110 (by decide) ?_
                    exact ih47 (k + 1) true (by omega) (by omega) (by rw [aN_s]; rw [c_64] at hbb; have h2 := hbb.symm; rw [Bool.and_eq_true] at h2; rw [h2.1, Bool.true_and]; have h3 := h2.2; rw [Bool.not_eq_true'] at h3; rw [h3]; simp [c_97]) ls (lv_sub hl [0, 1, 2, 3, 4, 5] rfl)
          exact lp47 ((rr (2 * w + 1) - 0) + 1) 0 true (by omega) (by omega) (by simp [aN, c_34]) ls (lv_sub hl [0, 1, 2, 3, 4, 5] rfl)
  exact lp5 ((S 4 - 0) + 1) 0 none (by omega) (by omega) rfl ls (lv_sub hl [0, 1, 2, 3] rfl)
