theorem k_Mo_learnsN (l : Launch) (G : gT) (o : Nat) (S sp bf sv iz rr pd : Nat → Nat) (ln sts td ac : Nat) (w : Nat) (hw : w < td) (h40 : mKn S rr pd w = none → S 4 < 40) (hM : mOk S) (hR : rOk rr pd td) : gM l y_Mo_learns c_Mo_learns 5 (some .int) 2 45 0 0 G [.ref o, .int (nI w)] (fun H => MAt G o S sp bf sv iz rr pd ln sts td ac H) (wi (.int (nI (zLn S rr pd w))) (fun H H1 => MAt G o (mLS S rr pd w) sp bf sv iz rr pd ln sts td ac H1 ∧ gFr o (o + 8) H H1)) (gRg o (o + 8)) := by
  have h := k_Mo_learns l G o S sp bf sv iz rr pd ln sts td ac w hw h40 hM hR
  rw [mLv_n] at h
  exact h

set_option maxHeartbeats 4000000 in
set_option maxRecDepth 100000 in
theorem k_Mo_retires (l : Launch) (G : gT) (o : Nat) (S sp bf sv iz rr pd : Nat → Nat) (ln sts td ac : Nat) (nm : Nat) (hv : nm < S 4) (hM : mOk S) : gM l y_Mo_retires c_Mo_retires 4 none 2 46 0 0 G [.ref o, .int (nI nm)] (fun H => MAt G o S sp bf sv iz rr pd ln sts td ac H) (wv (fun H H1 => MAt G o (rtK S nm 6) sp bf sv iz rr pd ln sts td ac H1 ∧ gFr o (o + 8) H H1)) (gRg o (o + 8)) := by
  refine g_enter "GaleNamesModel" (by decide +kernel) rfl (Nat.le_of_ble_eq_true rfl) ?_
  intro p e s m args below meth c C0 hlk hr hnm hP hK ls hl
  have hx := C0.1
  have hb := C0.2.1
  have hl : lv_has ls 4 [(0, .ref o), (1, .int (nI nm))] := hl
  have hn40 := hM.n
  have hg16 := hM.g
  have hk10 := hM.k
  have hv40 : nm < 40 := by omega
  refine lv_aload_n hx hb d_Mo_retires_0 rfl (lv_at hl 0 rfl) ?_
  refine g_get C0 hK il_Mo hP.1 rfl 0 (by decide) fl_Mo_7 rfl d_Mo_retires_1 ?_
  refine lv_iload_n hx hb d_Mo_retires_4 rfl (lv_at hl 1 rfl) ?_
  refine g_S C0 (k_Mo_n l G nm) co_Mo_n sm_Mo_n in_Mo gc_Mo_n ml_Mo_57 ⟨Nat.le_of_ble_eq_true rfl, Nat.le_of_ble_eq_true rfl⟩ hK trivial rfl hl.1 rfl (Nat.le_of_ble_eq_true rfl) d_Mo_retires_5 ⟨Nat.le_of_ble_eq_true rfl, Nat.le_of_ble_eq_true rfl⟩ (g_r rfl ?_)
  refine lv_bipush (v := nI 7) hx hb d_Mo_retires_8 (by decide +kernel) ?_
  refine g_iadd C0 (z := 9 + 10 * nm + 7) d_Mo_retires_10 rfl ?_
  refine lv_iconst (v := nI 1) hx hb d_Mo_retires_11 (by decide +kernel) ?_
  refine g_iast (free := gRg o (o + 8)) C0 hK hP.2.1 (by omega) (by omega) d_Mo_retires_12 (t_nil (free := gRg o (o + 8))) (gRg.mk (by omega) (by omega)) (fun H_1 locs hL hA_2 hc_3 => ?_)
  refine lv_iconst (v := nI 0) hx hb d_Mo_retires_13 (by decide +kernel) ?_
  refine lv_istore_n (lv' := [(2, .int (nI 0)), (0, .ref o), (1, .int (nI nm))]) hx hb d_Mo_retires_14 rfl hl (by decide) rfl (fun ls hl => ?_)
  have lp15 : ∀ (fu : Nat) (k : Nat) (H : Heap) (locs : List Loc), (6 - k) < fu → k ≤ 6 → (∀ qq ∈ locs, (gRg o (o + 8)) qq.base) → MAt G o (rtK S nm k) sp bf sv iz rr pd ln sts td ac H → gFr o (o + 8) s.heap H → ∀ ls : Array Slot, lv_has ls 4 [(2, .int (nI k)), (0, .ref o), (1, .int (nI nm))] → W p l e ({ frames := 2, cells := 0, slots := 0, locals := 46 } : Room) s m args below meth c H locs 0 0 (MQ below (gQ (wv (fun H H1 => MAt G o (rtK S nm 6) sp bf sv iz rr pd ln sts td ac H1 ∧ gFr o (o + 8) H H1))) args s 0 0 (gRg o (o + 8))) (F0 m 15 ls []) := by
    intro fu
    induction fu with
    | zero => intro k H locs hfu; exact absurd hfu (Nat.not_lt_zero _)
    | succ fu ih15 =>
      intro k H locs hfu hk hL hP hF ls hl
      have hMk := rtK_ok (v := nm) hM hv40 k hk
      refine lv_iload_n hx hb d_Mo_retires_15 rfl (lv_at hl 0 rfl) ?_
      refine lv_bipush (v := nI 6) hx hb d_Mo_retires_16 (by decide +kernel) ?_
      refine g_cge (tgt := 87) C0 d_Mo_retires_18 (by decide) (by first | omega | exact hM.b (by omega) | exact hR.p (by omega)) (by first | omega | exact hM.b (by omega) | exact hR.p (by omega)) (fun c_18 => ?_) (fun c_18 => ?_)
      · skip
        have ek : k = 6 := by omega
        subst ek
        refine g_vret C0 hlk hr d_Mo_retires_87 hL ?_
        exact ⟨rfl, ⟨hP.1, hP.2.1, hP.2.2.1, hP.2.2.2.1, hP.2.2.2.2.1, hP.2.2.2.2.2.1, hP.2.2.2.2.2.2.1, hP.2.2.2.2.2.2.2⟩, hF⟩
      · skip
        have hk3 : k / 3 < 2 := by omega
        have hk4 : k % 3 < 3 := by omega
        have hl8 := hMk.1.l hk3 hk4
        have hrI := rtI_ok (v := nm) (c := k / 3) (k := k % 3) hMk.1 (by omega) (by omega)
        refine lv_aload_n hx hb d_Mo_retires_21 rfl (lv_at hl 1 rfl) ?_
        refine g_get C0 hK il_Mo hP.1 rfl 0 (by decide) fl_Mo_7 rfl d_Mo_retires_22 ?_
        refine lv_iload_n hx hb d_Mo_retires_25 rfl (lv_at hl 0 rfl) ?_
        refine lv_iconst (v := nI 3) hx hb d_Mo_retires_26 (by decide +kernel) ?_
        refine g_idiv C0 (z := k / 3) d_Mo_retires_27 (by omega) (by omega) (by omega) rfl ?_
        refine lv_iload_n hx hb d_Mo_retires_28 rfl (lv_at hl 0 rfl) ?_
        refine lv_iconst (v := nI 3) hx hb d_Mo_retires_29 (by decide +kernel) ?_
        refine g_irem C0 (z := k % 3) d_Mo_retires_30 (by omega) (by omega) (by omega) rfl ?_
        refine g_S C0 (k_Mo_l l G (k / 3) (k % 3)) co_Mo_l sm_Mo_l in_Mo gc_Mo_l ml_Mo_68 ⟨Nat.le_of_ble_eq_true rfl, Nat.le_of_ble_eq_true rfl⟩ hK trivial rfl hl.1 rfl (Nat.le_of_ble_eq_true rfl) d_Mo_retires_31 ⟨Nat.le_of_ble_eq_true rfl, Nat.le_of_ble_eq_true rfl⟩ (g_r rfl ?_)
        refine g_iald C0 hK hP.2.1 (by omega) (by omega) d_Mo_retires_34 ?_
        refine lv_iconst (v := nI 1) hx hb d_Mo_retires_35 (by decide +kernel) ?_
        refine lv_isub hx hb d_Mo_retires_36 ?_
        refine lv_istore_n (lv' := [(3, .int ((nI ((rtK S nm k) (409 + 27 * (k / 3) + 9 * (k % 3)))) - (nI 1))), (2, .int (nI k)), (0, .ref o), (1, .int (nI nm))]) hx hb d_Mo_retires_37 rfl hl (by decide) rfl (fun ls hl => ?_)
        have lp38 : ∀ (fu : Nat) (u : Nat) (t : Nat) (H : Heap) (locs : List Loc), (u) < fu → t + u = rtK S nm k (409 + 27 * (k / 3) + 9 * (k % 3)) → (∀ qq ∈ locs, (gRg o (o + 8)) qq.base) → MAt G o (rtI (rtK S nm k) (409 + 27 * (k / 3) + 9 * (k % 3)) nm (rtK S nm k (409 + 27 * (k / 3) + 9 * (k % 3))) t) sp bf sv iz rr pd ln sts td ac H → gFr o (o + 8) s.heap H → ∀ ls : Array Slot, lv_has ls 4 [(3, .int (nI u - 1)), (2, .int (nI k)), (0, .ref o), (1, .int (nI nm))] → W p l e ({ frames := 2, cells := 0, slots := 0, locals := 46 } : Room) s m args below meth c H locs 0 0 (MQ below (gQ (wv (fun H H1 => MAt G o (rtK S nm 6) sp bf sv iz rr pd ln sts td ac H1 ∧ gFr o (o + 8) H H1))) args s 0 0 (gRg o (o + 8))) (F0 m 38 ls []) := by
          intro fu
          induction fu with
          | zero => intro u t H locs hfu; exact absurd hfu (Nat.not_lt_zero _)
          | succ fu ih38 =>
            intro u t H locs hfu htu hL hP hF ls hl
            have hrI := rtI_ok (v := nm) (c := k / 3) (k := k % 3) hMk.1 (by omega) (by omega) t (by omega)
            refine lv_iload_n hx hb d_Mo_retires_38 rfl (lv_at hl 0 rfl) ?_
            refine lv_if_lt (tgt := 81) hx hb d_Mo_retires_39 (by decide) (fun c_39 => ?_) (fun c_39 => ?_)
            · skip
              have hu0 : u = 0 := gU0 (by omega) c_39
              refine lv_iinc (v := (nI (k + 1))) (lv' := [(2, .int (nI (k + 1))), (3, .int (nI u - 1)), (0, .ref o), (1, .int (nI nm))]) hx hb d_Mo_retires_81 hl (k := 1) rfl (gI_inc _) (by decide) rfl (fun ls hl => ?_)
              refine lv_goto (tgt := 15) hx hb d_Mo_retires_84 (by decide) ?_
              exact ih15 (k + 1) H locs (by omega) (by omega) hL (by obtain rfl : t = rtK S nm k (409 + 27 * (k / 3) + 9 * (k % 3)) := (by omega); exact ⟨hP.1, hP.2.1, hP.2.2.1, hP.2.2.2.1, hP.2.2.2.2.1, hP.2.2.2.2.2.1, hP.2.2.2.2.2.2.1, hP.2.2.2.2.2.2.2⟩) hF ls (lv_sub hl [0, 2, 3] rfl)
            · skip
              obtain ⟨v, rfl⟩ := gU1 c_39
              rw [gI_s1] at hl
              have hl : lv_has ls 4 [(3, .int (nI v)), (2, .int (nI k)), (0, .ref o), (1, .int (nI nm))] := hl
              have ev : rtK S nm k (409 + 27 * (k / 3) + 9 * (k % 3)) - 1 - t = v := by omega
              refine lv_aload_n hx hb d_Mo_retires_42 rfl (lv_at hl 2 rfl) ?_
              refine g_get C0 hK il_Mo hP.1 rfl 0 (by decide) fl_Mo_7 rfl d_Mo_retires_43 ?_
              refine lv_iload_n hx hb d_Mo_retires_46 rfl (lv_at hl 1 rfl) ?_
              refine lv_iconst (v := nI 3) hx hb d_Mo_retires_47 (by decide +kernel) ?_
              refine g_idiv C0 (z := k / 3) d_Mo_retires_48 (by omega) (by omega) (by omega) rfl ?_
              refine lv_iload_n hx hb d_Mo_retires_49 rfl (lv_at hl 1 rfl) ?_
              refine lv_iconst (v := nI 3) hx hb d_Mo_retires_50 (by decide +kernel) ?_
              refine g_irem C0 (z := k % 3) d_Mo_retires_51 (by omega) (by omega) (by omega) rfl ?_
              refine g_S C0 (k_Mo_l l G (k / 3) (k % 3)) co_Mo_l sm_Mo_l in_Mo gc_Mo_l ml_Mo_68 ⟨Nat.le_of_ble_eq_true rfl, Nat.le_of_ble_eq_true rfl⟩ hK trivial rfl hl.1 rfl (Nat.le_of_ble_eq_true rfl) d_Mo_retires_52 ⟨Nat.le_of_ble_eq_true rfl, Nat.le_of_ble_eq_true rfl⟩ (g_r rfl ?_)
              refine lv_iconst (v := nI 1) hx hb d_Mo_retires_55 (by decide +kernel) ?_
              refine g_iadd C0 (z := 409 + 27 * (k / 3) + 9 * (k % 3) + 1) d_Mo_retires_56 rfl ?_
              refine lv_iload_n hx hb d_Mo_retires_57 rfl (lv_at hl 0 rfl) ?_
              refine g_iadd C0 (z := 409 + 27 * (k / 3) + 9 * (k % 3) + 1 + v) d_Mo_retires_58 rfl ?_
              refine g_iald C0 hK hP.2.1 (by omega) (by omega) d_Mo_retires_59 ?_
              refine lv_iload_n hx hb d_Mo_retires_60 rfl (lv_at hl 3 rfl) ?_
              refine g_cne (tgt := 75) C0 d_Mo_retires_61 (by decide) (hrI.1.b (by omega)) (by omega) (fun c_61 => ?_) (fun c_61 => ?_)
              · skip
                have c_61 : ¬ rtI (rtK S nm k) (409 + 27 * (k / 3) + 9 * (k % 3)) nm (rtK S nm k (409 + 27 * (k / 3) + 9 * (k % 3))) t (409 + 27 * (k / 3) + 9 * (k % 3) + 1 + (rtK S nm k (409 + 27 * (k / 3) + 9 * (k % 3)) - 1 - t)) = nm := by rw [show rtK S nm k (409 + 27 * (k / 3) + 9 * (k % 3)) - 1 - t = v by omega]; exact c_61
                refine lv_iinc (v := (nI v - 1)) (lv' := [(3, .int (nI v - 1)), (2, .int (nI k)), (0, .ref o), (1, .int (nI nm))]) hx hb d_Mo_retires_75 hl (k := 0) rfl (gI_d1 _) (by decide) rfl (fun ls hl => ?_)
                refine lv_goto (tgt := 38) hx hb d_Mo_retires_78 (by decide) ?_
                exact ih38 v (t + 1) H locs (by omega) (by omega) hL (by rw [rtI_f c_61] ; exact ⟨hP.1, hP.2.1, hP.2.2.1, hP.2.2.2.1, hP.2.2.2.2.1, hP.2.2.2.2.2.1, hP.2.2.2.2.2.2.1, hP.2.2.2.2.2.2.2⟩) hF ls (lv_sub hl [0, 1, 2, 3] rfl)
              · skip
                have c_61 : rtI (rtK S nm k) (409 + 27 * (k / 3) + 9 * (k % 3)) nm (rtK S nm k (409 + 27 * (k / 3) + 9 * (k % 3))) t (409 + 27 * (k / 3) + 9 * (k % 3) + 1 + (rtK S nm k (409 + 27 * (k / 3) + 9 * (k % 3)) - 1 - t)) = nm := by rw [show rtK S nm k (409 + 27 * (k / 3) + 9 * (k % 3)) - 1 - t = v by omega]; exact c_61
                refine lv_aload_n hx hb d_Mo_retires_64 rfl (lv_at hl 2 rfl) ?_
                refine lv_iload_n hx hb d_Mo_retires_65 rfl (lv_at hl 1 rfl) ?_
                refine lv_iconst (v := nI 3) hx hb d_Mo_retires_66 (by decide +kernel) ?_
                refine g_idiv C0 (z := k / 3) d_Mo_retires_67 (by omega) (by omega) (by omega) rfl ?_
                refine lv_iload_n hx hb d_Mo_retires_68 rfl (lv_at hl 1 rfl) ?_
                refine lv_iconst (v := nI 3) hx hb d_Mo_retires_69 (by decide +kernel) ?_
                refine g_irem C0 (z := k % 3) d_Mo_retires_70 (by omega) (by omega) (by omega) rfl ?_
                refine lv_iload_n hx hb d_Mo_retires_71 rfl (lv_at hl 0 rfl) ?_
                refine g_V C0 (k_Mo_takesOff l G o (rtI (rtK S nm k) (409 + 27 * (k / 3) + 9 * (k % 3)) nm (rtK S nm k (409 + 27 * (k / 3) + 9 * (k % 3))) t) sp bf sv iz rr pd ln sts td ac (k / 3) (k % 3) v (by omega) (by omega) (by omega) hrI.1) co_Mo_takesOff im_Mo_takesOff se_Mo_takesOff in_Mo gc_Mo_takesOff ml_Mo_81 ⟨Nat.le_of_ble_eq_true rfl, Nat.le_of_ble_eq_true rfl⟩ hK hP.1 rfl ⟨hP.1, hP.2.1, hP.2.2.1, hP.2.2.2.1, hP.2.2.2.2.1, hP.2.2.2.2.2.1, hP.2.2.2.2.2.2.1, hP.2.2.2.2.2.2.2⟩ rfl hl.1 rfl (Nat.le_of_ble_eq_true rfl) d_Mo_retires_72 ⟨Nat.le_of_ble_eq_true rfl, Nat.le_of_ble_eq_true rfl⟩ (g_wv (free := gRg o (o + 8)) hL (fun _ h => h) (fun H_4 locs hL ⟨hR_5, hf_6⟩ => ?_))
                refine lv_iinc (v := (nI v - 1)) (lv' := [(3, .int (nI v - 1)), (2, .int (nI k)), (0, .ref o), (1, .int (nI nm))]) hx hb d_Mo_retires_75 hl (k := 0) rfl (gI_d1 _) (by decide) rfl (fun ls hl => ?_)
                refine lv_goto (tgt := 38) hx hb d_Mo_retires_78 (by decide) ?_
                exact ih38 v (t + 1) H_4 locs (by omega) (by omega) hL (by rw [rtI_t c_61, ev] ; exact ⟨hR_5.1, hR_5.2.1, hR_5.2.2.1, hR_5.2.2.2.1, hR_5.2.2.2.2.1, hR_5.2.2.2.2.2.1, hR_5.2.2.2.2.2.2.1, hR_5.2.2.2.2.2.2.2⟩) (hF.tr hf_6) ls (lv_sub hl [0, 1, 2, 3] rfl)
        exact lp38 ((rtK S nm k (409 + 27 * (k / 3) + 9 * (k % 3))) + 1) (rtK S nm k (409 + 27 * (k / 3) + 9 * (k % 3))) 0 H locs (by omega) (Nat.zero_add _) hL (⟨hP.1, hP.2.1, hP.2.2.1, hP.2.2.2.1, hP.2.2.2.2.1, hP.2.2.2.2.2.1, hP.2.2.2.2.2.2.1, hP.2.2.2.2.2.2.2⟩) hF ls (lv_sub hl [0, 1, 2, 3] rfl)
  exact lp15 ((6 - 0) + 1) 0 H_1 locs (by omega) (by omega) hL (⟨(hP.1.ch hc_3 (by omega)), hA_2, (hP.2.2.1.ch hc_3 (by omega)), (hP.2.2.2.1.ch hc_3 (by omega)), (hP.2.2.2.2.1.ch hc_3 (by omega)), (hP.2.2.2.2.2.1.ch hc_3 (by omega)), (hP.2.2.2.2.2.2.1.ch hc_3 (by omega)), (hP.2.2.2.2.2.2.2.ch hc_3 (by omega))⟩) (gFr.rf.tr (gFr.ch hc_3 (by omega) (by omega))) ls (lv_sub hl [0, 1, 2] rfl)
