set_option maxHeartbeats 4000000 in
set_option maxRecDepth 100000 in
theorem k_Ga_signsIn (l : Launch) (G : gT) (w : Nat) (hw : w < 2 ^ 64) : gM l y_Ga_signsIn c_Ga_signsIn 7 (some .int) 0 0 0 0 G [.long (lN w)] (fun _ => True) (rd (.int (nI (sgC 8 w 0)))) noF := by
  refine g_enter "GaleNames" (by decide +kernel) rfl (Nat.le_of_ble_eq_true rfl) ?_
  intro p e s m args below meth c C0 hlk hr hnm hP hK ls hl
  have hx := C0.1
  have hb := C0.2.1
  have hl : lv_has ls 7 [(0, .long (lN w))] := hl
  refine lv_lload_n hx hb d_Ga_signsIn_0 rfl (lv_at hl 0 rfl) ?_
  refine lv_lstore_n (lv' := [(2, .long (lN w)), (0, .long (lN w))]) hx hb d_Ga_signsIn_1 rfl hl (by decide) rfl (fun ls hl => ?_)
  refine lv_iconst (v := nI 0) hx hb d_Ga_signsIn_2 (by decide +kernel) ?_
  refine lv_istore (lv' := [(4, .int (nI 0)), (2, .long (lN w)), (0, .long (lN w))]) hx hb d_Ga_signsIn_3 hl (by decide) rfl (fun ls hl => ?_)
  have lp5 : ∀ (fu : Nat) (r : Nat) (n : Nat), (8 - n) < fu → r < 2 ^ 64 → n ≤ 8 → sgC 8 w 0 = sgC (8 - n) r n → ∀ ls : Array Slot, lv_has ls 7 [(4, .int (nI n)), (2, .long (lN r)), (0, .long (lN w))] → W p l e ({ frames := 0, cells := 0, slots := 0, locals := 0 } : Room) s m args below meth c s.heap [] 0 0 (MQ below (gQ (rd (.int (nI (sgC 8 w 0))))) args s 0 0 noF) (F0 m 5 ls []) := by
    intro fu
    induction fu with
    | zero => intro r n  hfu; exact absurd hfu (Nat.not_lt_zero _)
    | succ fu ih5 =>
      intro r n hfu hr64 hn hg ls hl
      refine lv_iload hx hb d_Ga_signsIn_5 (lv_at hl 0 rfl) ?_
      refine lv_bipush (v := nI 8) hx hb d_Ga_signsIn_7 (by decide +kernel) ?_
      refine g_cge (tgt := 60) C0 d_Ga_signsIn_9 (by decide) (by omega) (by omega) (fun c_9 => ?_) (fun c_9 => ?_)
      · skip
        have hz : sgC (8 - n) r n = if r = 0 then n else 0 := by
          rw [show 8 - n = 0 by omega]; rfl
        refine lv_lload_n hx hb d_Ga_signsIn_60 rfl (lv_at hl 1 rfl) ?_
        refine lv_lconst (v := lN 0) hx hb d_Ga_signsIn_61 rfl ?_
        refine W.lcmp hx hb d_Ga_signsIn_62 ?_
        refine lv_if_ne (tgt := 71) hx hb d_Ga_signsIn_63 (by decide) (fun c_63 => ?_) (fun c_63 => ?_)
        · skip
          have c_63 : ¬ r = 0 := mt (lc_eq (b := 0) hr64 (by omega)).mpr c_63
          refine lv_iconst (v := nI 0) hx hb d_Ga_signsIn_71 (by decide +kernel) ?_
          refine g_iret C0 hlk hr d_Ga_signsIn_72 (t_nil (free := noF)) ?_
          exact ⟨rdI (by rw [hg, hz, if_neg c_63]), rfl⟩
        · skip
          have c_63 : r = 0 := (lc_eq (b := 0) hr64 (by omega)).mp c_63
          refine lv_iload hx hb d_Ga_signsIn_66 (lv_at hl 0 rfl) ?_
          refine lv_goto (tgt := 72) hx hb d_Ga_signsIn_68 (by decide) ?_
          refine g_iret C0 hlk hr d_Ga_signsIn_72 (t_nil (free := noF)) ?_
          exact ⟨rdI (by rw [hg, hz, if_pos c_63]), rfl⟩
      · skip
        refine lv_lload_n hx hb d_Ga_signsIn_12 rfl (lv_at hl 1 rfl) ?_
        refine g_ldc2 (v := lN 255) C0 kl_Ga_232 d_Ga_signsIn_13 ?_
        refine g_land C0 d_Ga_signsIn_16 ?_
        refine lv_lconst (v := lN 0) hx hb d_Ga_signsIn_17 rfl ?_
        refine W.lcmp hx hb d_Ga_signsIn_18 ?_
        refine lv_if_eq (tgt := 60) hx hb d_Ga_signsIn_19 (by decide) (fun c_19 => ?_) (fun c_19 => ?_)
        · skip
          have c_19 : r % 256 = 0 := (lc_eq (b := 0) (by omega) (by omega)).mp c_19
          have hz : sgC (8 - n) r n = if r = 0 then n else 0 := by
            rw [show 8 - n = (8 - (n + 1)) + 1 by omega]; exact sgC_z c_19
          refine lv_lload_n hx hb d_Ga_signsIn_60 rfl (lv_at hl 1 rfl) ?_
          refine lv_lconst (v := lN 0) hx hb d_Ga_signsIn_61 rfl ?_
          refine W.lcmp hx hb d_Ga_signsIn_62 ?_
          refine lv_if_ne (tgt := 71) hx hb d_Ga_signsIn_63 (by decide) (fun c_63 => ?_) (fun c_63 => ?_)
          · skip
            have c_63 : ¬ r = 0 := mt (lc_eq (b := 0) hr64 (by omega)).mpr c_63
            refine lv_iconst (v := nI 0) hx hb d_Ga_signsIn_71 (by decide +kernel) ?_
            refine g_iret C0 hlk hr d_Ga_signsIn_72 (t_nil (free := noF)) ?_
            exact ⟨rdI (by rw [hg, hz, if_neg c_63]), rfl⟩
          · skip
            have c_63 : r = 0 := (lc_eq (b := 0) hr64 (by omega)).mp c_63
            refine lv_iload hx hb d_Ga_signsIn_66 (lv_at hl 0 rfl) ?_
            refine lv_goto (tgt := 72) hx hb d_Ga_signsIn_68 (by decide) ?_
            refine g_iret C0 hlk hr d_Ga_signsIn_72 (t_nil (free := noF)) ?_
            exact ⟨rdI (by rw [hg, hz, if_pos c_63]), rfl⟩
        · skip
          have c_19 : ¬ r % 256 = 0 := mt (lc_eq (b := 0) (by omega) (by omega)).mpr c_19
          refine lv_lload_n hx hb d_Ga_signsIn_22 rfl (lv_at hl 1 rfl) ?_
          refine g_ldc2 (v := lN 255) C0 kl_Ga_232 d_Ga_signsIn_23 ?_
          refine g_land C0 d_Ga_signsIn_26 ?_
          refine lv_lstore (lv' := [(5, .long (lN (r % 256))), (4, .int (nI n)), (2, .long (lN r)), (0, .long (lN w))]) hx hb d_Ga_signsIn_27 hl (by decide) rfl (fun ls hl => ?_)
          refine lv_lload hx hb d_Ga_signsIn_29 (lv_at hl 0 rfl) ?_
          refine g_ldc2 (v := lN 33) C0 kl_Ga_234 d_Ga_signsIn_31 ?_
          refine W.lcmp hx hb d_Ga_signsIn_34 ?_
          refine lv_if_lt (tgt := 47) hx hb d_Ga_signsIn_35 (by decide) (fun c_35 => ?_) (fun c_35 => ?_)
          · skip
            have c_35 := (lc_lt (by omega) (by omega)).mp c_35
            refine lv_iconst (v := nI 0) hx hb d_Ga_signsIn_47 (by decide +kernel) ?_
            refine g_iret C0 hlk hr d_Ga_signsIn_48 (t_nil (free := noF)) ?_
            exact ⟨rdI (by rw [hg, show 8 - n = (8 - (n + 1)) + 1 by omega, sgC_b c_19 (by omega)]), rfl⟩
          · skip
            have c_35 : ¬ r % 256 < 33 := mt (lc_lt (by omega) (by omega)).mpr c_35
            refine lv_lload hx hb d_Ga_signsIn_38 (lv_at hl 0 rfl) ?_
            refine g_ldc2 (v := lN 126) C0 kl_Ga_236 d_Ga_signsIn_40 ?_
            refine W.lcmp hx hb d_Ga_signsIn_43 ?_
            refine lv_if_le (tgt := 49) hx hb d_Ga_signsIn_44 (by decide) (fun c_44 => ?_) (fun c_44 => ?_)
            · skip
              have c_44 := (lc_le (by omega) (by omega)).mp c_44
              refine lv_iinc (v := (nI (n + 1))) (lv' := [(4, .int (nI (n + 1))), (5, .long (lN (r % 256))), (2, .long (lN r)), (0, .long (lN w))]) hx hb d_Ga_signsIn_49 hl (k := 1) rfl (gI_inc _) (by decide) rfl (fun ls hl => ?_)
              refine lv_lload_n hx hb d_Ga_signsIn_52 rfl (lv_at hl 2 rfl) ?_
              refine lv_bipush (v := nI 8) hx hb d_Ga_signsIn_53 (by decide +kernel) ?_
              refine g_lushr C0 d_Ga_signsIn_55 (by omega) (by omega) ?_
              refine lv_lstore_n (lv' := [(2, .long (lN (r / 2 ^ 8))), (4, .int (nI (n + 1))), (5, .long (lN (r % 256))), (0, .long (lN w))]) hx hb d_Ga_signsIn_56 rfl hl (by decide) rfl (fun ls hl => ?_)
              refine lv_goto (tgt := 5) hx hb d_Ga_signsIn_57 (by decide) ?_
              exact ih5 (r / 2 ^ 8) (n + 1) (by omega) (Nat.lt_of_le_of_lt (Nat.div_le_self _ _) hr64) (by omega) (by rw [hg, show 8 - n = (8 - (n + 1)) + 1 by omega, sgC_s c_19 (by omega)]) ls (lv_sub hl [1, 0, 3] rfl)
            · skip
              have c_44 : ¬ r % 256 ≤ 126 := mt (lc_le (by omega) (by omega)).mpr c_44
              refine lv_iconst (v := nI 0) hx hb d_Ga_signsIn_47 (by decide +kernel) ?_
              refine g_iret C0 hlk hr d_Ga_signsIn_48 (t_nil (free := noF)) ?_
              exact ⟨rdI (by rw [hg, show 8 - n = (8 - (n + 1)) + 1 by omega, sgC_b c_19 (by omega)]), rfl⟩
  exact lp5 ((8 - 0) + 1) w 0 (by omega) hw (by omega) rfl ls (lv_sub hl [0, 1, 2] rfl)

set_option maxHeartbeats 4000000 in
set_option maxRecDepth 100000 in
theorem k_Ga_put (l : Launch) (G : gT) (x : Nat) (X : XS) (w : Nat) (hw : w < 2 ^ 64) (hX : XOk X) : gM l y_Ga_put c_Ga_put 5 (some .int) 1 26 0 0 G [.ref x, .long (lN w)] (fun H => XAt G x X H) (wi (.int (cPut X w).1) (fun H H1 => XAt G x (cPut X w).2 H1 ∧ gFr x (x + 262) H H1)) (gRg x (x + 262)) := by
  refine g_enter "GaleNames" (by decide +kernel) rfl (Nat.le_of_ble_eq_true rfl) ?_
  intro p e s m args below meth c C0 hlk hr hnm hP hK ls hl
  have hx := C0.1
  have hb := C0.2.1
  have hl : lv_has ls 5 [(0, .ref x), (1, .long (lN w))] := hl
  have hsv : SvAt G x X.2.2.2.1 X.2.2.2.2 s.heap := hP.2.2.2.2.2.1
  have hn8 : sgC 8 w 0 ≤ 8 := Nat.le_trans (sgC_le 8 w 0) (by decide)
  have hS80 := hP.2.2.1.2.1.2.2.1
  refine lv_lload_n hx hb d_Ga_put_0 rfl (lv_at hl 1 rfl) ?_
  refine g_S C0 (k_Ga_signsIn l G w hw) co_Ga_signsIn sm_Ga_signsIn in_Ga gc_Ga_signsIn ml_Ga_212 ⟨Nat.le_of_ble_eq_true rfl, Nat.le_of_ble_eq_true rfl⟩ hK trivial rfl hl.1 rfl (Nat.le_of_ble_eq_true rfl) d_Ga_put_1 ⟨Nat.le_of_ble_eq_true rfl, Nat.le_of_ble_eq_true rfl⟩ (g_r rfl ?_)
  refine lv_istore_n (lv' := [(3, .int (nI (sgC 8 w 0))), (0, .ref x), (1, .long (lN w))]) hx hb d_Ga_put_4 rfl hl (by decide) rfl (fun ls hl => ?_)
  refine lv_iload_n hx hb d_Ga_put_5 rfl (lv_at hl 0 rfl) ?_
  refine lv_if_ne (tgt := 12) hx hb d_Ga_put_6 (by decide) (fun c_6 => ?_) (fun c_6 => ?_)
  · skip
    have c_6 : ¬ sgC 8 w 0 = 0 := fun h => c_6 (by rw [h]; rfl)
    refine lv_aload_n hx hb d_Ga_put_12 rfl (lv_at hl 1 rfl) ?_
    refine g_get C0 hK il_Ga hP.1 rfl 1 (by decide) fl_Ga_19 rfl d_Ga_put_13 ?_
    refine g_V C0 (k_Pa_signs l G (x + 37) X.2.1.1 X.2.1.2) co_Pa_signs im_Pa_signs se_Pa_signs in_Pa gc_Pa_signs ml_Ga_85 ⟨Nat.le_of_ble_eq_true rfl, Nat.le_of_ble_eq_true rfl⟩ hK hP.2.2.1.1 rfl ⟨hP.2.2.1.1, hP.2.2.1.2.1, hP.2.2.1.2.2⟩ rfl hl.1 rfl (Nat.le_of_ble_eq_true rfl) d_Ga_put_16 ⟨Nat.le_of_ble_eq_true rfl, Nat.le_of_ble_eq_true rfl⟩ (g_r rfl ?_)
    refine g_V C0 (k_Ro_size l G (x + 38) 80 X.2.1.1 ) co_Ro_size im_Ro_size se_Ro_size in_Ro gc_Ro_size ml_Ga_71 ⟨Nat.le_of_ble_eq_true rfl, Nat.le_of_ble_eq_true rfl⟩ hK hP.2.2.1.2.1.1 rfl hP.2.2.1.2.1 rfl hl.1 rfl (Nat.le_of_ble_eq_true rfl) d_Ga_put_19 ⟨Nat.le_of_ble_eq_true rfl, Nat.le_of_ble_eq_true rfl⟩ (g_r rfl ?_)
    refine lv_iload_n hx hb d_Ga_put_22 rfl (lv_at hl 0 rfl) ?_
    refine g_iadd C0 (z := X.2.1.1.1 + (sgC 8 w 0)) d_Ga_put_23 rfl ?_
    refine lv_bipush (v := nI 80) hx hb d_Ga_put_24 (by decide +kernel) ?_
    refine g_cle (tgt := 32) C0 d_Ga_put_26 (by decide) (by omega) (by omega) (fun c_26 => ?_) (fun c_26 => ?_)
    · skip
      refine lv_iload_n hx hb d_Ga_put_32 rfl (lv_at hl 0 rfl) ?_
      refine lv_iconst (v := nI 1) hx hb d_Ga_put_33 (by decide +kernel) ?_
      refine lv_isub hx hb d_Ga_put_34 ?_
      refine lv_istore (lv' := [(4, .int ((nI (sgC 8 w 0)) - (nI 1))), (3, .int (nI (sgC 8 w 0))), (0, .ref x), (1, .long (lN w))]) hx hb d_Ga_put_35 hl (by decide) rfl (fun ls hl => ?_)
      have lp37 : ∀ (fu : Nat) (u : Nat) (t : Nat) (H : Heap) (locs : List Loc), (u) < fu → t + u = sgC 8 w 0 → (∀ qq ∈ locs, (gRg x (x + 262)) qq.base) → XAt G x ((X.1, (ptR X.2.1.1 w (sgC 8 w 0) t, X.2.1.2), (X.2.2.1.1, X.2.2.1.2.1, X.2.2.1.2.2), X.2.2.2) : XS) H → SvAt G x X.2.2.2.1 X.2.2.2.2 H → gFr x (x + 262) s.heap H → ∀ ls : Array Slot, lv_has ls 5 [(4, .int (nI u - 1)), (3, .int (nI (sgC 8 w 0))), (0, .ref x), (1, .long (lN w))] → W p l e ({ frames := 1, cells := 0, slots := 0, locals := 26 } : Room) s m args below meth c H locs 0 0 (MQ below (gQ (wi (.int (cPut X w).1) (fun H H1 => XAt G x (cPut X w).2 H1 ∧ gFr x (x + 262) H H1))) args s 0 0 (gRg x (x + 262))) (F0 m 37 ls []) := by
        intro fu
        induction fu with
        | zero => intro u t H locs hfu; exact absurd hfu (Nat.not_lt_zero _)
        | succ fu ih37 =>
          intro u t H locs hfu htu hL hP hsv hF ls hl
          refine lv_iload hx hb d_Ga_put_37 (lv_at hl 0 rfl) ?_
          refine lv_if_lt (tgt := 70) hx hb d_Ga_put_39 (by decide) (fun c_39 => ?_) (fun c_39 => ?_)
          · skip
            have hu0 : u = 0 := by
              rcases Nat.eq_zero_or_pos u with h | h
              · exact h
              · obtain ⟨v, rfl⟩ : ∃ v, u = v + 1 := ⟨u - 1, by omega⟩
                rw [gI_s1] at c_39; exact absurd c_39 (nI_pos (by omega))
            have et : t = sgC 8 w 0 := by omega
            subst et
            refine lv_aload_n hx hb d_Ga_put_70 rfl (lv_at hl 2 rfl) ?_
            refine g_get C0 hK il_Ga hP.1 rfl 1 (by decide) fl_Ga_19 rfl d_Ga_put_71 ?_
            refine g_V C0 (k_Pa_signs l G (x + 37) (ptR X.2.1.1 w (sgC 8 w 0) (sgC 8 w 0)) X.2.1.2) co_Pa_signs im_Pa_signs se_Pa_signs in_Pa gc_Pa_signs ml_Ga_85 ⟨Nat.le_of_ble_eq_true rfl, Nat.le_of_ble_eq_true rfl⟩ hK hP.2.2.1.1 rfl ⟨hP.2.2.1.1, hP.2.2.1.2.1, hP.2.2.1.2.2⟩ rfl hl.1 rfl (Nat.le_of_ble_eq_true rfl) d_Ga_put_74 ⟨Nat.le_of_ble_eq_true rfl, Nat.le_of_ble_eq_true rfl⟩ (g_r rfl ?_)
            refine g_V C0 (k_Ro_size l G (x + 38) 80 (ptR X.2.1.1 w (sgC 8 w 0) (sgC 8 w 0)) ) co_Ro_size im_Ro_size se_Ro_size in_Ro gc_Ro_size ml_Ga_71 ⟨Nat.le_of_ble_eq_true rfl, Nat.le_of_ble_eq_true rfl⟩ hK hP.2.2.1.2.1.1 rfl hP.2.2.1.2.1 rfl hl.1 rfl (Nat.le_of_ble_eq_true rfl) d_Ga_put_77 ⟨Nat.le_of_ble_eq_true rfl, Nat.le_of_ble_eq_true rfl⟩ (g_r rfl ?_)
            refine g_iret C0 hlk hr d_Ga_put_80 hL ?_
            exact x_end (X' := ((X.1, (ptR X.2.1.1 w (sgC 8 w 0) (sgC 8 w 0), X.2.1.2), (X.2.2.1.1, X.2.2.1.2.1, X.2.2.1.2.2), X.2.2.2) : XS)) (by unfold cPut; exact (if_neg c_6).trans (if_neg (Nat.not_lt.mpr c_26))) ⟨hP.1, hP.2.1, ⟨hP.2.2.1.1, hP.2.2.1.2.1, hP.2.2.1.2.2⟩, hP.2.2.2.1, hP.2.2.2.2.1, hsv, hP.2.2.2.2.2.2⟩ hF
          · skip
            obtain ⟨v, rfl⟩ : ∃ v, u = v + 1 := by
              rcases Nat.eq_zero_or_pos u with h | h
              · subst h; exact absurd gI_neg1 c_39
              · exact ⟨u - 1, by omega⟩
            rw [gI_s1] at hl
            have hl : lv_has ls 5 [(4, .int (nI v)), (3, .int (nI (sgC 8 w 0))), (0, .ref x), (1, .long (lN w))] := hl
            refine lv_aload_n hx hb d_Ga_put_42 rfl (lv_at hl 2 rfl) ?_
            refine g_get C0 hK il_Ga hP.1 rfl 1 (by decide) fl_Ga_19 rfl d_Ga_put_43 ?_
            refine g_V C0 (k_Pa_signs l G (x + 37) (ptR X.2.1.1 w (sgC 8 w 0) t) X.2.1.2) co_Pa_signs im_Pa_signs se_Pa_signs in_Pa gc_Pa_signs ml_Ga_85 ⟨Nat.le_of_ble_eq_true rfl, Nat.le_of_ble_eq_true rfl⟩ hK hP.2.2.1.1 rfl ⟨hP.2.2.1.1, hP.2.2.1.2.1, hP.2.2.1.2.2⟩ rfl hl.1 rfl (Nat.le_of_ble_eq_true rfl) d_Ga_put_46 ⟨Nat.le_of_ble_eq_true rfl, Nat.le_of_ble_eq_true rfl⟩ (g_r rfl ?_)
            refine lv_lload_n hx hb d_Ga_put_49 rfl (lv_at hl 3 rfl) ?_
            refine lv_bipush (v := nI 8) hx hb d_Ga_put_50 (by decide +kernel) ?_
            refine lv_iload hx hb d_Ga_put_52 (lv_at hl 0 rfl) ?_
            refine g_imul C0 (z := 8 * v) d_Ga_put_54 rfl ?_
            refine g_lushr C0 d_Ga_put_55 hw (by omega) ?_
            refine lv_l2i (v := nI (w / 2 ^ (8 * v))) hx hb d_Ga_put_56 (lB_l2i _) ?_
            refine lv_sipush (v := nI 255) hx hb d_Ga_put_57 (by decide +kernel) ?_
            refine g_iand255 C0 d_Ga_put_60 ?_
            refine g_V C0 (k_Ro_add l G (x + 38) 80 (ptR X.2.1.1 w (sgC 8 w 0) t) ((w / 2 ^ (8 * v)) % 256)) co_Ro_add im_Ro_add se_Ro_add in_Ro gc_Ro_add ml_Ga_81 ⟨Nat.le_of_ble_eq_true rfl, Nat.le_of_ble_eq_true rfl⟩ hK hP.2.2.1.2.1.1 rfl hP.2.2.1.2.1 rfl hl.1 rfl (Nat.le_of_ble_eq_true rfl) d_Ga_put_61 ⟨Nat.le_of_ble_eq_true rfl, Nat.le_of_ble_eq_true rfl⟩ (g_wv (free := gRg x (x + 262)) hL (gRg.mono (by omega) (by omega)) (fun H_1 locs hL ⟨hR_2, hf_3⟩ => ?_))
            refine lv_iinc (v := (nI v - 1)) (lv' := [(4, .int (nI v - 1)), (3, .int (nI (sgC 8 w 0))), (0, .ref x), (1, .long (lN w))]) hx hb d_Ga_put_64 hl (k := 0) rfl (gI_d1 _) (by decide) rfl (fun ls hl => ?_)
            refine lv_goto (tgt := 37) hx hb d_Ga_put_67 (by decide) ?_
            exact ih37 v (t + 1) H_1 locs (by omega) (by omega) hL (by show XAt G x (X.1, (rAdd 80 (ptR X.2.1.1 w (sgC 8 w 0) t) (w / 256 ^ (sgC 8 w 0 - 1 - t) % 256), X.2.1.2), (X.2.2.1.1, X.2.2.1.2.1, X.2.2.1.2.2), X.2.2.2) _; rw [← pow_8 htu]; exact ⟨(hP.1.fr hf_3 (by omega)), (hP.2.1.fr hf_3 (by omega)), ⟨(hP.2.2.1.1.fr hf_3 (by omega)), hR_2, (hP.2.2.1.2.2.fr hf_3 (by omega))⟩, (hP.2.2.2.1.fr hf_3 (by omega)), (hP.2.2.2.2.1.fr hf_3 (by omega)), (hsv.fr hf_3 (by omega)), hP.2.2.2.2.2.2⟩) (hsv.fr hf_3 (by omega)) (hF.tr (hf_3.mono (by omega) (by omega))) ls (lv_sub hl [0, 1, 2, 3] rfl)
      exact lp37 ((sgC 8 w 0) + 1) (sgC 8 w 0) 0 s.heap [] (by omega) (Nat.zero_add _) (t_nil (free := gRg x (x + 262))) (⟨hP.1, hP.2.1, ⟨hP.2.2.1.1, hP.2.2.1.2.1, hP.2.2.1.2.2⟩, hP.2.2.2.1, hP.2.2.2.2.1, hsv, hP.2.2.2.2.2.2⟩) hsv gFr.rf ls (lv_sub hl [0, 1, 2, 3] rfl)
    · skip
      refine lv_bipush (v := -4) hx hb d_Ga_put_29 (by decide +kernel) ?_
      refine g_iret C0 hlk hr d_Ga_put_31 (t_nil (free := gRg x (x + 262))) ?_
      exact x_end (X' := ((X.1, (X.2.1.1, X.2.1.2), (X.2.2.1.1, X.2.2.1.2.1, X.2.2.1.2.2), X.2.2.2) : XS)) (by unfold cPut; exact (if_neg c_6).trans (if_pos c_26)) ⟨hP.1, hP.2.1, ⟨hP.2.2.1.1, hP.2.2.1.2.1, hP.2.2.1.2.2⟩, hP.2.2.2.1, hP.2.2.2.2.1, hsv, hP.2.2.2.2.2.2⟩ gFr.rf
  · skip
    have c_6 : sgC 8 w 0 = 0 := (nI_eqi (b := 0) (by omega) (by omega)).mp c_6
    refine lv_bipush (v := -2) hx hb d_Ga_put_9 (by decide +kernel) ?_
    refine g_iret C0 hlk hr d_Ga_put_11 (t_nil (free := gRg x (x + 262))) ?_
    exact x_end (X' := ((X.1, (X.2.1.1, X.2.1.2), (X.2.2.1.1, X.2.2.1.2.1, X.2.2.1.2.2), X.2.2.2) : XS)) (by unfold cPut; exact if_pos c_6) ⟨hP.1, hP.2.1, ⟨hP.2.2.1.1, hP.2.2.1.2.1, hP.2.2.1.2.2⟩, hP.2.2.2.1, hP.2.2.2.2.1, hsv, hP.2.2.2.2.2.2⟩ gFr.rf
