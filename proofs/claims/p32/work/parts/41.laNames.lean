set_option maxHeartbeats 4000000 in
set_option maxRecDepth 100000 in
theorem k_La_isAhead (l : Launch) (G : gT) (x : Nat) (X : XS) (t : Nat) (a b : Nat) (ha : a < (X.1.2 1).1) (hb2 : b < (X.1.2 1).1) (hlt : (X.1.2 1).2 a < (X.1.2 1).2 b) (hI : IY t X.1) (hX : XOk X) : gM l y_La_isAhead c_La_isAhead 5 (some .boolean) 3 65 0 0 G [.ref x, .int (nI a), .int (nI b)] (fun H => XAt G x X H) (rd (.int (bI true))) noF := by
  refine g_enter "GaleNamesLaw" (by decide +kernel) rfl (Nat.le_of_ble_eq_true rfl) ?_
  intro p e s m args below meth c C0 hlk hr hnm hP hK ls hl
  have hx := C0.1
  have hb := C0.2.1
  have hl : lv_has ls 5 [(0, .ref x), (1, .int (nI a)), (2, .int (nI b))] := hl
  have h40 := hI.n40
  have ka := hI.key ha
  have kb := hI.key hb2
  have la6 := kK_L ka
  have lb6 := kK_L kb
  have hs6 := kS_le ((X.1.2 1).2 a) ((X.1.2 1).2 b)
  have hsm := kS_leM ka kb
  refine lv_aload_n hx hb d_La_isAhead_0 rfl (lv_at hl 0 rfl) ?_
  refine lv_iload_n hx hb d_La_isAhead_1 rfl (lv_at hl 1 rfl) ?_
  refine lv_iload_n hx hb d_La_isAhead_2 rfl (lv_at hl 2 rfl) ?_
  refine g_V C0 (g_val (v' := (nI (kS ((X.1.2 1).2 a) ((X.1.2 1).2 b)))) (k_Ga_same l G x X (nI a) (nI b) hX) (smv hI ha hb2)) co_Ga_same im_Ga_same se_Ga_same in_Ga gc_Ga_same ml_La_15 ⟨Nat.le_of_ble_eq_true rfl, Nat.le_of_ble_eq_true rfl⟩ hK hP.1 rfl hP rfl hl.1 rfl (Nat.le_of_ble_eq_true rfl) d_La_isAhead_3 ⟨Nat.le_of_ble_eq_true rfl, Nat.le_of_ble_eq_true rfl⟩ (g_r rfl ?_)
  refine lv_istore_n (lv' := [(3, .int (nI (kS ((X.1.2 1).2 a) ((X.1.2 1).2 b)))), (0, .ref x), (1, .int (nI a)), (2, .int (nI b))]) hx hb d_La_isAhead_6 rfl hl (by decide) rfl (fun ls hl => ?_)
  rcases Nat.lt_or_ge (kS ((X.1.2 1).2 a) ((X.1.2 1).2 b)) (kS ((X.1.2 1).2 a) ((X.1.2 1).2 a)) with hp | hp
  · skip
    have hah := ah_ok ka kb hlt hp
    have l1 := kL_lt ((X.1.2 1).2 a) (kS ((X.1.2 1).2 a) ((X.1.2 1).2 b))
    have l2 := kL_lt ((X.1.2 1).2 b) (kS ((X.1.2 1).2 a) ((X.1.2 1).2 b))
    refine lv_aload_n hx hb d_La_isAhead_7 rfl (lv_at hl 1 rfl) ?_
    refine lv_iload_n hx hb d_La_isAhead_8 rfl (lv_at hl 2 rfl) ?_
    refine lv_iload_n hx hb d_La_isAhead_9 rfl (lv_at hl 0 rfl) ?_
    refine g_V C0 (g_val (v' := (nI (96 + kL ((X.1.2 1).2 a) (kS ((X.1.2 1).2 a) ((X.1.2 1).2 b))))) (k_Ga_letter l G x X (nI a) (nI (kS ((X.1.2 1).2 a) ((X.1.2 1).2 b))) hX) (lt_v hI ha hp)) co_Ga_letter im_Ga_letter se_Ga_letter in_Ga gc_Ga_letter ml_La_19 ⟨Nat.le_of_ble_eq_true rfl, Nat.le_of_ble_eq_true rfl⟩ hK hP.1 rfl hP rfl hl.1 rfl (Nat.le_of_ble_eq_true rfl) d_La_isAhead_10 ⟨Nat.le_of_ble_eq_true rfl, Nat.le_of_ble_eq_true rfl⟩ (g_r rfl ?_)
    refine lv_istore (lv' := [(4, .int (nI (96 + kL ((X.1.2 1).2 a) (kS ((X.1.2 1).2 a) ((X.1.2 1).2 b))))), (3, .int (nI (kS ((X.1.2 1).2 a) ((X.1.2 1).2 b)))), (0, .ref x), (1, .int (nI a)), (2, .int (nI b))]) hx hb d_La_isAhead_13 hl (by decide) rfl (fun ls hl => ?_)
    refine lv_iload hx hb d_La_isAhead_15 (lv_at hl 0 rfl) ?_
    refine lv_if_lt (tgt := 31) hx hb d_La_isAhead_17 (by decide) (fun c_17 => ?_) (fun c_17 => ?_)
    · exact absurd c_17 (nI_pos (by omega))
    · skip
      refine lv_aload_n hx hb d_La_isAhead_20 rfl (lv_at hl 2 rfl) ?_
      refine lv_iload_n hx hb d_La_isAhead_21 rfl (lv_at hl 4 rfl) ?_
      refine lv_iload_n hx hb d_La_isAhead_22 rfl (lv_at hl 1 rfl) ?_
      refine g_V C0 (g_val (v' := (nI (96 + kL ((X.1.2 1).2 b) (kS ((X.1.2 1).2 a) ((X.1.2 1).2 b))))) (k_Ga_letter l G x X (nI b) (nI (kS ((X.1.2 1).2 a) ((X.1.2 1).2 b))) hX) (lt_v hI hb2 (ah_ok ka kb hlt hp).1)) co_Ga_letter im_Ga_letter se_Ga_letter in_Ga gc_Ga_letter ml_La_19 ⟨Nat.le_of_ble_eq_true rfl, Nat.le_of_ble_eq_true rfl⟩ hK hP.1 rfl hP rfl hl.1 rfl (Nat.le_of_ble_eq_true rfl) d_La_isAhead_23 ⟨Nat.le_of_ble_eq_true rfl, Nat.le_of_ble_eq_true rfl⟩ (g_r rfl ?_)
      refine lv_iload hx hb d_La_isAhead_26 (lv_at hl 0 rfl) ?_
      refine g_cle (tgt := 35) C0 d_La_isAhead_28 (by decide) (by omega) (by omega) (fun c_28 => ?_) (fun c_28 => ?_)
      · exact absurd c_28 (by omega)
      · skip
        refine lv_iconst (v := nI 1) hx hb d_La_isAhead_31 (by decide +kernel) ?_
        refine lv_goto (tgt := 36) hx hb d_La_isAhead_32 (by decide) ?_
        refine g_zret (b := true) C0 hlk hr d_La_isAhead_36 (t_nil (free := noF)) ?_
        exact ⟨rfl, rfl⟩
  · skip
    refine lv_aload_n hx hb d_La_isAhead_7 rfl (lv_at hl 1 rfl) ?_
    refine lv_iload_n hx hb d_La_isAhead_8 rfl (lv_at hl 2 rfl) ?_
    refine lv_iload_n hx hb d_La_isAhead_9 rfl (lv_at hl 0 rfl) ?_
    refine g_V C0 (g_val (v' := (-1)) (k_Ga_letter l G x X (nI a) (nI (kS ((X.1.2 1).2 a) ((X.1.2 1).2 b))) hX) (lt_e hI ha hp (by omega))) co_Ga_letter im_Ga_letter se_Ga_letter in_Ga gc_Ga_letter ml_La_19 ⟨Nat.le_of_ble_eq_true rfl, Nat.le_of_ble_eq_true rfl⟩ hK hP.1 rfl hP rfl hl.1 rfl (Nat.le_of_ble_eq_true rfl) d_La_isAhead_10 ⟨Nat.le_of_ble_eq_true rfl, Nat.le_of_ble_eq_true rfl⟩ (g_r rfl ?_)
    refine lv_istore (lv' := [(4, .int (-1)), (3, .int (nI (kS ((X.1.2 1).2 a) ((X.1.2 1).2 b)))), (0, .ref x), (1, .int (nI a)), (2, .int (nI b))]) hx hb d_La_isAhead_13 hl (by decide) rfl (fun ls hl => ?_)
    refine lv_iload hx hb d_La_isAhead_15 (lv_at hl 0 rfl) ?_
    refine lv_if_lt (tgt := 31) hx hb d_La_isAhead_17 (by decide) (fun c_17 => ?_) (fun c_17 => ?_)
    · skip
      refine lv_iconst (v := nI 1) hx hb d_La_isAhead_31 (by decide +kernel) ?_
      refine lv_goto (tgt := 36) hx hb d_La_isAhead_32 (by decide) ?_
      refine g_zret (b := true) C0 hlk hr d_La_isAhead_36 (t_nil (free := noF)) ?_
      exact ⟨rfl, rfl⟩
    · exact absurd (by decide) c_17

set_option maxHeartbeats 4000000 in
set_option maxRecDepth 100000 in
theorem k_La_areNames (l : Launch) (G : gT) (x : Nat) (X : XS) (t : Nat)  (hI : IY t X.1) (hX : XOk X) : gM l y_La_areNames c_La_areNames 9 (some .boolean) 7 154 0 0 G [.ref x] (fun H => XAt G x X H) (rd (.int (bI true))) noF := by
  refine g_enter "GaleNamesLaw" (by decide +kernel) rfl (Nat.le_of_ble_eq_true rfl) ?_
  intro p e s m args below meth c C0 hlk hr hnm hP hK ls hl
  have hx := C0.1
  have hb := C0.2.1
  have hl : lv_has ls 9 [(0, .ref x)] := hl
  have h40 := hI.n40
  have e2 := hI.nk (k := 2) (by decide) (by decide)
  have e3 := hI.nk (k := 3) (by decide) (by decide)
  have hs2 := (hI.set3 (i := 2) (by decide)).2.2
  refine lv_aload_n hx hb d_La_areNames_0 rfl (lv_at hl 0 rfl) ?_
  refine lv_iconst (v := nI 1) hx hb d_La_areNames_1 (by decide +kernel) ?_
  refine g_V C0 (g_val (v' := (nI ((X.1.2 1).1))) (k_Ga_count l G x X (nI 1) hX) cnt_1) co_Ga_count im_Ga_count se_Ga_count in_Ga gc_Ga_count ml_La_22 ⟨Nat.le_of_ble_eq_true rfl, Nat.le_of_ble_eq_true rfl⟩ hK hP.1 rfl hP rfl hl.1 rfl (Nat.le_of_ble_eq_true rfl) d_La_areNames_2 ⟨Nat.le_of_ble_eq_true rfl, Nat.le_of_ble_eq_true rfl⟩ (g_r rfl ?_)
  refine lv_istore_n (lv' := [(1, .int (nI ((X.1.2 1).1))), (0, .ref x)]) hx hb d_La_areNames_5 rfl hl (by decide) rfl (fun ls hl => ?_)
  refine lv_iconst (v := nI 0) hx hb d_La_areNames_6 (by decide +kernel) ?_
  refine lv_istore_n (lv' := [(2, .int (nI 0)), (1, .int (nI ((X.1.2 1).1))), (0, .ref x)]) hx hb d_La_areNames_7 rfl hl (by decide) rfl (fun ls hl => ?_)
  refine lv_iconst (v := nI 0) hx hb d_La_areNames_8 (by decide +kernel) ?_
  refine lv_istore_n (lv' := [(3, .int (nI 0)), (2, .int (nI 0)), (1, .int (nI ((X.1.2 1).1))), (0, .ref x)]) hx hb d_La_areNames_9 rfl hl (by decide) rfl (fun ls hl => ?_)
  refine lv_aload_n hx hb d_La_areNames_10 rfl (lv_at hl 3 rfl) ?_
  refine lv_iload_n hx hb d_La_areNames_11 rfl (lv_at hl 2 rfl) ?_
  refine lv_iconst (v := nI 0) hx hb d_La_areNames_12 (by decide +kernel) ?_
  refine g_V C0 (g_val (v' := (-1)) (k_Ga_of l G x X (nI ((X.1.2 1).1)) (nI 0) hX) (of_n (Nat.le_refl _) (by omega))) co_Ga_of im_Ga_of se_Ga_of in_Ga gc_Ga_of ml_La_26 ⟨Nat.le_of_ble_eq_true rfl, Nat.le_of_ble_eq_true rfl⟩ hK hP.1 rfl hP rfl hl.1 rfl (Nat.le_of_ble_eq_true rfl) d_La_areNames_13 ⟨Nat.le_of_ble_eq_true rfl, Nat.le_of_ble_eq_true rfl⟩ (g_r rfl ?_)
  refine lv_iconst (v := -1) hx hb d_La_areNames_16 (by decide +kernel) ?_
  refine lv_icmp_ne (tgt := 42) hx hb d_La_areNames_17 (by decide) (fun c_17 => ?_) (fun c_17 => ?_)
  · exact absurd rfl c_17
  · skip
    refine lv_aload_n hx hb d_La_areNames_20 rfl (lv_at hl 3 rfl) ?_
    refine lv_iload_n hx hb d_La_areNames_21 rfl (lv_at hl 2 rfl) ?_
    refine g_V C0 (g_val (v' := (-1)) (k_Ga_ranked l G x X (nI ((X.1.2 1).1)) hX) (rk_n hI)) co_Ga_ranked im_Ga_ranked se_Ga_ranked in_Ga gc_Ga_ranked ml_La_29 ⟨Nat.le_of_ble_eq_true rfl, Nat.le_of_ble_eq_true rfl⟩ hK hP.1 rfl hP rfl hl.1 rfl (Nat.le_of_ble_eq_true rfl) d_La_areNames_22 ⟨Nat.le_of_ble_eq_true rfl, Nat.le_of_ble_eq_true rfl⟩ (g_r rfl ?_)
    refine lv_iconst (v := -1) hx hb d_La_areNames_25 (by decide +kernel) ?_
    refine lv_icmp_ne (tgt := 42) hx hb d_La_areNames_26 (by decide) (fun c_26 => ?_) (fun c_26 => ?_)
    · exact absurd rfl c_26
    · skip
      refine lv_aload_n hx hb d_La_areNames_29 rfl (lv_at hl 3 rfl) ?_
      refine lv_iconst (v := -1) hx hb d_La_areNames_30 (by decide +kernel) ?_
      refine g_V C0 (g_val (v' := (-1)) (k_Ga_ranked l G x X (-1) hX) (rk_m hI)) co_Ga_ranked im_Ga_ranked se_Ga_ranked in_Ga gc_Ga_ranked ml_La_29 ⟨Nat.le_of_ble_eq_true rfl, Nat.le_of_ble_eq_true rfl⟩ hK hP.1 rfl hP rfl hl.1 rfl (Nat.le_of_ble_eq_true rfl) d_La_areNames_31 ⟨Nat.le_of_ble_eq_true rfl, Nat.le_of_ble_eq_true rfl⟩ (g_r rfl ?_)
      refine lv_iconst (v := -1) hx hb d_La_areNames_34 (by decide +kernel) ?_
      refine lv_icmp_ne (tgt := 42) hx hb d_La_areNames_35 (by decide) (fun c_35 => ?_) (fun c_35 => ?_)
      · exact absurd rfl c_35
      · skip
        refine lv_iconst (v := nI 1) hx hb d_La_areNames_38 (by decide +kernel) ?_
        refine lv_goto (tgt := 43) hx hb d_La_areNames_39 (by decide) ?_
        refine lv_istore (lv' := [(4, .int (nI 1)), (3, .int (nI 0)), (2, .int (nI 0)), (1, .int (nI ((X.1.2 1).1))), (0, .ref x)]) hx hb d_La_areNames_43 hl (by decide) rfl (fun ls hl => ?_)
        refine lv_iconst (v := nI 0) hx hb d_La_areNames_45 (by decide +kernel) ?_
        refine lv_istore (lv' := [(5, .int (nI 0)), (4, .int (nI 1)), (3, .int (nI 0)), (2, .int (nI 0)), (1, .int (nI ((X.1.2 1).1))), (0, .ref x)]) hx hb d_La_areNames_46 hl (by decide) rfl (fun ls hl => ?_)
        have lp48 : ∀ (fu : Nat) (i : Nat) (r : Nat) (q : Nat), ((X.1.2 1).1 - i) < fu → i ≤ (X.1.2 1).1 → r = sN (X.1.2 2).2 i → q = sN (X.1.2 3).2 i → ∀ ls : Array Slot, lv_has ls 9 [(5, .int (nI i)), (4, .int (nI 1)), (3, .int (nI q)), (2, .int (nI r)), (1, .int (nI ((X.1.2 1).1))), (0, .ref x)] → W p l e ({ frames := 7, cells := 0, slots := 0, locals := 154 } : Room) s m args below meth c s.heap [] 0 0 (MQ below (gQ (rd (.int (bI true)))) args s 0 0 noF) (F0 m 48 ls []) := by
          intro fu
          induction fu with
          | zero => intro i r q  hfu; exact absurd hfu (Nat.not_lt_zero _)
          | succ fu ih48 =>
            intro i r q hfu hi hr2 hq ls hl
            refine lv_iload hx hb d_La_areNames_48 (lv_at hl 0 rfl) ?_
            refine lv_iload_n hx hb d_La_areNames_50 rfl (lv_at hl 4 rfl) ?_
            refine g_cge (tgt := 250) C0 d_La_areNames_51 (by decide) (by omega) (by omega) (fun c_51 => ?_) (fun c_51 => ?_)
            · skip
              refine lv_iload hx hb d_La_areNames_250 (lv_at hl 1 rfl) ?_
              refine lv_if_eq (tgt := 277) hx hb d_La_areNames_252 (by decide) (fun c_252 => ?_) (fun c_252 => ?_)
              · first | exact absurd c_252 (by decide) | exact absurd rfl c_252
              · skip
                refine lv_iload_n hx hb d_La_areNames_255 rfl (lv_at hl 3 rfl) ?_
                refine lv_aload_n hx hb d_La_areNames_256 rfl (lv_at hl 5 rfl) ?_
                refine lv_iconst (v := nI 2) hx hb d_La_areNames_257 (by decide +kernel) ?_
                refine g_V C0 (g_val (v' := (nI (sN (X.1.2 2).2 (X.1.2 2).1))) (k_Ga_count l G x X (nI 2) hX) cnt_2) co_Ga_count im_Ga_count se_Ga_count in_Ga gc_Ga_count ml_La_22 ⟨Nat.le_of_ble_eq_true rfl, Nat.le_of_ble_eq_true rfl⟩ hK hP.1 rfl hP rfl hl.1 rfl (Nat.le_of_ble_eq_true rfl) d_La_areNames_258 ⟨Nat.le_of_ble_eq_true rfl, Nat.le_of_ble_eq_true rfl⟩ (g_r rfl ?_)
                refine lv_icmp_ne (tgt := 277) hx hb d_La_areNames_261 (by decide) (fun c_261 => ?_) (fun c_261 => ?_)
                · exact absurd (by rw [hr2, show i = (X.1.2 1).1 by omega, e2]) c_261
                · skip
                  refine lv_iload_n hx hb d_La_areNames_264 rfl (lv_at hl 2 rfl) ?_
                  refine lv_aload_n hx hb d_La_areNames_265 rfl (lv_at hl 5 rfl) ?_
                  refine lv_iconst (v := nI 4) hx hb d_La_areNames_266 (by decide +kernel) ?_
                  refine g_V C0 (g_val (v' := (nI (sN (X.1.2 3).2 (X.1.2 3).1))) (k_Ga_count l G x X (nI 4) hX) cnt_4) co_Ga_count im_Ga_count se_Ga_count in_Ga gc_Ga_count ml_La_22 ⟨Nat.le_of_ble_eq_true rfl, Nat.le_of_ble_eq_true rfl⟩ hK hP.1 rfl hP rfl hl.1 rfl (Nat.le_of_ble_eq_true rfl) d_La_areNames_267 ⟨Nat.le_of_ble_eq_true rfl, Nat.le_of_ble_eq_true rfl⟩ (g_r rfl ?_)
                  refine lv_icmp_ne (tgt := 277) hx hb d_La_areNames_270 (by decide) (fun c_270 => ?_) (fun c_270 => ?_)
                  · exact absurd (by rw [hq, show i = (X.1.2 1).1 by omega, e3]) c_270
                  · skip
                    refine lv_iconst (v := nI 1) hx hb d_La_areNames_273 (by decide +kernel) ?_
                    refine lv_goto (tgt := 278) hx hb d_La_areNames_274 (by decide) ?_
                    refine g_zret (b := true) C0 hlk hr d_La_areNames_278 (t_nil (free := noF)) ?_
                    exact ⟨rfl, rfl⟩
            · skip
              have hin : i < (X.1.2 1).1 := by omega
              have hl6 := kK_L (hI.key hin)
              refine lv_iload hx hb d_La_areNames_54 (lv_at hl 1 rfl) ?_
              refine lv_if_eq (tgt := 250) hx hb d_La_areNames_56 (by decide) (fun c_56 => ?_) (fun c_56 => ?_)
              · first | exact absurd c_56 (by decide) | exact absurd rfl c_56
              · skip
                refine lv_aload_n hx hb d_La_areNames_59 rfl (lv_at hl 5 rfl) ?_
                refine lv_iload hx hb d_La_areNames_60 (lv_at hl 0 rfl) ?_
                refine lv_iconst (v := nI 0) hx hb d_La_areNames_62 (by decide +kernel) ?_
                refine g_V C0 (g_val (v' := (nI (kS ((X.1.2 1).2 i) ((X.1.2 1).2 i)))) (k_Ga_of l G x X (nI i) (nI 0) hX) (of_0 hI (by omega))) co_Ga_of im_Ga_of se_Ga_of in_Ga gc_Ga_of ml_La_26 ⟨Nat.le_of_ble_eq_true rfl, Nat.le_of_ble_eq_true rfl⟩ hK hP.1 rfl hP rfl hl.1 rfl (Nat.le_of_ble_eq_true rfl) d_La_areNames_63 ⟨Nat.le_of_ble_eq_true rfl, Nat.le_of_ble_eq_true rfl⟩ (g_r rfl ?_)
                refine lv_istore (lv' := [(6, .int (nI (kS ((X.1.2 1).2 i) ((X.1.2 1).2 i)))), (5, .int (nI i)), (4, .int (nI 1)), (3, .int (nI q)), (2, .int (nI r)), (1, .int (nI ((X.1.2 1).1))), (0, .ref x)]) hx hb d_La_areNames_66 hl (by decide) rfl (fun ls hl => ?_)
                refine lv_iconst (v := nI 0) hx hb d_La_areNames_68 (by decide +kernel) ?_
                refine lv_istore (lv' := [(7, .int (nI 0)), (6, .int (nI (kS ((X.1.2 1).2 i) ((X.1.2 1).2 i)))), (5, .int (nI i)), (4, .int (nI 1)), (3, .int (nI q)), (2, .int (nI r)), (1, .int (nI ((X.1.2 1).1))), (0, .ref x)]) hx hb d_La_areNames_69 hl (by decide) rfl (fun ls hl => ?_)
                refine lv_iconst (v := nI 0) hx hb d_La_areNames_71 (by decide +kernel) ?_
                refine lv_istore (lv' := [(8, .int (nI 0)), (7, .int (nI 0)), (6, .int (nI (kS ((X.1.2 1).2 i) ((X.1.2 1).2 i)))), (5, .int (nI i)), (4, .int (nI 1)), (3, .int (nI q)), (2, .int (nI r)), (1, .int (nI ((X.1.2 1).1))), (0, .ref x)]) hx hb d_La_areNames_72 hl (by decide) rfl (fun ls hl => ?_)
                have lp74 : ∀ (fu : Nat) (j : Nat) (a : Nat), ((X.1.2 1).1 - j) < fu → j ≤ (X.1.2 1).1 → a = cN (fun j => kAl ((X.1.2 1).2 i) ((X.1.2 1).2 j) ((X.1.2 0).2 2)) j → ∀ ls : Array Slot, lv_has ls 9 [(8, .int (nI j)), (7, .int (nI a)), (6, .int (nI (kS ((X.1.2 1).2 i) ((X.1.2 1).2 i)))), (5, .int (nI i)), (4, .int (nI 1)), (3, .int (nI q)), (2, .int (nI r)), (1, .int (nI ((X.1.2 1).1))), (0, .ref x)] → W p l e ({ frames := 7, cells := 0, slots := 0, locals := 154 } : Room) s m args below meth c s.heap [] 0 0 (MQ below (gQ (rd (.int (bI true)))) args s 0 0 noF) (F0 m 74 ls []) := by
                  intro fu
                  induction fu with
                  | zero => intro j a  hfu; exact absurd hfu (Nat.not_lt_zero _)
                  | succ fu ih74 =>
                    intro j a hfu hj ha ls hl
                    refine lv_iload hx hb d_La_areNames_74 (lv_at hl 0 rfl) ?_
                    refine lv_iload_n hx hb d_La_areNames_76 rfl (lv_at hl 7 rfl) ?_
                    refine g_cge (tgt := 120) C0 d_La_areNames_77 (by decide) (by omega) (by omega) (fun c_77 => ?_) (fun c_77 => ?_)
                    · skip
                      have ej : j = (X.1.2 1).1 := by omega
                      refine lv_iload_n hx hb d_La_areNames_120 rfl (lv_at hl 6 rfl) ?_
                      refine lv_aload_n hx hb d_La_areNames_121 rfl (lv_at hl 8 rfl) ?_
                      refine lv_iload hx hb d_La_areNames_122 (lv_at hl 3 rfl) ?_
                      refine lv_iconst (v := nI 1) hx hb d_La_areNames_124 (by decide +kernel) ?_
                      refine g_V C0 (g_val (v' := (nI ((X.1.2 2).2 i))) (k_Ga_of l G x X (nI i) (nI 1) hX) (of_1 hI (by omega))) co_Ga_of im_Ga_of se_Ga_of in_Ga gc_Ga_of ml_La_26 ⟨Nat.le_of_ble_eq_true rfl, Nat.le_of_ble_eq_true rfl⟩ hK hP.1 rfl hP rfl hl.1 rfl (Nat.le_of_ble_eq_true rfl) d_La_areNames_125 ⟨Nat.le_of_ble_eq_true rfl, Nat.le_of_ble_eq_true rfl⟩ (g_r rfl ?_)
                      refine g_iadd C0 (z := r + ((X.1.2 2).2 i)) d_La_areNames_128 rfl ?_
                      refine lv_istore_n (lv' := [(2, .int (nI (r + ((X.1.2 2).2 i)))), (8, .int (nI j)), (7, .int (nI a)), (6, .int (nI (kS ((X.1.2 1).2 i) ((X.1.2 1).2 i)))), (5, .int (nI i)), (4, .int (nI 1)), (3, .int (nI q)), (1, .int (nI ((X.1.2 1).1))), (0, .ref x)]) hx hb d_La_areNames_129 rfl hl (by decide) rfl (fun ls hl => ?_)
                      refine lv_iload_n hx hb d_La_areNames_130 rfl (lv_at hl 6 rfl) ?_
                      refine lv_aload_n hx hb d_La_areNames_131 rfl (lv_at hl 8 rfl) ?_
                      refine lv_iload hx hb d_La_areNames_132 (lv_at hl 4 rfl) ?_
                      refine lv_iconst (v := nI 3) hx hb d_La_areNames_134 (by decide +kernel) ?_
                      refine g_V C0 (g_val (v' := (nI ((X.1.2 3).2 i))) (k_Ga_of l G x X (nI i) (nI 3) hX) (of_3 hI (by omega))) co_Ga_of im_Ga_of se_Ga_of in_Ga gc_Ga_of ml_La_26 ⟨Nat.le_of_ble_eq_true rfl, Nat.le_of_ble_eq_true rfl⟩ hK hP.1 rfl hP rfl hl.1 rfl (Nat.le_of_ble_eq_true rfl) d_La_areNames_135 ⟨Nat.le_of_ble_eq_true rfl, Nat.le_of_ble_eq_true rfl⟩ (g_r rfl ?_)
                      refine g_iadd C0 (z := q + ((X.1.2 3).2 i)) d_La_areNames_138 rfl ?_
                      refine lv_istore_n (lv' := [(3, .int (nI (q + ((X.1.2 3).2 i)))), (2, .int (nI (r + ((X.1.2 2).2 i)))), (8, .int (nI j)), (7, .int (nI a)), (6, .int (nI (kS ((X.1.2 1).2 i) ((X.1.2 1).2 i)))), (5, .int (nI i)), (4, .int (nI 1)), (1, .int (nI ((X.1.2 1).1))), (0, .ref x)]) hx hb d_La_areNames_139 rfl hl (by decide) rfl (fun ls hl => ?_)
                      refine lv_iload hx hb d_La_areNames_140 (lv_at hl 4 rfl) ?_
                      refine lv_iconst (v := nI 2) hx hb d_La_areNames_142 (by decide +kernel) ?_
                      refine g_clt (tgt := 241) C0 d_La_areNames_143 (by decide) (by omega) (by omega) (fun c_143 => ?_) (fun c_143 => ?_)
                      · exact absurd c_143 (by omega)
                      · skip
                        refine lv_iload hx hb d_La_areNames_146 (lv_at hl 4 rfl) ?_
                        refine lv_bipush (v := nI 6) hx hb d_La_areNames_148 (by decide +kernel) ?_
                        refine g_cgt (tgt := 241) C0 d_La_areNames_150 (by decide) (by omega) (by omega) (fun c_150 => ?_) (fun c_150 => ?_)
                        · exact absurd c_150 (by omega)
                        · skip
                          refine lv_aload_n hx hb d_La_areNames_153 rfl (lv_at hl 8 rfl) ?_
                          refine lv_iload hx hb d_La_areNames_154 (lv_at hl 5 rfl) ?_
                          refine lv_iload hx hb d_La_areNames_156 (lv_at hl 4 rfl) ?_
                          refine g_V C0 (g_val (v' := (-1)) (k_Ga_letter l G x X (nI i) (nI (kS ((X.1.2 1).2 i) ((X.1.2 1).2 i))) hX) (lt_e hI hin (Nat.le_refl _) (by omega))) co_Ga_letter im_Ga_letter se_Ga_letter in_Ga gc_Ga_letter ml_La_19 ⟨Nat.le_of_ble_eq_true rfl, Nat.le_of_ble_eq_true rfl⟩ hK hP.1 rfl hP rfl hl.1 rfl (Nat.le_of_ble_eq_true rfl) d_La_areNames_158 ⟨Nat.le_of_ble_eq_true rfl, Nat.le_of_ble_eq_true rfl⟩ (g_r rfl ?_)
                          refine lv_iconst (v := -1) hx hb d_La_areNames_161 (by decide +kernel) ?_
                          refine lv_icmp_ne (tgt := 241) hx hb d_La_areNames_162 (by decide) (fun c_162 => ?_) (fun c_162 => ?_)
                          · exact absurd rfl c_162
                          · skip
                            refine lv_aload_n hx hb d_La_areNames_165 rfl (lv_at hl 8 rfl) ?_
                            refine lv_iload hx hb d_La_areNames_166 (lv_at hl 5 rfl) ?_
                            refine lv_iload hx hb d_La_areNames_168 (lv_at hl 5 rfl) ?_
                            refine g_V C0 (g_val (v' := (nI (kS ((X.1.2 1).2 i) ((X.1.2 1).2 i)))) (k_Ga_same l G x X (nI i) (nI i) hX) (smv hI hin hin)) co_Ga_same im_Ga_same se_Ga_same in_Ga gc_Ga_same ml_La_15 ⟨Nat.le_of_ble_eq_true rfl, Nat.le_of_ble_eq_true rfl⟩ hK hP.1 rfl hP rfl hl.1 rfl (Nat.le_of_ble_eq_true rfl) d_La_areNames_170 ⟨Nat.le_of_ble_eq_true rfl, Nat.le_of_ble_eq_true rfl⟩ (g_r rfl ?_)
                            refine lv_iload hx hb d_La_areNames_173 (lv_at hl 4 rfl) ?_
                            refine lv_icmp_ne (tgt := 241) hx hb d_La_areNames_175 (by decide) (fun c_175 => ?_) (fun c_175 => ?_)
                            · exact absurd rfl c_175
                            · skip
                              refine lv_aload_n hx hb d_La_areNames_178 rfl (lv_at hl 8 rfl) ?_
                              refine lv_iload hx hb d_La_areNames_179 (lv_at hl 5 rfl) ?_
                              refine lv_bipush (v := nI 6) hx hb d_La_areNames_181 (by decide +kernel) ?_
                              refine g_V C0 (g_val (v' := (nI (alT X.1 i))) (k_Ga_of l G x X (nI i) (nI 6) hX) (of_6 hI hin)) co_Ga_of im_Ga_of se_Ga_of in_Ga gc_Ga_of ml_La_26 ⟨Nat.le_of_ble_eq_true rfl, Nat.le_of_ble_eq_true rfl⟩ hK hP.1 rfl hP rfl hl.1 rfl (Nat.le_of_ble_eq_true rfl) d_La_areNames_183 ⟨Nat.le_of_ble_eq_true rfl, Nat.le_of_ble_eq_true rfl⟩ (g_r rfl ?_)
                              refine lv_iload hx hb d_La_areNames_186 (lv_at hl 3 rfl) ?_
                              refine lv_icmp_ne (tgt := 241) hx hb d_La_areNames_188 (by decide) (fun c_188 => ?_) (fun c_188 => ?_)
                              · exact absurd (by rw [ha, ej, alT_in hI hin]) c_188
                              · skip
                                refine lv_aload_n hx hb d_La_areNames_191 rfl (lv_at hl 8 rfl) ?_
                                refine lv_iload hx hb d_La_areNames_192 (lv_at hl 5 rfl) ?_
                                refine lv_iconst (v := nI 1) hx hb d_La_areNames_194 (by decide +kernel) ?_
                                refine g_V C0 (g_val (v' := (nI ((X.1.2 2).2 i))) (k_Ga_of l G x X (nI i) (nI 1) hX) (of_1 hI hin)) co_Ga_of im_Ga_of se_Ga_of in_Ga gc_Ga_of ml_La_26 ⟨Nat.le_of_ble_eq_true rfl, Nat.le_of_ble_eq_true rfl⟩ hK hP.1 rfl hP rfl hl.1 rfl (Nat.le_of_ble_eq_true rfl) d_La_areNames_195 ⟨Nat.le_of_ble_eq_true rfl, Nat.le_of_ble_eq_true rfl⟩ (g_r rfl ?_)
                                refine lv_if_eq (tgt := 211) hx hb d_La_areNames_198 (by decide) (fun c_198 => ?_) (fun c_198 => ?_)
                                · skip
                                  refine lv_iload hx hb d_La_areNames_211 (lv_at hl 5 rfl) ?_
                                  refine lv_if_eq (tgt := 237) hx hb d_La_areNames_213 (by decide) (fun c_213 => ?_) (fun c_213 => ?_)
                                  · skip
                                    refine lv_iconst (v := nI 1) hx hb d_La_areNames_237 (by decide +kernel) ?_
                                    refine lv_goto (tgt := 242) hx hb d_La_areNames_238 (by decide) ?_
                                    refine lv_istore (lv' := [(4, .int (nI 1)), (3, .int (nI (q + ((X.1.2 3).2 i)))), (2, .int (nI (r + ((X.1.2 2).2 i)))), (8, .int (nI j)), (7, .int (nI a)), (6, .int (nI (kS ((X.1.2 1).2 i) ((X.1.2 1).2 i)))), (5, .int (nI i)), (1, .int (nI ((X.1.2 1).1))), (0, .ref x)]) hx hb d_La_areNames_242 hl (by decide) rfl (fun ls hl => ?_)
                                    refine lv_iinc (v := (nI (i + 1))) (lv' := [(5, .int (nI (i + 1))), (4, .int (nI 1)), (3, .int (nI (q + ((X.1.2 3).2 i)))), (2, .int (nI (r + ((X.1.2 2).2 i)))), (8, .int (nI j)), (7, .int (nI a)), (6, .int (nI (kS ((X.1.2 1).2 i) ((X.1.2 1).2 i)))), (1, .int (nI ((X.1.2 1).1))), (0, .ref x)]) hx hb d_La_areNames_244 hl (k := 6) rfl (gI_inc _) (by decide) rfl (fun ls hl => ?_)
                                    refine lv_goto (tgt := 48) hx hb d_La_areNames_247 (by decide) ?_
                                    exact ih48 (i + 1) (r + ((X.1.2 2).2 i)) (q + ((X.1.2 3).2 i)) (by omega) (by omega) (by rw [hr2, sN_s]) (by rw [hq, sN_s]) ls (lv_sub hl [0, 1, 2, 3, 7, 8] rfl)
                                  · skip
                                    have i0 : i ≠ 0 := fun z => c_213 (by rw [z]; rfl)
                                    obtain ⟨a1, ha1, hr1, hf1⟩ := rk_at hI (r := i - 1) (by omega)
                                    obtain ⟨a2, ha2, hr3, hf2⟩ := rk_at hI (r := i) (by omega)
                                    refine lv_aload_n hx hb d_La_areNames_216 rfl (lv_at hl 8 rfl) ?_
                                    refine lv_aload_n hx hb d_La_areNames_217 rfl (lv_at hl 8 rfl) ?_
                                    refine lv_iload hx hb d_La_areNames_218 (lv_at hl 5 rfl) ?_
                                    refine lv_iconst (v := nI 1) hx hb d_La_areNames_220 (by decide +kernel) ?_
                                    refine g_isub C0 (z := i - 1) d_La_areNames_221 (by omega) ?_
                                    refine g_V C0 (g_val (v' := (nI a1)) (k_Ga_ranked l G x X (nI (i - 1)) hX) hf1) co_Ga_ranked im_Ga_ranked se_Ga_ranked in_Ga gc_Ga_ranked ml_La_29 ⟨Nat.le_of_ble_eq_true rfl, Nat.le_of_ble_eq_true rfl⟩ hK hP.1 rfl hP rfl hl.1 rfl (Nat.le_of_ble_eq_true rfl) d_La_areNames_222 ⟨Nat.le_of_ble_eq_true rfl, Nat.le_of_ble_eq_true rfl⟩ (g_r rfl ?_)
                                    refine lv_aload_n hx hb d_La_areNames_225 rfl (lv_at hl 8 rfl) ?_
                                    refine lv_iload hx hb d_La_areNames_226 (lv_at hl 5 rfl) ?_
                                    refine g_V C0 (g_val (v' := (nI a2)) (k_Ga_ranked l G x X (nI i) hX) hf2) co_Ga_ranked im_Ga_ranked se_Ga_ranked in_Ga gc_Ga_ranked ml_La_29 ⟨Nat.le_of_ble_eq_true rfl, Nat.le_of_ble_eq_true rfl⟩ hK hP.1 rfl hP rfl hl.1 rfl (Nat.le_of_ble_eq_true rfl) d_La_areNames_228 ⟨Nat.le_of_ble_eq_true rfl, Nat.le_of_ble_eq_true rfl⟩ (g_r rfl ?_)
                                    refine g_S C0 (k_La_isAhead l G x X t a1 a2 ha1 ha2 (rk_or hI ha1 ha2 (by omega)) hI hX) co_La_isAhead sm_La_isAhead in_La gc_La_isAhead ml_La_32 ⟨Nat.le_of_ble_eq_true rfl, Nat.le_of_ble_eq_true rfl⟩ hK hP rfl hl.1 rfl (Nat.le_of_ble_eq_true rfl) d_La_areNames_231 ⟨Nat.le_of_ble_eq_true rfl, Nat.le_of_ble_eq_true rfl⟩ (g_r rfl ?_)
                                    refine g_zeq (tgt := 241) C0 d_La_areNames_234 (by decide) (fun c_234 => ?_) (fun c_234 => ?_)
                                    · cases c_234
                                    · skip
                                      refine lv_iconst (v := nI 1) hx hb d_La_areNames_237 (by decide +kernel) ?_
                                      refine lv_goto (tgt := 242) hx hb d_La_areNames_238 (by decide) ?_
                                      refine lv_istore (lv' := [(4, .int (nI 1)), (3, .int (nI (q + ((X.1.2 3).2 i)))), (2, .int (nI (r + ((X.1.2 2).2 i)))), (8, .int (nI j)), (7, .int (nI a)), (6, .int (nI (kS ((X.1.2 1).2 i) ((X.1.2 1).2 i)))), (5, .int (nI i)), (1, .int (nI ((X.1.2 1).1))), (0, .ref x)]) hx hb d_La_areNames_242 hl (by decide) rfl (fun ls hl => ?_)
                                      refine lv_iinc (v := (nI (i + 1))) (lv' := [(5, .int (nI (i + 1))), (4, .int (nI 1)), (3, .int (nI (q + ((X.1.2 3).2 i)))), (2, .int (nI (r + ((X.1.2 2).2 i)))), (8, .int (nI j)), (7, .int (nI a)), (6, .int (nI (kS ((X.1.2 1).2 i) ((X.1.2 1).2 i)))), (1, .int (nI ((X.1.2 1).1))), (0, .ref x)]) hx hb d_La_areNames_244 hl (k := 6) rfl (gI_inc _) (by decide) rfl (fun ls hl => ?_)
                                      refine lv_goto (tgt := 48) hx hb d_La_areNames_247 (by decide) ?_
                                      exact ih48 (i + 1) (r + ((X.1.2 2).2 i)) (q + ((X.1.2 3).2 i)) (by omega) (by omega) (by rw [hr2, sN_s]) (by rw [hq, sN_s]) ls (lv_sub hl [0, 1, 2, 3, 7, 8] rfl)
                                · skip
                                  refine lv_aload_n hx hb d_La_areNames_201 rfl (lv_at hl 8 rfl) ?_
                                  refine lv_iload hx hb d_La_areNames_202 (lv_at hl 5 rfl) ?_
                                  refine lv_iconst (v := nI 2) hx hb d_La_areNames_204 (by decide +kernel) ?_
                                  refine g_V C0 (g_val (v' := (nI (coF X.1 i 2))) (k_Ga_of l G x X (nI i) (nI 2) hX) (of_2 hI hin)) co_Ga_of im_Ga_of se_Ga_of in_Ga gc_Ga_of ml_La_26 ⟨Nat.le_of_ble_eq_true rfl, Nat.le_of_ble_eq_true rfl⟩ hK hP.1 rfl hP rfl hl.1 rfl (Nat.le_of_ble_eq_true rfl) d_La_areNames_205 ⟨Nat.le_of_ble_eq_true rfl, Nat.le_of_ble_eq_true rfl⟩ (g_r rfl ?_)
                                  refine lv_if_ne (tgt := 241) hx hb d_La_areNames_208 (by decide) (fun c_208 => ?_) (fun c_208 => ?_)
                                  · exact absurd (by rw [hI.ret0 (fun z => c_198 (by rw [z]; rfl))]; rfl) c_208
                                  · skip
                                    refine lv_iload hx hb d_La_areNames_211 (lv_at hl 5 rfl) ?_
                                    refine lv_if_eq (tgt := 237) hx hb d_La_areNames_213 (by decide) (fun c_213 => ?_) (fun c_213 => ?_)
                                    · skip
                                      refine lv_iconst (v := nI 1) hx hb d_La_areNames_237 (by decide +kernel) ?_
                                      refine lv_goto (tgt := 242) hx hb d_La_areNames_238 (by decide) ?_
                                      refine lv_istore (lv' := [(4, .int (nI 1)), (3, .int (nI (q + ((X.1.2 3).2 i)))), (2, .int (nI (r + ((X.1.2 2).2 i)))), (8, .int (nI j)), (7, .int (nI a)), (6, .int (nI (kS ((X.1.2 1).2 i) ((X.1.2 1).2 i)))), (5, .int (nI i)), (1, .int (nI ((X.1.2 1).1))), (0, .ref x)]) hx hb d_La_areNames_242 hl (by decide) rfl (fun ls hl => ?_)
                                      refine lv_iinc (v := (nI (i + 1))) (lv' := [(5, .int (nI (i + 1))), (4, .int (nI 1)), (3, .int (nI (q + ((X.1.2 3).2 i)))), (2, .int (nI (r + ((X.1.2 2).2 i)))), (8, .int (nI j)), (7, .int (nI a)), (6, .int (nI (kS ((X.1.2 1).2 i) ((X.1.2 1).2 i)))), (1, .int (nI ((X.1.2 1).1))), (0, .ref x)]) hx hb d_La_areNames_244 hl (k := 6) rfl (gI_inc _) (by decide) rfl (fun ls hl => ?_)
                                      refine lv_goto (tgt := 48) hx hb d_La_areNames_247 (by decide) ?_
                                      exact ih48 (i + 1) (r + ((X.1.2 2).2 i)) (q + ((X.1.2 3).2 i)) (by omega) (by omega) (by rw [hr2, sN_s]) (by rw [hq, sN_s]) ls (lv_sub hl [0, 1, 2, 3, 7, 8] rfl)
                                    · skip
                                      have i0 : i ≠ 0 := fun z => c_213 (by rw [z]; rfl)
                                      obtain ⟨a1, ha1, hr1, hf1⟩ := rk_at hI (r := i - 1) (by omega)
                                      obtain ⟨a2, ha2, hr3, hf2⟩ := rk_at hI (r := i) (by omega)
                                      refine lv_aload_n hx hb d_La_areNames_216 rfl (lv_at hl 8 rfl) ?_
                                      refine lv_aload_n hx hb d_La_areNames_217 rfl (lv_at hl 8 rfl) ?_
                                      refine lv_iload hx hb d_La_areNames_218 (lv_at hl 5 rfl) ?_
                                      refine lv_iconst (v := nI 1) hx hb d_La_areNames_220 (by decide +kernel) ?_
                                      refine g_isub C0 (z := i - 1) d_La_areNames_221 (by omega) ?_
                                      refine g_V C0 (g_val (v' := (nI a1)) (k_Ga_ranked l G x X (nI (i - 1)) hX) hf1) co_Ga_ranked im_Ga_ranked se_Ga_ranked in_Ga gc_Ga_ranked ml_La_29 ⟨Nat.le_of_ble_eq_true rfl, Nat.le_of_ble_eq_true rfl⟩ hK hP.1 rfl hP rfl hl.1 rfl (Nat.le_of_ble_eq_true rfl) d_La_areNames_222 ⟨Nat.le_of_ble_eq_true rfl, Nat.le_of_ble_eq_true rfl⟩ (g_r rfl ?_)
                                      refine lv_aload_n hx hb d_La_areNames_225 rfl (lv_at hl 8 rfl) ?_
                                      refine lv_iload hx hb d_La_areNames_226 (lv_at hl 5 rfl) ?_
                                      refine g_V C0 (g_val (v' := (nI a2)) (k_Ga_ranked l G x X (nI i) hX) hf2) co_Ga_ranked im_Ga_ranked se_Ga_ranked in_Ga gc_Ga_ranked ml_La_29 ⟨Nat.le_of_ble_eq_true rfl, Nat.le_of_ble_eq_true rfl⟩ hK hP.1 rfl hP rfl hl.1 rfl (Nat.le_of_ble_eq_true rfl) d_La_areNames_228 ⟨Nat.le_of_ble_eq_true rfl, Nat.le_of_ble_eq_true rfl⟩ (g_r rfl ?_)
                                      refine g_S C0 (k_La_isAhead l G x X t a1 a2 ha1 ha2 (rk_or hI ha1 ha2 (by omega)) hI hX) co_La_isAhead sm_La_isAhead in_La gc_La_isAhead ml_La_32 ⟨Nat.le_of_ble_eq_true rfl, Nat.le_of_ble_eq_true rfl⟩ hK hP rfl hl.1 rfl (Nat.le_of_ble_eq_true rfl) d_La_areNames_231 ⟨Nat.le_of_ble_eq_true rfl, Nat.le_of_ble_eq_true rfl⟩ (g_r rfl ?_)
                                      refine g_zeq (tgt := 241) C0 d_La_areNames_234 (by decide) (fun c_234 => ?_) (fun c_234 => ?_)
                                      · cases c_234
                                      · skip
                                        refine lv_iconst (v := nI 1) hx hb d_La_areNames_237 (by decide +kernel) ?_
                                        refine lv_goto (tgt := 242) hx hb d_La_areNames_238 (by decide) ?_
                                        refine lv_istore (lv' := [(4, .int (nI 1)), (3, .int (nI (q + ((X.1.2 3).2 i)))), (2, .int (nI (r + ((X.1.2 2).2 i)))), (8, .int (nI j)), (7, .int (nI a)), (6, .int (nI (kS ((X.1.2 1).2 i) ((X.1.2 1).2 i)))), (5, .int (nI i)), (1, .int (nI ((X.1.2 1).1))), (0, .ref x)]) hx hb d_La_areNames_242 hl (by decide) rfl (fun ls hl => ?_)
                                        refine lv_iinc (v := (nI (i + 1))) (lv' := [(5, .int (nI (i + 1))), (4, .int (nI 1)), (3, .int (nI (q + ((X.1.2 3).2 i)))), (2, .int (nI (r + ((X.1.2 2).2 i)))), (8, .int (nI j)), (7, .int (nI a)), (6, .int (nI (kS ((X.1.2 1).2 i) ((X.1.2 1).2 i)))), (1, .int (nI ((X.1.2 1).1))), (0, .ref x)]) hx hb d_La_areNames_244 hl (k := 6) rfl (gI_inc _) (by decide) rfl (fun ls hl => ?_)
                                        refine lv_goto (tgt := 48) hx hb d_La_areNames_247 (by decide) ?_
                                        exact ih48 (i + 1) (r + ((X.1.2 2).2 i)) (q + ((X.1.2 3).2 i)) (by omega) (by omega) (by rw [hr2, sN_s]) (by rw [hq, sN_s]) ls (lv_sub hl [0, 1, 2, 3, 7, 8] rfl)
                    · skip
                      refine lv_iload hx hb d_La_areNames_80 (lv_at hl 1 rfl) ?_
                      refine lv_iload hx hb d_La_areNames_82 (lv_at hl 0 rfl) ?_
                      refine lv_iload hx hb d_La_areNames_84 (lv_at hl 3 rfl) ?_
                      refine g_ceq (tgt := 110) C0 d_La_areNames_86 (by decide) (by omega) (by omega) (fun c_86 => ?_) (fun c_86 => ?_)
                      · skip
                        refine lv_iconst (v := nI 0) hx hb d_La_areNames_110 (by decide +kernel) ?_
                        refine g_iadd C0 (z := a) d_La_areNames_111 rfl ?_
                        refine lv_istore (lv' := [(7, .int (nI a)), (8, .int (nI j)), (6, .int (nI (kS ((X.1.2 1).2 i) ((X.1.2 1).2 i)))), (5, .int (nI i)), (4, .int (nI 1)), (3, .int (nI q)), (2, .int (nI r)), (1, .int (nI ((X.1.2 1).1))), (0, .ref x)]) hx hb d_La_areNames_112 hl (by decide) rfl (fun ls hl => ?_)
                        refine lv_iinc (v := (nI (j + 1))) (lv' := [(8, .int (nI (j + 1))), (7, .int (nI a)), (6, .int (nI (kS ((X.1.2 1).2 i) ((X.1.2 1).2 i)))), (5, .int (nI i)), (4, .int (nI 1)), (3, .int (nI q)), (2, .int (nI r)), (1, .int (nI ((X.1.2 1).1))), (0, .ref x)]) hx hb d_La_areNames_114 hl (k := 1) rfl (gI_inc _) (by decide) rfl (fun ls hl => ?_)
                        refine lv_goto (tgt := 74) hx hb d_La_areNames_117 (by decide) ?_
                        exact ih74 (j + 1) a (by omega) (by omega) (by rw [ha, cN_s, show j = i from c_86, kal_i]; rfl) ls (lv_sub hl [0, 1, 2, 3, 4, 5, 6, 7, 8] rfl)
                      · skip
                        refine lv_aload_n hx hb d_La_areNames_89 rfl (lv_at hl 8 rfl) ?_
                        refine lv_iload hx hb d_La_areNames_90 (lv_at hl 3 rfl) ?_
                        refine lv_iload hx hb d_La_areNames_92 (lv_at hl 0 rfl) ?_
                        refine g_V C0 (g_val (v' := (nI (kS ((X.1.2 1).2 i) ((X.1.2 1).2 j)))) (k_Ga_same l G x X (nI i) (nI j) hX) (smv hI (by omega) (by omega))) co_Ga_same im_Ga_same se_Ga_same in_Ga gc_Ga_same ml_La_15 ⟨Nat.le_of_ble_eq_true rfl, Nat.le_of_ble_eq_true rfl⟩ hK hP.1 rfl hP rfl hl.1 rfl (Nat.le_of_ble_eq_true rfl) d_La_areNames_94 ⟨Nat.le_of_ble_eq_true rfl, Nat.le_of_ble_eq_true rfl⟩ (g_r rfl ?_)
                        refine lv_aload_n hx hb d_La_areNames_97 rfl (lv_at hl 8 rfl) ?_
                        refine lv_bipush (v := nI 11) hx hb d_La_areNames_98 (by decide +kernel) ?_
                        refine g_V C0 (g_val (v' := (nI ((X.1.2 0).2 2))) (k_Ga_count l G x X (nI 11) hX) (cnt_9 hI (i := 2) (by decide))) co_Ga_count im_Ga_count se_Ga_count in_Ga gc_Ga_count ml_La_22 ⟨Nat.le_of_ble_eq_true rfl, Nat.le_of_ble_eq_true rfl⟩ hK hP.1 rfl hP rfl hl.1 rfl (Nat.le_of_ble_eq_true rfl) d_La_areNames_100 ⟨Nat.le_of_ble_eq_true rfl, Nat.le_of_ble_eq_true rfl⟩ (g_r rfl ?_)
                        refine g_clt (tgt := 110) C0 d_La_areNames_103 (by decide) (by have := kS_le ((X.1.2 1).2 i) ((X.1.2 1).2 j); omega) (by omega) (fun c_103 => ?_) (fun c_103 => ?_)
                        · skip
                          refine lv_iconst (v := nI 0) hx hb d_La_areNames_110 (by decide +kernel) ?_
                          refine g_iadd C0 (z := a) d_La_areNames_111 rfl ?_
                          refine lv_istore (lv' := [(7, .int (nI a)), (8, .int (nI j)), (6, .int (nI (kS ((X.1.2 1).2 i) ((X.1.2 1).2 i)))), (5, .int (nI i)), (4, .int (nI 1)), (3, .int (nI q)), (2, .int (nI r)), (1, .int (nI ((X.1.2 1).1))), (0, .ref x)]) hx hb d_La_areNames_112 hl (by decide) rfl (fun ls hl => ?_)
                          refine lv_iinc (v := (nI (j + 1))) (lv' := [(8, .int (nI (j + 1))), (7, .int (nI a)), (6, .int (nI (kS ((X.1.2 1).2 i) ((X.1.2 1).2 i)))), (5, .int (nI i)), (4, .int (nI 1)), (3, .int (nI q)), (2, .int (nI r)), (1, .int (nI ((X.1.2 1).1))), (0, .ref x)]) hx hb d_La_areNames_114 hl (k := 1) rfl (gI_inc _) (by decide) rfl (fun ls hl => ?_)
                          refine lv_goto (tgt := 74) hx hb d_La_areNames_117 (by decide) ?_
                          exact ih74 (j + 1) a (by omega) (by omega) (by rw [ha, cN_s, kal_f c_103]; rfl) ls (lv_sub hl [0, 1, 2, 3, 4, 5, 6, 7, 8] rfl)
                        · skip
                          refine lv_iconst (v := nI 1) hx hb d_La_areNames_106 (by decide +kernel) ?_
                          refine lv_goto (tgt := 111) hx hb d_La_areNames_107 (by decide) ?_
                          refine g_iadd C0 (z := a + 1) d_La_areNames_111 rfl ?_
                          refine lv_istore (lv' := [(7, .int (nI (a + 1))), (8, .int (nI j)), (6, .int (nI (kS ((X.1.2 1).2 i) ((X.1.2 1).2 i)))), (5, .int (nI i)), (4, .int (nI 1)), (3, .int (nI q)), (2, .int (nI r)), (1, .int (nI ((X.1.2 1).1))), (0, .ref x)]) hx hb d_La_areNames_112 hl (by decide) rfl (fun ls hl => ?_)
                          refine lv_iinc (v := (nI (j + 1))) (lv' := [(8, .int (nI (j + 1))), (7, .int (nI (a + 1))), (6, .int (nI (kS ((X.1.2 1).2 i) ((X.1.2 1).2 i)))), (5, .int (nI i)), (4, .int (nI 1)), (3, .int (nI q)), (2, .int (nI r)), (1, .int (nI ((X.1.2 1).1))), (0, .ref x)]) hx hb d_La_areNames_114 hl (k := 1) rfl (gI_inc _) (by decide) rfl (fun ls hl => ?_)
                          refine lv_goto (tgt := 74) hx hb d_La_areNames_117 (by decide) ?_
                          exact ih74 (j + 1) (a + 1) (by omega) (by omega) (by rw [ha, cN_s, kal_t (fun z => c_86 (hI.2.1.2.2.2.1 i j hin (by omega) z).symm) c_103]; rfl) ls (lv_sub hl [0, 1, 2, 3, 4, 5, 6, 7, 8] rfl)
                exact lp74 (((X.1.2 1).1 - 0) + 1) 0 0 (by omega) (by omega) rfl ls (lv_sub hl [0, 1, 2, 3, 4, 5, 6, 7, 8] rfl)
        exact lp48 (((X.1.2 1).1 - 0) + 1) 0 0 0 (by omega) (by omega) rfl rfl ls (lv_sub hl [0, 1, 2, 3, 4, 5] rfl)
