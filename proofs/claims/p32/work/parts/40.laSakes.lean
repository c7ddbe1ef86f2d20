set_option maxHeartbeats 4000000 in
set_option maxRecDepth 100000 in
theorem k_La_areSakes (l : Launch) (G : gT) (x : Nat) (X : XS) (t : Nat)  (hI : IY t X.1) (hX : XOk X) : gM l y_La_areSakes c_La_areSakes 6 (some .boolean) 7 154 0 0 G [.ref x] (fun H => XAt G x X H) (rd (.int (bI true))) noF := by
  refine g_enter "GaleNamesLaw" (by decide +kernel) rfl (Nat.le_of_ble_eq_true rfl) ?_
  intro p e s m args below meth c C0 hlk hr hnm hP hK ls hl
  have hx := C0.1
  have hb := C0.2.1
  have hl : lv_has ls 6 [(0, .ref x)] := hl
  have h40 := hI.n40
  have h10 := hI.s10
  have e15 := hI.sk (k := 15) (by decide) (by decide)
  have e16 := hI.sk (k := 16) (by decide) (by decide)
  refine lv_iconst (v := nI 0) hx hb d_La_areSakes_0 (by decide +kernel) ?_
  refine lv_istore_n (lv' := [(1, .int (nI 0)), (0, .ref x)]) hx hb d_La_areSakes_1 rfl hl (by decide) rfl (fun ls hl => ?_)
  refine lv_iconst (v := nI 0) hx hb d_La_areSakes_2 (by decide +kernel) ?_
  refine lv_istore_n (lv' := [(2, .int (nI 0)), (1, .int (nI 0)), (0, .ref x)]) hx hb d_La_areSakes_3 rfl hl (by decide) rfl (fun ls hl => ?_)
  refine lv_iconst (v := nI 0) hx hb d_La_areSakes_4 (by decide +kernel) ?_
  refine lv_istore_n (lv' := [(3, .int (nI 0)), (2, .int (nI 0)), (1, .int (nI 0)), (0, .ref x)]) hx hb d_La_areSakes_5 rfl hl (by decide) rfl (fun ls hl => ?_)
  refine lv_aload_n hx hb d_La_areSakes_6 rfl (lv_at hl 3 rfl) ?_
  refine lv_aload_n hx hb d_La_areSakes_7 rfl (lv_at hl 3 rfl) ?_
  refine lv_bipush (v := nI 6) hx hb d_La_areSakes_8 (by decide +kernel) ?_
  refine g_V C0 (g_val (v' := (nI ((X.1.2 14).1))) (k_Ga_count l G x X (nI 6) hX) cnt_6) co_Ga_count im_Ga_count se_Ga_count in_Ga gc_Ga_count ml_La_22 ⟨Nat.le_of_ble_eq_true rfl, Nat.le_of_ble_eq_true rfl⟩ hK hP.1 rfl hP rfl hl.1 rfl (Nat.le_of_ble_eq_true rfl) d_La_areSakes_10 ⟨Nat.le_of_ble_eq_true rfl, Nat.le_of_ble_eq_true rfl⟩ (g_r rfl ?_)
  refine lv_iconst (v := nI 0) hx hb d_La_areSakes_13 (by decide +kernel) ?_
  refine g_V C0 (g_val (v' := (-1)) (k_Ga_ofNamesake l G x X (nI ((X.1.2 14).1)) (nI 0) hX) (sk_n (Nat.le_refl _) (by omega))) co_Ga_ofNamesake im_Ga_ofNamesake se_Ga_ofNamesake in_Ga gc_Ga_ofNamesake ml_La_51 ⟨Nat.le_of_ble_eq_true rfl, Nat.le_of_ble_eq_true rfl⟩ hK hP.1 rfl hP rfl hl.1 rfl (Nat.le_of_ble_eq_true rfl) d_La_areSakes_14 ⟨Nat.le_of_ble_eq_true rfl, Nat.le_of_ble_eq_true rfl⟩ (g_r rfl ?_)
  refine lv_iconst (v := -1) hx hb d_La_areSakes_17 (by decide +kernel) ?_
  refine lv_icmp_ne (tgt := 25) hx hb d_La_areSakes_18 (by decide) (fun c_18 => ?_) (fun c_18 => ?_)
  · exact absurd rfl c_18
  · skip
    refine lv_iconst (v := nI 1) hx hb d_La_areSakes_21 (by decide +kernel) ?_
    refine lv_goto (tgt := 26) hx hb d_La_areSakes_22 (by decide) ?_
    refine lv_istore (lv' := [(4, .int (nI 1)), (3, .int (nI 0)), (2, .int (nI 0)), (1, .int (nI 0)), (0, .ref x)]) hx hb d_La_areSakes_26 hl (by decide) rfl (fun ls hl => ?_)
    refine lv_iconst (v := nI 0) hx hb d_La_areSakes_28 (by decide +kernel) ?_
    refine lv_istore (lv' := [(5, .int (nI 0)), (4, .int (nI 1)), (3, .int (nI 0)), (2, .int (nI 0)), (1, .int (nI 0)), (0, .ref x)]) hx hb d_La_areSakes_29 hl (by decide) rfl (fun ls hl => ?_)
    have lp31 : ∀ (fu : Nat) (i : Nat) (a : Nat) (b : Nat), ((X.1.2 14).1 - i) < fu → i ≤ (X.1.2 14).1 → a = sN (X.1.2 15).2 i → b = sN (X.1.2 16).2 i → ∀ ls : Array Slot, lv_has ls 6 [(5, .int (nI i)), (4, .int (nI 1)), (3, .int (nI 0)), (2, .int (nI b)), (1, .int (nI a)), (0, .ref x)] → W p l e ({ frames := 7, cells := 0, slots := 0, locals := 154 } : Room) s m args below meth c s.heap [] 0 0 (MQ below (gQ (rd (.int (bI true)))) args s 0 0 noF) (F0 m 31 ls []) := by
      intro fu
      induction fu with
      | zero => intro i a b  hfu; exact absurd hfu (Nat.not_lt_zero _)
      | succ fu ih31 =>
        intro i a b hfu hi ha hb2 ls hl
        refine lv_iload hx hb d_La_areSakes_31 (lv_at hl 0 rfl) ?_
        refine lv_aload_n hx hb d_La_areSakes_33 rfl (lv_at hl 5 rfl) ?_
        refine lv_bipush (v := nI 6) hx hb d_La_areSakes_34 (by decide +kernel) ?_
        refine g_V C0 (g_val (v' := (nI ((X.1.2 14).1))) (k_Ga_count l G x X (nI 6) hX) cnt_6) co_Ga_count im_Ga_count se_Ga_count in_Ga gc_Ga_count ml_La_22 ⟨Nat.le_of_ble_eq_true rfl, Nat.le_of_ble_eq_true rfl⟩ hK hP.1 rfl hP rfl hl.1 rfl (Nat.le_of_ble_eq_true rfl) d_La_areSakes_36 ⟨Nat.le_of_ble_eq_true rfl, Nat.le_of_ble_eq_true rfl⟩ (g_r rfl ?_)
        refine g_cge (tgt := 68) C0 d_La_areSakes_39 (by decide) (by omega) (by omega) (fun c_39 => ?_) (fun c_39 => ?_)
        · skip
          have ei : i = (X.1.2 14).1 := by omega
          refine lv_iconst (v := nI 0) hx hb d_La_areSakes_68 (by decide +kernel) ?_
          refine lv_istore (lv' := [(5, .int (nI 0)), (4, .int (nI 1)), (3, .int (nI 0)), (2, .int (nI b)), (1, .int (nI a)), (0, .ref x)]) hx hb d_La_areSakes_69 hl (by decide) rfl (fun ls hl => ?_)
          have lp71 : ∀ (fu : Nat) (j : Nat) (q : Nat), ((X.1.2 1).1 - j) < fu → j ≤ (X.1.2 1).1 → q = sN (fun v => nsO X.1 v) j → ∀ ls : Array Slot, lv_has ls 6 [(5, .int (nI j)), (4, .int (nI 1)), (3, .int (nI q)), (2, .int (nI b)), (1, .int (nI a)), (0, .ref x)] → W p l e ({ frames := 7, cells := 0, slots := 0, locals := 154 } : Room) s m args below meth c s.heap [] 0 0 (MQ below (gQ (rd (.int (bI true)))) args s 0 0 noF) (F0 m 71 ls []) := by
            intro fu
            induction fu with
            | zero => intro j q  hfu; exact absurd hfu (Nat.not_lt_zero _)
            | succ fu ih71 =>
              intro j q hfu hj hq ls hl
              refine lv_iload hx hb d_La_areSakes_71 (lv_at hl 0 rfl) ?_
              refine lv_aload_n hx hb d_La_areSakes_73 rfl (lv_at hl 5 rfl) ?_
              refine lv_iconst (v := nI 1) hx hb d_La_areSakes_74 (by decide +kernel) ?_
              refine g_V C0 (g_val (v' := (nI ((X.1.2 1).1))) (k_Ga_count l G x X (nI 1) hX) cnt_1) co_Ga_count im_Ga_count se_Ga_count in_Ga gc_Ga_count ml_La_22 ⟨Nat.le_of_ble_eq_true rfl, Nat.le_of_ble_eq_true rfl⟩ hK hP.1 rfl hP rfl hl.1 rfl (Nat.le_of_ble_eq_true rfl) d_La_areSakes_75 ⟨Nat.le_of_ble_eq_true rfl, Nat.le_of_ble_eq_true rfl⟩ (g_r rfl ?_)
              refine g_cge (tgt := 97) C0 d_La_areSakes_78 (by decide) (by omega) (by omega) (fun c_78 => ?_) (fun c_78 => ?_)
              · skip
                have ej : j = (X.1.2 1).1 := by omega
                refine lv_iload hx hb d_La_areSakes_97 (lv_at hl 1 rfl) ?_
                refine lv_if_eq (tgt := 136) hx hb d_La_areSakes_99 (by decide) (fun c_99 => ?_) (fun c_99 => ?_)
                · exact absurd c_99 (by decide)
                · skip
                  refine lv_iload_n hx hb d_La_areSakes_102 rfl (lv_at hl 4 rfl) ?_
                  refine lv_aload_n hx hb d_La_areSakes_103 rfl (lv_at hl 5 rfl) ?_
                  refine lv_bipush (v := nI 7) hx hb d_La_areSakes_104 (by decide +kernel) ?_
                  refine g_V C0 (g_val (v' := (nI (sN (X.1.2 15).2 (X.1.2 15).1))) (k_Ga_count l G x X (nI 7) hX) cnt_7) co_Ga_count im_Ga_count se_Ga_count in_Ga gc_Ga_count ml_La_22 ⟨Nat.le_of_ble_eq_true rfl, Nat.le_of_ble_eq_true rfl⟩ hK hP.1 rfl hP rfl hl.1 rfl (Nat.le_of_ble_eq_true rfl) d_La_areSakes_106 ⟨Nat.le_of_ble_eq_true rfl, Nat.le_of_ble_eq_true rfl⟩ (g_r rfl ?_)
                  refine lv_icmp_ne (tgt := 136) hx hb d_La_areSakes_109 (by decide) (fun c_109 => ?_) (fun c_109 => ?_)
                  · exact absurd (by rw [ha, ei, e15]) c_109
                  · skip
                    refine lv_iload_n hx hb d_La_areSakes_112 rfl (lv_at hl 3 rfl) ?_
                    refine lv_aload_n hx hb d_La_areSakes_113 rfl (lv_at hl 5 rfl) ?_
                    refine lv_bipush (v := nI 8) hx hb d_La_areSakes_114 (by decide +kernel) ?_
                    refine g_V C0 (g_val (v' := (nI (sN (X.1.2 16).2 (X.1.2 16).1))) (k_Ga_count l G x X (nI 8) hX) cnt_8) co_Ga_count im_Ga_count se_Ga_count in_Ga gc_Ga_count ml_La_22 ⟨Nat.le_of_ble_eq_true rfl, Nat.le_of_ble_eq_true rfl⟩ hK hP.1 rfl hP rfl hl.1 rfl (Nat.le_of_ble_eq_true rfl) d_La_areSakes_116 ⟨Nat.le_of_ble_eq_true rfl, Nat.le_of_ble_eq_true rfl⟩ (g_r rfl ?_)
                    refine lv_icmp_ne (tgt := 136) hx hb d_La_areSakes_119 (by decide) (fun c_119 => ?_) (fun c_119 => ?_)
                    · exact absurd (by rw [hb2, ei, e16]) c_119
                    · skip
                      refine lv_iload_n hx hb d_La_areSakes_122 rfl (lv_at hl 2 rfl) ?_
                      refine lv_aload_n hx hb d_La_areSakes_123 rfl (lv_at hl 5 rfl) ?_
                      refine lv_bipush (v := nI 6) hx hb d_La_areSakes_124 (by decide +kernel) ?_
                      refine g_V C0 (g_val (v' := (nI ((X.1.2 14).1))) (k_Ga_count l G x X (nI 6) hX) cnt_6) co_Ga_count im_Ga_count se_Ga_count in_Ga gc_Ga_count ml_La_22 ⟨Nat.le_of_ble_eq_true rfl, Nat.le_of_ble_eq_true rfl⟩ hK hP.1 rfl hP rfl hl.1 rfl (Nat.le_of_ble_eq_true rfl) d_La_areSakes_126 ⟨Nat.le_of_ble_eq_true rfl, Nat.le_of_ble_eq_true rfl⟩ (g_r rfl ?_)
                      refine lv_icmp_ne (tgt := 136) hx hb d_La_areSakes_129 (by decide) (fun c_129 => ?_) (fun c_129 => ?_)
                      · exact absurd (by rw [hq, ej, hI.sakes]) c_129
                      · skip
                        refine lv_iconst (v := nI 1) hx hb d_La_areSakes_132 (by decide +kernel) ?_
                        refine lv_goto (tgt := 137) hx hb d_La_areSakes_133 (by decide) ?_
                        refine g_zret (b := true) C0 hlk hr d_La_areSakes_137 (t_nil (free := noF)) ?_
                        exact ⟨rfl, rfl⟩
              · skip
                refine lv_iload_n hx hb d_La_areSakes_81 rfl (lv_at hl 2 rfl) ?_
                refine lv_aload_n hx hb d_La_areSakes_82 rfl (lv_at hl 5 rfl) ?_
                refine lv_iload hx hb d_La_areSakes_83 (lv_at hl 0 rfl) ?_
                refine lv_iconst (v := nI 5) hx hb d_La_areSakes_85 (by decide +kernel) ?_
                refine g_V C0 (g_val (v' := (nI (nsO X.1 j))) (k_Ga_of l G x X (nI j) (nI 5) hX) (of_5 hI (by omega))) co_Ga_of im_Ga_of se_Ga_of in_Ga gc_Ga_of ml_La_26 ⟨Nat.le_of_ble_eq_true rfl, Nat.le_of_ble_eq_true rfl⟩ hK hP.1 rfl hP rfl hl.1 rfl (Nat.le_of_ble_eq_true rfl) d_La_areSakes_86 ⟨Nat.le_of_ble_eq_true rfl, Nat.le_of_ble_eq_true rfl⟩ (g_r rfl ?_)
                refine g_iadd C0 (z := q + (nsO X.1 j)) d_La_areSakes_89 rfl ?_
                refine lv_istore_n (lv' := [(3, .int (nI (q + (nsO X.1 j)))), (5, .int (nI j)), (4, .int (nI 1)), (2, .int (nI b)), (1, .int (nI a)), (0, .ref x)]) hx hb d_La_areSakes_90 rfl hl (by decide) rfl (fun ls hl => ?_)
                refine lv_iinc (v := (nI (j + 1))) (lv' := [(5, .int (nI (j + 1))), (3, .int (nI (q + (nsO X.1 j)))), (4, .int (nI 1)), (2, .int (nI b)), (1, .int (nI a)), (0, .ref x)]) hx hb d_La_areSakes_91 hl (k := 1) rfl (gI_inc _) (by decide) rfl (fun ls hl => ?_)
                refine lv_goto (tgt := 71) hx hb d_La_areSakes_94 (by decide) ?_
                exact ih71 (j + 1) (q + (nsO X.1 j)) (by omega) (by omega) (by rw [hq, sN_s]) ls (lv_sub hl [0, 2, 1, 3, 4, 5] rfl)
          exact lp71 (((X.1.2 1).1 - 0) + 1) 0 0 (by omega) (by omega) rfl ls (lv_sub hl [0, 1, 2, 3, 4, 5] rfl)
        · skip
          refine lv_iload_n hx hb d_La_areSakes_42 rfl (lv_at hl 4 rfl) ?_
          refine lv_aload_n hx hb d_La_areSakes_43 rfl (lv_at hl 5 rfl) ?_
          refine lv_iload hx hb d_La_areSakes_44 (lv_at hl 0 rfl) ?_
          refine lv_iconst (v := nI 1) hx hb d_La_areSakes_46 (by decide +kernel) ?_
          refine g_V C0 (g_val (v' := (nI ((X.1.2 15).2 i))) (k_Ga_ofNamesake l G x X (nI i) (nI 1) hX) (sk_1 hI (by omega))) co_Ga_ofNamesake im_Ga_ofNamesake se_Ga_ofNamesake in_Ga gc_Ga_ofNamesake ml_La_51 ⟨Nat.le_of_ble_eq_true rfl, Nat.le_of_ble_eq_true rfl⟩ hK hP.1 rfl hP rfl hl.1 rfl (Nat.le_of_ble_eq_true rfl) d_La_areSakes_47 ⟨Nat.le_of_ble_eq_true rfl, Nat.le_of_ble_eq_true rfl⟩ (g_r rfl ?_)
          refine g_iadd C0 (z := a + ((X.1.2 15).2 i)) d_La_areSakes_50 rfl ?_
          refine lv_istore_n (lv' := [(1, .int (nI (a + ((X.1.2 15).2 i)))), (5, .int (nI i)), (4, .int (nI 1)), (3, .int (nI 0)), (2, .int (nI b)), (0, .ref x)]) hx hb d_La_areSakes_51 rfl hl (by decide) rfl (fun ls hl => ?_)
          refine lv_iload_n hx hb d_La_areSakes_52 rfl (lv_at hl 4 rfl) ?_
          refine lv_aload_n hx hb d_La_areSakes_53 rfl (lv_at hl 5 rfl) ?_
          refine lv_iload hx hb d_La_areSakes_54 (lv_at hl 1 rfl) ?_
          refine lv_iconst (v := nI 2) hx hb d_La_areSakes_56 (by decide +kernel) ?_
          refine g_V C0 (g_val (v' := (nI ((X.1.2 16).2 i))) (k_Ga_ofNamesake l G x X (nI i) (nI 2) hX) (sk_2 hI (by omega))) co_Ga_ofNamesake im_Ga_ofNamesake se_Ga_ofNamesake in_Ga gc_Ga_ofNamesake ml_La_51 ⟨Nat.le_of_ble_eq_true rfl, Nat.le_of_ble_eq_true rfl⟩ hK hP.1 rfl hP rfl hl.1 rfl (Nat.le_of_ble_eq_true rfl) d_La_areSakes_57 ⟨Nat.le_of_ble_eq_true rfl, Nat.le_of_ble_eq_true rfl⟩ (g_r rfl ?_)
          refine g_iadd C0 (z := b + ((X.1.2 16).2 i)) d_La_areSakes_60 rfl ?_
          refine lv_istore_n (lv' := [(2, .int (nI (b + ((X.1.2 16).2 i)))), (1, .int (nI (a + ((X.1.2 15).2 i)))), (5, .int (nI i)), (4, .int (nI 1)), (3, .int (nI 0)), (0, .ref x)]) hx hb d_La_areSakes_61 rfl hl (by decide) rfl (fun ls hl => ?_)
          refine lv_iinc (v := (nI (i + 1))) (lv' := [(5, .int (nI (i + 1))), (2, .int (nI (b + ((X.1.2 16).2 i)))), (1, .int (nI (a + ((X.1.2 15).2 i)))), (4, .int (nI 1)), (3, .int (nI 0)), (0, .ref x)]) hx hb d_La_areSakes_62 hl (k := 2) rfl (gI_inc _) (by decide) rfl (fun ls hl => ?_)
          refine lv_goto (tgt := 31) hx hb d_La_areSakes_65 (by decide) ?_
          exact ih31 (i + 1) (a + ((X.1.2 15).2 i)) (b + ((X.1.2 16).2 i)) (by omega) (by omega) (by rw [ha, sN_s]) (by rw [hb2, sN_s]) ls (lv_sub hl [0, 3, 4, 1, 2, 5] rfl)
    exact lp31 (((X.1.2 14).1 - 0) + 1) 0 0 0 (by omega) (by omega) rfl rfl ls (lv_sub hl [0, 1, 2, 3, 4, 5] rfl)
