set_option maxHeartbeats 4000000 in
set_option maxRecDepth 100000 in
theorem k_La_isWritten (l : Launch) (G : gT) (x : Nat) (X : XS) (t : Nat) (ht9 : t ≤ 900) (co li : Nat) (hc : co < 2) (hk : li < 3) (hI : IY t X.1) (hX : XOk X) : gM l y_La_isWritten c_La_isWritten 9 (some .boolean) 8 183 0 0 G [.ref x, .int (nI co), .int (nI li)] (fun H => XAt G x X H) (wi (.int (bI true)) (fun H H1 => ∃ Z : XS, XAt G x Z H1 ∧ IX t Z ∧ Z.1 = X.1 ∧ Z.2.2 = X.2.2 ∧ gFr x (x + 262) H H1)) (gRg x (x + 262)) := by
  refine g_enter "GaleNamesLaw" (by decide +kernel) rfl (Nat.le_of_ble_eq_true rfl) ?_
  intro p e s m args below meth c C0 hlk hr hnm hP hK ls hl
  have hx := C0.1
  have hb := C0.2.1
  have hl : lv_has ls 9 [(0, .ref x), (1, .int (nI co)), (2, .int (nI li))] := hl
  refine lv_aload_n hx hb d_La_isWritten_0 rfl (lv_at hl 0 rfl) ?_
  refine lv_iload_n hx hb d_La_isWritten_1 rfl (lv_at hl 1 rfl) ?_
  refine lv_iload_n hx hb d_La_isWritten_2 rfl (lv_at hl 2 rfl) ?_
  obtain ⟨X1, hX1⟩ : ∃ Z, Z = xPd X (wrR X.1 X.2.1.1 (Lst X.1 co li) (Lst X.1 co li).1) X.2.1.2 := ⟨_, rfl⟩
  have hJ1 : IX t X1 := by rw [hX1]; exact ⟨hI, wr_B hI hc hk _ _ (Nat.le_refl _)⟩
  have hO1 := hJ1.ok (by omega)
  have hI1 := hJ1.1
  have hs1 : X1.1 = X.1 := by rw [hX1]; rfl
  have hr1 : X1.2.2 = X.2.2 := by rw [hX1]; rfl
  have hp1 : X1.2.1.1 = (wrR X1.1 X.2.1.1 (Lst X1.1 co li) (Lst X1.1 co li).1) := by rw [hX1]; rfl
  have hT1 : TW X1 co li := fun f => by rw [hp1]; exact tw_wr hI1 hc hk X.2.1.1 f
  have hl8 : (Lst X1.1 co li).1 ≤ 8 := hI1.l8 (lix_lt hc hk)
  have h40 := hI1.n40
  have h56 := (wr_ok hI1 hc hk X.2.1.1 (Nat.le_refl _)).1
  have hpz : X1.2.1.1.1 = (wrR X1.1 X.2.1.1 (Lst X1.1 co li) (Lst X1.1 co li).1).1 := by rw [hp1]
  refine g_V C0 (g_valw (v' := (nI X1.2.1.1.1)) (X' := X1) (k_Ga_write l G x X (nI co) (nI li) hX) (by rw [hX1]; exact wri_v hc hk)) co_Ga_write im_Ga_write se_Ga_write in_Ga gc_Ga_write ml_La_91 ⟨Nat.le_of_ble_eq_true rfl, Nat.le_of_ble_eq_true rfl⟩ hK hP.1 rfl hP rfl hl.1 rfl (Nat.le_of_ble_eq_true rfl) d_La_isWritten_3 ⟨Nat.le_of_ble_eq_true rfl, Nat.le_of_ble_eq_true rfl⟩ (g_wi (free := gRg x (x + 262)) (t_nil (free := gRg x (x + 262))) (fun _ h => h) (fun H_1 locs hL ⟨hR_2, hf_3⟩ => ?_))
  refine lv_istore_n (lv' := [(3, .int (nI X1.2.1.1.1)), (0, .ref x), (1, .int (nI co)), (2, .int (nI li))]) hx hb d_La_isWritten_6 rfl hl (by decide) rfl (fun ls hl => ?_)
  refine lv_iconst (v := nI 0) hx hb d_La_isWritten_7 (by decide +kernel) ?_
  refine lv_istore (lv' := [(4, .int (nI 0)), (3, .int (nI X1.2.1.1.1)), (0, .ref x), (1, .int (nI co)), (2, .int (nI li))]) hx hb d_La_isWritten_8 hl (by decide) rfl (fun ls hl => ?_)
  refine lv_iconst (v := nI 0) hx hb d_La_isWritten_10 (by decide +kernel) ?_
  refine lv_istore (lv' := [(5, .int (nI 0)), (4, .int (nI 0)), (3, .int (nI X1.2.1.1.1)), (0, .ref x), (1, .int (nI co)), (2, .int (nI li))]) hx hb d_La_isWritten_11 hl (by decide) rfl (fun ls hl => ?_)
  refine lv_iload_n hx hb d_La_isWritten_13 rfl (lv_at hl 2 rfl) ?_
  refine lv_aload_n hx hb d_La_isWritten_14 rfl (lv_at hl 3 rfl) ?_
  refine lv_bipush (v := nI 12) hx hb d_La_isWritten_15 (by decide +kernel) ?_
  refine g_V C0 (g_val (v' := (nI X1.2.1.1.1)) (k_Ga_count l G x X1 (nI 12) hO1) cnt_12) co_Ga_count im_Ga_count se_Ga_count in_Ga gc_Ga_count ml_La_22 ⟨Nat.le_of_ble_eq_true rfl, Nat.le_of_ble_eq_true rfl⟩ hK hR_2.1 rfl hR_2 rfl hl.1 rfl (Nat.le_of_ble_eq_true rfl) d_La_isWritten_17 ⟨Nat.le_of_ble_eq_true rfl, Nat.le_of_ble_eq_true rfl⟩ (g_r rfl ?_)
  refine lv_icmp_ne (tgt := 27) hx hb d_La_isWritten_20 (by decide) (fun c_20 => ?_) (fun c_20 => ?_)
  · exact absurd rfl c_20
  · skip
    refine lv_iconst (v := nI 1) hx hb d_La_isWritten_23 (by decide +kernel) ?_
    refine lv_goto (tgt := 28) hx hb d_La_isWritten_24 (by decide) ?_
    refine lv_istore (lv' := [(6, .int (nI 1)), (5, .int (nI 0)), (4, .int (nI 0)), (3, .int (nI X1.2.1.1.1)), (0, .ref x), (1, .int (nI co)), (2, .int (nI li))]) hx hb d_La_isWritten_28 hl (by decide) rfl (fun ls hl => ?_)
    have lp30 : ∀ (fu : Nat) (mm : Nat) (az : Nat), (9 - mm) < fu → mm ≤ (Lst X1.1 co li).1 → az = (wrR X1.1 X.2.1.1 (Lst X1.1 co li) mm).1 → ∀ ls : Array Slot, lv_has ls 9 [(6, .int (nI 1)), (5, .int (nI mm)), (4, .int (nI az)), (3, .int (nI X1.2.1.1.1)), (0, .ref x), (1, .int (nI co)), (2, .int (nI li))] → W p l e ({ frames := 8, cells := 0, slots := 0, locals := 183 } : Room) s m args below meth c H_1 locs 0 0 (MQ below (gQ (wi (.int (bI true)) (fun H H1 => ∃ Z : XS, XAt G x Z H1 ∧ IX t Z ∧ Z.1 = X.1 ∧ Z.2.2 = X.2.2 ∧ gFr x (x + 262) H H1))) args s 0 0 (gRg x (x + 262))) (F0 m 30 ls []) := by
      intro fu
      induction fu with
      | zero => intro mm az  hfu; exact absurd hfu (Nat.not_lt_zero _)
      | succ fu ih30 =>
        intro mm az hfu hm hat ls hl
        refine lv_iload hx hb d_La_isWritten_30 (lv_at hl 0 rfl) ?_
        refine lv_if_eq (tgt := 153) hx hb d_La_isWritten_32 (by decide) (fun c_32 => ?_) (fun c_32 => ?_)
        · first | exact absurd c_32 (by decide) | exact absurd rfl c_32
        · skip
          rcases Nat.lt_or_ge mm (Lst X1.1 co li).1 with hm2 | hm2
          · skip
            have hnn : (Lst X1.1 co li).2 mm < (X1.1.2 1).1 := (hI1.ln hc hk hm2).1
            have hst := wr_st hI1 hc hk X.2.1.1 hm2
            have hmo := wr_mo hI1 hc hk X.2.1.1 (i := mm + 1) (n := (Lst X1.1 co li).1) (by omega) (Nat.le_refl _)
            have hwo := wr_ok hI1 hc hk X.2.1.1 (i := mm) (by omega)
            have hcb : (wrR X1.1 X.2.1.1 (Lst X1.1 co li) mm).1 ≤ (cmB (wrR X1.1 X.2.1.1 (Lst X1.1 co li) mm).1) ∧ (cmB (wrR X1.1 X.2.1.1 (Lst X1.1 co li) mm).1) ≤ (wrR X1.1 X.2.1.1 (Lst X1.1 co li) mm).1 + 1 := by unfold cmB; split <;> omega
            have hk6 := kK_L (hI1.key hnn)
            have hk6a : kS (lKy X1.1 (Lst X1.1 co li) mm) (lKy X1.1 (Lst X1.1 co li) mm) ≤ 6 := hk6.2.1
            refine lv_aload_n hx hb d_La_isWritten_35 rfl (lv_at hl 4 rfl) ?_
            refine lv_iload_n hx hb d_La_isWritten_36 rfl (lv_at hl 5 rfl) ?_
            refine lv_iload_n hx hb d_La_isWritten_37 rfl (lv_at hl 6 rfl) ?_
            refine lv_iload hx hb d_La_isWritten_38 (lv_at hl 1 rfl) ?_
            refine g_V C0 (g_val (v' := (nI ((Lst X1.1 co li).2 mm))) (k_Ga_listed l G x X1 (nI co) (nI li) (nI mm) hO1) (ls_v hI1 hc hk hm2)) co_Ga_listed im_Ga_listed se_Ga_listed in_Ga gc_Ga_listed ml_La_38 ⟨Nat.le_of_ble_eq_true rfl, Nat.le_of_ble_eq_true rfl⟩ hK hR_2.1 rfl hR_2 rfl hl.1 rfl (Nat.le_of_ble_eq_true rfl) d_La_isWritten_40 ⟨Nat.le_of_ble_eq_true rfl, Nat.le_of_ble_eq_true rfl⟩ (g_r rfl ?_)
            refine lv_if_lt (tgt := 153) hx hb d_La_isWritten_43 (by decide) (fun c_43 => ?_) (fun c_43 => ?_)
            · exact absurd c_43 (nI_pos (by omega))
            · skip
              refine lv_aload_n hx hb d_La_isWritten_46 rfl (lv_at hl 4 rfl) ?_
              refine lv_iload_n hx hb d_La_isWritten_47 rfl (lv_at hl 5 rfl) ?_
              refine lv_iload_n hx hb d_La_isWritten_48 rfl (lv_at hl 6 rfl) ?_
              refine lv_iload hx hb d_La_isWritten_49 (lv_at hl 1 rfl) ?_
              refine g_V C0 (g_val (v' := (nI ((Lst X1.1 co li).2 mm))) (k_Ga_listed l G x X1 (nI co) (nI li) (nI mm) hO1) (ls_v hI1 hc hk hm2)) co_Ga_listed im_Ga_listed se_Ga_listed in_Ga gc_Ga_listed ml_La_38 ⟨Nat.le_of_ble_eq_true rfl, Nat.le_of_ble_eq_true rfl⟩ hK hR_2.1 rfl hR_2 rfl hl.1 rfl (Nat.le_of_ble_eq_true rfl) d_La_isWritten_51 ⟨Nat.le_of_ble_eq_true rfl, Nat.le_of_ble_eq_true rfl⟩ (g_r rfl ?_)
              refine lv_istore (lv' := [(7, .int (nI ((Lst X1.1 co li).2 mm))), (6, .int (nI 1)), (5, .int (nI mm)), (4, .int (nI az)), (3, .int (nI X1.2.1.1.1)), (0, .ref x), (1, .int (nI co)), (2, .int (nI li))]) hx hb d_La_isWritten_54 hl (by decide) rfl (fun ls hl => ?_)
              refine lv_iload hx hb d_La_isWritten_56 (lv_at hl 2 rfl) ?_
              refine lv_if_eq (tgt := 72) hx hb d_La_isWritten_58 (by decide) (fun c_58 => ?_) (fun c_58 => ?_)
              · skip
                have hm0n : mm = 0 := (nI_eqi (b := 0) (by omega) (by decide)).mp c_58
                have hcb2 : (cmB (wrR X1.1 X.2.1.1 (Lst X1.1 co li) mm).1) = (wrR X1.1 X.2.1.1 (Lst X1.1 co li) mm).1 := if_neg (by rw [hm0n]; exact Nat.lt_irrefl 0)
                refine lv_iconst (v := nI 1) hx hb d_La_isWritten_72 (by decide +kernel) ?_
                refine lv_goto (tgt := 77) hx hb d_La_isWritten_73 (by decide) ?_
                refine lv_istore (lv' := [(6, .int (nI 1)), (7, .int (nI ((Lst X1.1 co li).2 mm))), (5, .int (nI mm)), (4, .int (nI az)), (3, .int (nI X1.2.1.1.1)), (0, .ref x), (1, .int (nI co)), (2, .int (nI li))]) hx hb d_La_isWritten_77 hl (by decide) rfl (fun ls hl => ?_)
                refine lv_iload hx hb d_La_isWritten_79 (lv_at hl 3 rfl) ?_
                refine lv_iload hx hb d_La_isWritten_81 (lv_at hl 2 rfl) ?_
                refine lv_if_ne (tgt := 90) hx hb d_La_isWritten_83 (by decide) (fun c_83 => ?_) (fun c_83 => ?_)
                · exact absurd (by rw [hm0n]; rfl) c_83
                · skip
                  refine lv_iconst (v := nI 0) hx hb d_La_isWritten_86 (by decide +kernel) ?_
                  refine lv_goto (tgt := 91) hx hb d_La_isWritten_87 (by decide) ?_
                  refine g_iadd C0 (z := az) d_La_isWritten_91 rfl ?_
                  refine lv_istore (lv' := [(4, .int (nI az)), (6, .int (nI 1)), (7, .int (nI ((Lst X1.1 co li).2 mm))), (5, .int (nI mm)), (3, .int (nI X1.2.1.1.1)), (0, .ref x), (1, .int (nI co)), (2, .int (nI li))]) hx hb d_La_isWritten_92 hl (by decide) rfl (fun ls hl => ?_)
                  refine lv_iconst (v := nI 0) hx hb d_La_isWritten_94 (by decide +kernel) ?_
                  refine lv_istore (lv' := [(8, .int (nI 0)), (4, .int (nI az)), (6, .int (nI 1)), (7, .int (nI ((Lst X1.1 co li).2 mm))), (5, .int (nI mm)), (3, .int (nI X1.2.1.1.1)), (0, .ref x), (1, .int (nI co)), (2, .int (nI li))]) hx hb d_La_isWritten_95 hl (by decide) rfl (fun ls hl => ?_)
                  have lp97 : ∀ (fu : Nat) (j : Nat) (bb : Nat), (kS (lKy X1.1 (Lst X1.1 co li) mm) (lKy X1.1 (Lst X1.1 co li) mm) - j) < fu → j ≤ kS (lKy X1.1 (Lst X1.1 co li) mm) (lKy X1.1 (Lst X1.1 co li) mm) → bb = (cmB (wrR X1.1 X.2.1.1 (Lst X1.1 co li) mm).1) + j → ∀ ls : Array Slot, lv_has ls 9 [(8, .int (nI j)), (4, .int (nI bb)), (6, .int (nI 1)), (7, .int (nI ((Lst X1.1 co li).2 mm))), (5, .int (nI mm)), (3, .int (nI X1.2.1.1.1)), (0, .ref x), (1, .int (nI co)), (2, .int (nI li))] → W p l e ({ frames := 8, cells := 0, slots := 0, locals := 183 } : Room) s m args below meth c H_1 locs 0 0 (MQ below (gQ (wi (.int (bI true)) (fun H H1 => ∃ Z : XS, XAt G x Z H1 ∧ IX t Z ∧ Z.1 = X.1 ∧ Z.2.2 = X.2.2 ∧ gFr x (x + 262) H H1))) args s 0 0 (gRg x (x + 262))) (F0 m 97 ls []) := by
                    intro fu
                    induction fu with
                    | zero => intro j bb  hfu; exact absurd hfu (Nat.not_lt_zero _)
                    | succ fu ih97 =>
                      intro j bb hfu hj hbb ls hl
                      refine lv_iload hx hb d_La_isWritten_97 (lv_at hl 0 rfl) ?_
                      refine lv_aload_n hx hb d_La_isWritten_99 rfl (lv_at hl 6 rfl) ?_
                      refine lv_iload hx hb d_La_isWritten_100 (lv_at hl 3 rfl) ?_
                      refine lv_iconst (v := nI 0) hx hb d_La_isWritten_102 (by decide +kernel) ?_
                      refine g_V C0 (g_val (v' := (nI (kS (lKy X1.1 (Lst X1.1 co li) mm) (lKy X1.1 (Lst X1.1 co li) mm)))) (k_Ga_of l G x X1 (nI ((Lst X1.1 co li).2 mm)) (nI 0) hO1) (of_0 hI1 hnn)) co_Ga_of im_Ga_of se_Ga_of in_Ga gc_Ga_of ml_La_26 ⟨Nat.le_of_ble_eq_true rfl, Nat.le_of_ble_eq_true rfl⟩ hK hR_2.1 rfl hR_2 rfl hl.1 rfl (Nat.le_of_ble_eq_true rfl) d_La_isWritten_103 ⟨Nat.le_of_ble_eq_true rfl, Nat.le_of_ble_eq_true rfl⟩ (g_r rfl ?_)
                      refine g_cge (tgt := 147) C0 d_La_isWritten_106 (by decide) (by omega) (by omega) (fun c_106 => ?_) (fun c_106 => ?_)
                      · skip
                        refine lv_iinc (v := (nI (mm + 1))) (lv' := [(5, .int (nI (mm + 1))), (8, .int (nI j)), (4, .int (nI bb)), (6, .int (nI 1)), (7, .int (nI ((Lst X1.1 co li).2 mm))), (3, .int (nI X1.2.1.1.1)), (0, .ref x), (1, .int (nI co)), (2, .int (nI li))]) hx hb d_La_isWritten_147 hl (k := 4) rfl (gI_inc _) (by decide) rfl (fun ls hl => ?_)
                        refine lv_goto (tgt := 30) hx hb d_La_isWritten_150 (by decide) ?_
                        exact ih30 (mm + 1) bb (by omega) (by omega) (by rw [hst.1]; omega) ls (lv_sub hl [3, 0, 2, 5, 6, 7, 8] rfl)
                      · skip
                        refine lv_iload hx hb d_La_isWritten_109 (lv_at hl 2 rfl) ?_
                        refine lv_if_eq (tgt := 147) hx hb d_La_isWritten_111 (by decide) (fun c_111 => ?_) (fun c_111 => ?_)
                        · first | exact absurd c_111 (by decide) | exact absurd rfl c_111
                        · skip
                          refine lv_aload_n hx hb d_La_isWritten_114 rfl (lv_at hl 6 rfl) ?_
                          refine lv_iload hx hb d_La_isWritten_115 (lv_at hl 1 rfl) ?_
                          refine g_V C0 (g_val (v' := (nI (96 + kL (lKy X1.1 (Lst X1.1 co li) mm) j))) (k_Ga_sign l G x X1 (nI bb) hO1) (by rw [sgn_v (by omega) (by omega), hp1, hbb, hmo.2 _ (by omega), hst.2.2.2 j (by omega)])) co_Ga_sign im_Ga_sign se_Ga_sign in_Ga gc_Ga_sign ml_La_94 ⟨Nat.le_of_ble_eq_true rfl, Nat.le_of_ble_eq_true rfl⟩ hK hR_2.1 rfl hR_2 rfl hl.1 rfl (Nat.le_of_ble_eq_true rfl) d_La_isWritten_117 ⟨Nat.le_of_ble_eq_true rfl, Nat.le_of_ble_eq_true rfl⟩ (g_r rfl ?_)
                          refine lv_aload_n hx hb d_La_isWritten_120 rfl (lv_at hl 6 rfl) ?_
                          refine lv_iload hx hb d_La_isWritten_121 (lv_at hl 3 rfl) ?_
                          refine lv_iload hx hb d_La_isWritten_123 (lv_at hl 0 rfl) ?_
                          refine g_V C0 (g_val (v' := (nI (96 + kL (lKy X1.1 (Lst X1.1 co li) mm) j))) (k_Ga_letter l G x X1 (nI ((Lst X1.1 co li).2 mm)) (nI j) hO1) (lt_v hI1 hnn (by show j < kS (lKy X1.1 (Lst X1.1 co li) mm) (lKy X1.1 (Lst X1.1 co li) mm); omega))) co_Ga_letter im_Ga_letter se_Ga_letter in_Ga gc_Ga_letter ml_La_19 ⟨Nat.le_of_ble_eq_true rfl, Nat.le_of_ble_eq_true rfl⟩ hK hR_2.1 rfl hR_2 rfl hl.1 rfl (Nat.le_of_ble_eq_true rfl) d_La_isWritten_125 ⟨Nat.le_of_ble_eq_true rfl, Nat.le_of_ble_eq_true rfl⟩ (g_r rfl ?_)
                          refine lv_icmp_ne (tgt := 135) hx hb d_La_isWritten_128 (by decide) (fun c_128 => ?_) (fun c_128 => ?_)
                          · exact absurd rfl c_128
                          · skip
                            refine lv_iconst (v := nI 1) hx hb d_La_isWritten_131 (by decide +kernel) ?_
                            refine lv_goto (tgt := 136) hx hb d_La_isWritten_132 (by decide) ?_
                            refine lv_istore (lv' := [(6, .int (nI 1)), (8, .int (nI j)), (4, .int (nI bb)), (7, .int (nI ((Lst X1.1 co li).2 mm))), (5, .int (nI mm)), (3, .int (nI X1.2.1.1.1)), (0, .ref x), (1, .int (nI co)), (2, .int (nI li))]) hx hb d_La_isWritten_136 hl (by decide) rfl (fun ls hl => ?_)
                            refine lv_iinc (v := (nI (bb + 1))) (lv' := [(4, .int (nI (bb + 1))), (6, .int (nI 1)), (8, .int (nI j)), (7, .int (nI ((Lst X1.1 co li).2 mm))), (5, .int (nI mm)), (3, .int (nI X1.2.1.1.1)), (0, .ref x), (1, .int (nI co)), (2, .int (nI li))]) hx hb d_La_isWritten_138 hl (k := 2) rfl (gI_inc _) (by decide) rfl (fun ls hl => ?_)
                            refine lv_iinc (v := (nI (j + 1))) (lv' := [(8, .int (nI (j + 1))), (4, .int (nI (bb + 1))), (6, .int (nI 1)), (7, .int (nI ((Lst X1.1 co li).2 mm))), (5, .int (nI mm)), (3, .int (nI X1.2.1.1.1)), (0, .ref x), (1, .int (nI co)), (2, .int (nI li))]) hx hb d_La_isWritten_141 hl (k := 2) rfl (gI_inc _) (by decide) rfl (fun ls hl => ?_)
                            refine lv_goto (tgt := 97) hx hb d_La_isWritten_144 (by decide) ?_
                            exact ih97 (j + 1) (bb + 1) (by omega) (by omega) (by omega) ls (lv_sub hl [0, 1, 2, 3, 4, 5, 6, 7, 8] rfl)
                  exact lp97 ((kS (lKy X1.1 (Lst X1.1 co li) mm) (lKy X1.1 (Lst X1.1 co li) mm) - 0) + 1) 0 az (by omega) (by omega) (by omega) ls (lv_sub hl [0, 1, 2, 3, 4, 5, 6, 7, 8] rfl)
              · skip
                have hm0p : mm ≠ 0 := fun z => c_58 (by rw [z]; rfl)
                have hpos : 0 < (wrR X1.1 X.2.1.1 (Lst X1.1 co li) mm).1 := hwo.2 (by omega)
                have hcb2 : (cmB (wrR X1.1 X.2.1.1 (Lst X1.1 co li) mm).1) = (wrR X1.1 X.2.1.1 (Lst X1.1 co li) mm).1 + 1 := if_pos hpos
                refine lv_aload_n hx hb d_La_isWritten_61 rfl (lv_at hl 5 rfl) ?_
                refine lv_iload hx hb d_La_isWritten_62 (lv_at hl 3 rfl) ?_
                refine g_V C0 (g_val (v' := (nI 44)) (k_Ga_sign l G x X1 (nI az) hO1) (by rw [sgn_v (by omega) (by omega), hp1, hat, hmo.2 _ (by omega), hst.2.2.1 hpos])) co_Ga_sign im_Ga_sign se_Ga_sign in_Ga gc_Ga_sign ml_La_94 ⟨Nat.le_of_ble_eq_true rfl, Nat.le_of_ble_eq_true rfl⟩ hK hR_2.1 rfl hR_2 rfl hl.1 rfl (Nat.le_of_ble_eq_true rfl) d_La_isWritten_64 ⟨Nat.le_of_ble_eq_true rfl, Nat.le_of_ble_eq_true rfl⟩ (g_r rfl ?_)
                refine lv_bipush (v := nI 44) hx hb d_La_isWritten_67 (by decide +kernel) ?_
                refine lv_icmp_ne (tgt := 76) hx hb d_La_isWritten_69 (by decide) (fun c_69 => ?_) (fun c_69 => ?_)
                · exact absurd rfl c_69
                · skip
                  refine lv_iconst (v := nI 1) hx hb d_La_isWritten_72 (by decide +kernel) ?_
                  refine lv_goto (tgt := 77) hx hb d_La_isWritten_73 (by decide) ?_
                  refine lv_istore (lv' := [(6, .int (nI 1)), (7, .int (nI ((Lst X1.1 co li).2 mm))), (5, .int (nI mm)), (4, .int (nI az)), (3, .int (nI X1.2.1.1.1)), (0, .ref x), (1, .int (nI co)), (2, .int (nI li))]) hx hb d_La_isWritten_77 hl (by decide) rfl (fun ls hl => ?_)
                  refine lv_iload hx hb d_La_isWritten_79 (lv_at hl 3 rfl) ?_
                  refine lv_iload hx hb d_La_isWritten_81 (lv_at hl 2 rfl) ?_
                  refine lv_if_ne (tgt := 90) hx hb d_La_isWritten_83 (by decide) (fun c_83 => ?_) (fun c_83 => ?_)
                  · skip
                    refine lv_iconst (v := nI 1) hx hb d_La_isWritten_90 (by decide +kernel) ?_
                    refine g_iadd C0 (z := az + 1) d_La_isWritten_91 rfl ?_
                    refine lv_istore (lv' := [(4, .int (nI (az + 1))), (6, .int (nI 1)), (7, .int (nI ((Lst X1.1 co li).2 mm))), (5, .int (nI mm)), (3, .int (nI X1.2.1.1.1)), (0, .ref x), (1, .int (nI co)), (2, .int (nI li))]) hx hb d_La_isWritten_92 hl (by decide) rfl (fun ls hl => ?_)
                    refine lv_iconst (v := nI 0) hx hb d_La_isWritten_94 (by decide +kernel) ?_
                    refine lv_istore (lv' := [(8, .int (nI 0)), (4, .int (nI (az + 1))), (6, .int (nI 1)), (7, .int (nI ((Lst X1.1 co li).2 mm))), (5, .int (nI mm)), (3, .int (nI X1.2.1.1.1)), (0, .ref x), (1, .int (nI co)), (2, .int (nI li))]) hx hb d_La_isWritten_95 hl (by decide) rfl (fun ls hl => ?_)
                    have lp97 : ∀ (fu : Nat) (j : Nat) (bb : Nat), (kS (lKy X1.1 (Lst X1.1 co li) mm) (lKy X1.1 (Lst X1.1 co li) mm) - j) < fu → j ≤ kS (lKy X1.1 (Lst X1.1 co li) mm) (lKy X1.1 (Lst X1.1 co li) mm) → bb = (cmB (wrR X1.1 X.2.1.1 (Lst X1.1 co li) mm).1) + j → ∀ ls : Array Slot, lv_has ls 9 [(8, .int (nI j)), (4, .int (nI bb)), (6, .int (nI 1)), (7, .int (nI ((Lst X1.1 co li).2 mm))), (5, .int (nI mm)), (3, .int (nI X1.2.1.1.1)), (0, .ref x), (1, .int (nI co)), (2, .int (nI li))] → W p l e ({ frames := 8, cells := 0, slots := 0, locals := 183 } : Room) s m args below meth c H_1 locs 0 0 (MQ below (gQ (wi (.int (bI true)) (fun H H1 => ∃ Z : XS, XAt G x Z H1 ∧ IX t Z ∧ Z.1 = X.1 ∧ Z.2.2 = X.2.2 ∧ gFr x (x + 262) H H1))) args s 0 0 (gRg x (x + 262))) (F0 m 97 ls []) := by
                      intro fu
                      induction fu with
                      | zero => intro j bb  hfu; exact absurd hfu (Nat.not_lt_zero _)
                      | succ fu ih97 =>
                        intro j bb hfu hj hbb ls hl
                        refine lv_iload hx hb d_La_isWritten_97 (lv_at hl 0 rfl) ?_
                        refine lv_aload_n hx hb d_La_isWritten_99 rfl (lv_at hl 6 rfl) ?_
                        refine lv_iload hx hb d_La_isWritten_100 (lv_at hl 3 rfl) ?_
                        refine lv_iconst (v := nI 0) hx hb d_La_isWritten_102 (by decide +kernel) ?_
                        refine g_V C0 (g_val (v' := (nI (kS (lKy X1.1 (Lst X1.1 co li) mm) (lKy X1.1 (Lst X1.1 co li) mm)))) (k_Ga_of l G x X1 (nI ((Lst X1.1 co li).2 mm)) (nI 0) hO1) (of_0 hI1 hnn)) co_Ga_of im_Ga_of se_Ga_of in_Ga gc_Ga_of ml_La_26 ⟨Nat.le_of_ble_eq_true rfl, Nat.le_of_ble_eq_true rfl⟩ hK hR_2.1 rfl hR_2 rfl hl.1 rfl (Nat.le_of_ble_eq_true rfl) d_La_isWritten_103 ⟨Nat.le_of_ble_eq_true rfl, Nat.le_of_ble_eq_true rfl⟩ (g_r rfl ?_)
                        refine g_cge (tgt := 147) C0 d_La_isWritten_106 (by decide) (by omega) (by omega) (fun c_106 => ?_) (fun c_106 => ?_)
                        · skip
                          refine lv_iinc (v := (nI (mm + 1))) (lv' := [(5, .int (nI (mm + 1))), (8, .int (nI j)), (4, .int (nI bb)), (6, .int (nI 1)), (7, .int (nI ((Lst X1.1 co li).2 mm))), (3, .int (nI X1.2.1.1.1)), (0, .ref x), (1, .int (nI co)), (2, .int (nI li))]) hx hb d_La_isWritten_147 hl (k := 4) rfl (gI_inc _) (by decide) rfl (fun ls hl => ?_)
                          refine lv_goto (tgt := 30) hx hb d_La_isWritten_150 (by decide) ?_
                          exact ih30 (mm + 1) bb (by omega) (by omega) (by rw [hst.1]; omega) ls (lv_sub hl [3, 0, 2, 5, 6, 7, 8] rfl)
                        · skip
                          refine lv_iload hx hb d_La_isWritten_109 (lv_at hl 2 rfl) ?_
                          refine lv_if_eq (tgt := 147) hx hb d_La_isWritten_111 (by decide) (fun c_111 => ?_) (fun c_111 => ?_)
                          · first | exact absurd c_111 (by decide) | exact absurd rfl c_111
                          · skip
                            refine lv_aload_n hx hb d_La_isWritten_114 rfl (lv_at hl 6 rfl) ?_
                            refine lv_iload hx hb d_La_isWritten_115 (lv_at hl 1 rfl) ?_
                            refine g_V C0 (g_val (v' := (nI (96 + kL (lKy X1.1 (Lst X1.1 co li) mm) j))) (k_Ga_sign l G x X1 (nI bb) hO1) (by rw [sgn_v (by omega) (by omega), hp1, hbb, hmo.2 _ (by omega), hst.2.2.2 j (by omega)])) co_Ga_sign im_Ga_sign se_Ga_sign in_Ga gc_Ga_sign ml_La_94 ⟨Nat.le_of_ble_eq_true rfl, Nat.le_of_ble_eq_true rfl⟩ hK hR_2.1 rfl hR_2 rfl hl.1 rfl (Nat.le_of_ble_eq_true rfl) d_La_isWritten_117 ⟨Nat.le_of_ble_eq_true rfl, Nat.le_of_ble_eq_true rfl⟩ (g_r rfl ?_)
                            refine lv_aload_n hx hb d_La_isWritten_120 rfl (lv_at hl 6 rfl) ?_
                            refine lv_iload hx hb d_La_isWritten_121 (lv_at hl 3 rfl) ?_
                            refine lv_iload hx hb d_La_isWritten_123 (lv_at hl 0 rfl) ?_
                            refine g_V C0 (g_val (v' := (nI (96 + kL (lKy X1.1 (Lst X1.1 co li) mm) j))) (k_Ga_letter l G x X1 (nI ((Lst X1.1 co li).2 mm)) (nI j) hO1) (lt_v hI1 hnn (by show j < kS (lKy X1.1 (Lst X1.1 co li) mm) (lKy X1.1 (Lst X1.1 co li) mm); omega))) co_Ga_letter im_Ga_letter se_Ga_letter in_Ga gc_Ga_letter ml_La_19 ⟨Nat.le_of_ble_eq_true rfl, Nat.le_of_ble_eq_true rfl⟩ hK hR_2.1 rfl hR_2 rfl hl.1 rfl (Nat.le_of_ble_eq_true rfl) d_La_isWritten_125 ⟨Nat.le_of_ble_eq_true rfl, Nat.le_of_ble_eq_true rfl⟩ (g_r rfl ?_)
                            refine lv_icmp_ne (tgt := 135) hx hb d_La_isWritten_128 (by decide) (fun c_128 => ?_) (fun c_128 => ?_)
                            · exact absurd rfl c_128
                            · skip
                              refine lv_iconst (v := nI 1) hx hb d_La_isWritten_131 (by decide +kernel) ?_
                              refine lv_goto (tgt := 136) hx hb d_La_isWritten_132 (by decide) ?_
                              refine lv_istore (lv' := [(6, .int (nI 1)), (8, .int (nI j)), (4, .int (nI bb)), (7, .int (nI ((Lst X1.1 co li).2 mm))), (5, .int (nI mm)), (3, .int (nI X1.2.1.1.1)), (0, .ref x), (1, .int (nI co)), (2, .int (nI li))]) hx hb d_La_isWritten_136 hl (by decide) rfl (fun ls hl => ?_)
                              refine lv_iinc (v := (nI (bb + 1))) (lv' := [(4, .int (nI (bb + 1))), (6, .int (nI 1)), (8, .int (nI j)), (7, .int (nI ((Lst X1.1 co li).2 mm))), (5, .int (nI mm)), (3, .int (nI X1.2.1.1.1)), (0, .ref x), (1, .int (nI co)), (2, .int (nI li))]) hx hb d_La_isWritten_138 hl (k := 2) rfl (gI_inc _) (by decide) rfl (fun ls hl => ?_)
                              refine lv_iinc (v := (nI (j + 1))) (lv' := [(8, .int (nI (j + 1))), (4, .int (nI (bb + 1))), (6, .int (nI 1)), (7, .int (nI ((Lst X1.1 co li).2 mm))), (5, .int (nI mm)), (3, .int (nI X1.2.1.1.1)), (0, .ref x), (1, .int (nI co)), (2, .int (nI li))]) hx hb d_La_isWritten_141 hl (k := 2) rfl (gI_inc _) (by decide) rfl (fun ls hl => ?_)
                              refine lv_goto (tgt := 97) hx hb d_La_isWritten_144 (by decide) ?_
                              exact ih97 (j + 1) (bb + 1) (by omega) (by omega) (by omega) ls (lv_sub hl [0, 1, 2, 3, 4, 5, 6, 7, 8] rfl)
                    exact lp97 ((kS (lKy X1.1 (Lst X1.1 co li) mm) (lKy X1.1 (Lst X1.1 co li) mm) - 0) + 1) 0 (az + 1) (by omega) (by omega) (by omega) ls (lv_sub hl [0, 1, 2, 3, 4, 5, 6, 7, 8] rfl)
                  · exact absurd ((nI_eqi (b := 0) (by omega) (by decide)).mp c_83) hm0p
          · skip
            refine lv_aload_n hx hb d_La_isWritten_35 rfl (lv_at hl 4 rfl) ?_
            refine lv_iload_n hx hb d_La_isWritten_36 rfl (lv_at hl 5 rfl) ?_
            refine lv_iload_n hx hb d_La_isWritten_37 rfl (lv_at hl 6 rfl) ?_
            refine lv_iload hx hb d_La_isWritten_38 (lv_at hl 1 rfl) ?_
            refine g_V C0 (g_val (v' := (-1)) (k_Ga_listed l G x X1 (nI co) (nI li) (nI mm) hO1) (ls_n hc hk hm2 (by omega))) co_Ga_listed im_Ga_listed se_Ga_listed in_Ga gc_Ga_listed ml_La_38 ⟨Nat.le_of_ble_eq_true rfl, Nat.le_of_ble_eq_true rfl⟩ hK hR_2.1 rfl hR_2 rfl hl.1 rfl (Nat.le_of_ble_eq_true rfl) d_La_isWritten_40 ⟨Nat.le_of_ble_eq_true rfl, Nat.le_of_ble_eq_true rfl⟩ (g_r rfl ?_)
            refine lv_if_lt (tgt := 153) hx hb d_La_isWritten_43 (by decide) (fun c_43 => ?_) (fun c_43 => ?_)
            · skip
              rcases (show mm = 0 ∨ mm = 1 ∨ 2 ≤ mm by omega) with hm0 | hm0 | hm0
              · skip
                refine lv_iload hx hb d_La_isWritten_153 (lv_at hl 0 rfl) ?_
                refine lv_if_eq (tgt := 259) hx hb d_La_isWritten_155 (by decide) (fun c_155 => ?_) (fun c_155 => ?_)
                · first | exact absurd c_155 (by decide) | exact absurd rfl c_155
                · skip
                  refine lv_iload hx hb d_La_isWritten_158 (lv_at hl 2 rfl) ?_
                  refine lv_iload_n hx hb d_La_isWritten_160 rfl (lv_at hl 3 rfl) ?_
                  refine lv_icmp_ne (tgt := 259) hx hb d_La_isWritten_161 (by decide) (fun c_161 => ?_) (fun c_161 => ?_)
                  · exact absurd (by rw [hat, hp1, show mm = (Lst X1.1 co li).1 by omega]) c_161
                  · skip
                    refine lv_aload_n hx hb d_La_isWritten_164 rfl (lv_at hl 4 rfl) ?_
                    refine lv_iload_n hx hb d_La_isWritten_165 rfl (lv_at hl 3 rfl) ?_
                    refine g_V C0 (g_val (v' := (-1)) (k_Ga_sign l G x X1 (nI X1.2.1.1.1) hO1) (sgn_n (Nat.le_refl _) (by omega))) co_Ga_sign im_Ga_sign se_Ga_sign in_Ga gc_Ga_sign ml_La_94 ⟨Nat.le_of_ble_eq_true rfl, Nat.le_of_ble_eq_true rfl⟩ hK hR_2.1 rfl hR_2 rfl hl.1 rfl (Nat.le_of_ble_eq_true rfl) d_La_isWritten_166 ⟨Nat.le_of_ble_eq_true rfl, Nat.le_of_ble_eq_true rfl⟩ (g_r rfl ?_)
                    refine lv_iconst (v := -1) hx hb d_La_isWritten_169 (by decide +kernel) ?_
                    refine lv_icmp_ne (tgt := 259) hx hb d_La_isWritten_170 (by decide) (fun c_170 => ?_) (fun c_170 => ?_)
                    · exact absurd rfl c_170
                    · skip
                      refine lv_iload hx hb d_La_isWritten_173 (lv_at hl 1 rfl) ?_
                      refine lv_iconst (v := nI 1) hx hb d_La_isWritten_175 (by decide +kernel) ?_
                      refine g_cne (tgt := 201) C0 d_La_isWritten_176 (by decide) (by omega) (by omega) (fun c_176 => ?_) (fun c_176 => ?_)
                      · skip
                        refine lv_iload hx hb d_La_isWritten_201 (lv_at hl 1 rfl) ?_
                        refine lv_iconst (v := nI 2) hx hb d_La_isWritten_203 (by decide +kernel) ?_
                        refine g_clt (tgt := 216) C0 d_La_isWritten_204 (by decide) (by omega) (by omega) (fun c_204 => ?_) (fun c_204 => ?_)
                        · skip
                          refine lv_aload_n hx hb d_La_isWritten_216 rfl (lv_at hl 4 rfl) ?_
                          obtain ⟨X2, hX2⟩ : ∃ Z, Z = xTd X1 := ⟨_, rfl⟩
                          have hJ2 : IX t X2 := by rw [hX2]; exact hJ1
                          have hO2 := hJ2.ok (by omega)
                          have hI2 := hJ2.1
                          have hs2 : X2.1 = X1.1 := by rw [hX2]; exact rfl
                          have hr2 : X2.2.2 = X.2.2 := by rw [hX2]; exact hr1
                          have hT2 : TW X2 co li := by rw [hX2]; exact hT1.td
                          refine g_V C0 (g_valw (v' := (nI 0)) (X' := X2) (k_Ga_fault l G x X1  hO1) (by rw [hX2, tw_flt0 hT1 (by omega)])) co_Ga_fault im_Ga_fault se_Ga_fault in_Ga gc_Ga_fault ml_La_103 ⟨Nat.le_of_ble_eq_true rfl, Nat.le_of_ble_eq_true rfl⟩ hK hR_2.1 rfl hR_2 rfl hl.1 rfl (Nat.le_of_ble_eq_true rfl) d_La_isWritten_217 ⟨Nat.le_of_ble_eq_true rfl, Nat.le_of_ble_eq_true rfl⟩ (g_wi (free := gRg x (x + 262)) hL (fun _ h => h) (fun H_4 locs hL ⟨hR_5, hf_6⟩ => ?_))
                          refine lv_iload hx hb d_La_isWritten_220 (lv_at hl 1 rfl) ?_
                          refine lv_if_ne (tgt := 229) hx hb d_La_isWritten_222 (by decide) (fun c_222 => ?_) (fun c_222 => ?_)
                          · exact absurd (by rw [hm0]; rfl) c_222
                          · skip
                            refine lv_iconst (v := nI 0) hx hb d_La_isWritten_225 (by decide +kernel) ?_
                            refine lv_goto (tgt := 231) hx hb d_La_isWritten_226 (by decide) ?_
                            refine lv_icmp_ne (tgt := 259) hx hb d_La_isWritten_231 (by decide) (fun c_231 => ?_) (fun c_231 => ?_)
                            · exact absurd rfl c_231
                            · skip
                              refine lv_aload_n hx hb d_La_isWritten_234 rfl (lv_at hl 4 rfl) ?_
                              refine lv_iload_n hx hb d_La_isWritten_235 rfl (lv_at hl 5 rfl) ?_
                              refine lv_iload_n hx hb d_La_isWritten_236 rfl (lv_at hl 6 rfl) ?_
                              obtain ⟨X3, hX3⟩ : ∃ Z, Z = xTd X2 := ⟨_, rfl⟩
                              have hJ3 : IX t X3 := by rw [hX3]; exact hJ2
                              have hO3 := hJ3.ok (by omega)
                              have hI3 := hJ3.1
                              have hs3 : X3.1 = X1.1 := by rw [hX3]; exact hs2
                              have hr3 : X3.2.2 = X.2.2 := by rw [hX3]; exact hr2
                              have hT3 : TW X3 co li := by rw [hX3]; exact hT2.td
                              refine g_V C0 (g_valw (v' := (-3)) (X' := X3) (k_Ga_fill l G x X2 (nI co) (nI li) hO2) (by rw [hX3, tw_fil0 hc hk hT2 (by rw [hs2]; omega)])) co_Ga_fill im_Ga_fill se_Ga_fill in_Ga gc_Ga_fill ml_La_64 ⟨Nat.le_of_ble_eq_true rfl, Nat.le_of_ble_eq_true rfl⟩ hK hR_5.1 rfl hR_5 rfl hl.1 rfl (Nat.le_of_ble_eq_true rfl) d_La_isWritten_237 ⟨Nat.le_of_ble_eq_true rfl, Nat.le_of_ble_eq_true rfl⟩ (g_wi (free := gRg x (x + 262)) hL (fun _ h => h) (fun H_7 locs hL ⟨hR_8, hf_9⟩ => ?_))
                              refine lv_iload hx hb d_La_isWritten_240 (lv_at hl 1 rfl) ?_
                              refine lv_if_ne (tgt := 250) hx hb d_La_isWritten_242 (by decide) (fun c_242 => ?_) (fun c_242 => ?_)
                              · exact absurd (by rw [hm0]; rfl) c_242
                              · skip
                                refine lv_bipush (v := -3) hx hb d_La_isWritten_245 (by decide +kernel) ?_
                                refine lv_goto (tgt := 252) hx hb d_La_isWritten_247 (by decide) ?_
                                refine lv_icmp_ne (tgt := 259) hx hb d_La_isWritten_252 (by decide) (fun c_252 => ?_) (fun c_252 => ?_)
                                · exact absurd rfl c_252
                                · skip
                                  refine lv_iconst (v := nI 1) hx hb d_La_isWritten_255 (by decide +kernel) ?_
                                  refine lv_goto (tgt := 260) hx hb d_La_isWritten_256 (by decide) ?_
                                  refine g_zret (b := true) C0 hlk hr d_La_isWritten_260 hL ?_
                                  exact ⟨rfl, X3, hR_8, hJ3, hs3.trans hs1, hr3, (((gFr.rf.tr hf_3).tr hf_6).tr hf_9)⟩
                        · exact absurd c_204 (by omega)
                      · exact absurd c_176 (by omega)
              · skip
                refine lv_iload hx hb d_La_isWritten_153 (lv_at hl 0 rfl) ?_
                refine lv_if_eq (tgt := 259) hx hb d_La_isWritten_155 (by decide) (fun c_155 => ?_) (fun c_155 => ?_)
                · first | exact absurd c_155 (by decide) | exact absurd rfl c_155
                · skip
                  refine lv_iload hx hb d_La_isWritten_158 (lv_at hl 2 rfl) ?_
                  refine lv_iload_n hx hb d_La_isWritten_160 rfl (lv_at hl 3 rfl) ?_
                  refine lv_icmp_ne (tgt := 259) hx hb d_La_isWritten_161 (by decide) (fun c_161 => ?_) (fun c_161 => ?_)
                  · exact absurd (by rw [hat, hp1, show mm = (Lst X1.1 co li).1 by omega]) c_161
                  · skip
                    refine lv_aload_n hx hb d_La_isWritten_164 rfl (lv_at hl 4 rfl) ?_
                    refine lv_iload_n hx hb d_La_isWritten_165 rfl (lv_at hl 3 rfl) ?_
                    refine g_V C0 (g_val (v' := (-1)) (k_Ga_sign l G x X1 (nI X1.2.1.1.1) hO1) (sgn_n (Nat.le_refl _) (by omega))) co_Ga_sign im_Ga_sign se_Ga_sign in_Ga gc_Ga_sign ml_La_94 ⟨Nat.le_of_ble_eq_true rfl, Nat.le_of_ble_eq_true rfl⟩ hK hR_2.1 rfl hR_2 rfl hl.1 rfl (Nat.le_of_ble_eq_true rfl) d_La_isWritten_166 ⟨Nat.le_of_ble_eq_true rfl, Nat.le_of_ble_eq_true rfl⟩ (g_r rfl ?_)
                    refine lv_iconst (v := -1) hx hb d_La_isWritten_169 (by decide +kernel) ?_
                    refine lv_icmp_ne (tgt := 259) hx hb d_La_isWritten_170 (by decide) (fun c_170 => ?_) (fun c_170 => ?_)
                    · exact absurd rfl c_170
                    · skip
                      refine lv_iload hx hb d_La_isWritten_173 (lv_at hl 1 rfl) ?_
                      refine lv_iconst (v := nI 1) hx hb d_La_isWritten_175 (by decide +kernel) ?_
                      refine g_cne (tgt := 201) C0 d_La_isWritten_176 (by decide) (by omega) (by omega) (fun c_176 => ?_) (fun c_176 => ?_)
                      · exact absurd hm0 c_176
                      · skip
                        refine lv_aload_n hx hb d_La_isWritten_179 rfl (lv_at hl 4 rfl) ?_
                        obtain ⟨X2, hX2⟩ : ∃ Z, Z = xTd X1 := ⟨_, rfl⟩
                        have hJ2 : IX t X2 := by rw [hX2]; exact hJ1
                        have hO2 := hJ2.ok (by omega)
                        have hI2 := hJ2.1
                        have hs2 : X2.1 = X1.1 := by rw [hX2]; exact rfl
                        have hr2 : X2.2.2 = X.2.2 := by rw [hX2]; exact hr1
                        have hT2 : TW X2 co li := by rw [hX2]; exact hT1.td
                        refine g_V C0 (g_valw (v' := (nI ((Lst X1.1 co li).2 0))) (X' := X2) (k_Ga_find l G x X1  hO1) (by rw [hX2, tw_fnd1 hI1 hc hk hT1 (by omega)])) co_Ga_find im_Ga_find se_Ga_find in_Ga gc_Ga_find ml_La_97 ⟨Nat.le_of_ble_eq_true rfl, Nat.le_of_ble_eq_true rfl⟩ hK hR_2.1 rfl hR_2 rfl hl.1 rfl (Nat.le_of_ble_eq_true rfl) d_La_isWritten_180 ⟨Nat.le_of_ble_eq_true rfl, Nat.le_of_ble_eq_true rfl⟩ (g_wi (free := gRg x (x + 262)) hL (fun _ h => h) (fun H_10 locs hL ⟨hR_11, hf_12⟩ => ?_))
                        refine lv_aload_n hx hb d_La_isWritten_183 rfl (lv_at hl 4 rfl) ?_
                        refine lv_iload_n hx hb d_La_isWritten_184 rfl (lv_at hl 5 rfl) ?_
                        refine lv_iload_n hx hb d_La_isWritten_185 rfl (lv_at hl 6 rfl) ?_
                        refine lv_iconst (v := nI 0) hx hb d_La_isWritten_186 (by decide +kernel) ?_
                        refine g_V C0 (g_val (v' := (nI ((Lst X1.1 co li).2 0))) (k_Ga_listed l G x X2 (nI co) (nI li) (nI 0) hO2) (by rw [hs2]; exact ls_v hI1 hc hk (by show 0 < (Lst X1.1 co li).1; omega))) co_Ga_listed im_Ga_listed se_Ga_listed in_Ga gc_Ga_listed ml_La_38 ⟨Nat.le_of_ble_eq_true rfl, Nat.le_of_ble_eq_true rfl⟩ hK hR_11.1 rfl hR_11 rfl hl.1 rfl (Nat.le_of_ble_eq_true rfl) d_La_isWritten_187 ⟨Nat.le_of_ble_eq_true rfl, Nat.le_of_ble_eq_true rfl⟩ (g_r rfl ?_)
                        refine lv_icmp_ne (tgt := 259) hx hb d_La_isWritten_190 (by decide) (fun c_190 => ?_) (fun c_190 => ?_)
                        · exact absurd rfl c_190
                        · skip
                          refine lv_aload_n hx hb d_La_isWritten_193 rfl (lv_at hl 4 rfl) ?_
                          obtain ⟨q, hbq, hq1, hq40⟩ := tw_beg1 hI2 hc hk hT2 (by rw [hs2]; omega)
                          obtain ⟨X3, hX3⟩ : ∃ Z, Z = xTd X2 := ⟨_, rfl⟩
                          have hJ3 : IX t X3 := by rw [hX3]; exact hJ2
                          have hO3 := hJ3.ok (by omega)
                          have hI3 := hJ3.1
                          have hs3 : X3.1 = X1.1 := by rw [hX3]; exact hs2
                          have hr3 : X3.2.2 = X.2.2 := by rw [hX3]; exact hr2
                          have hT3 : TW X3 co li := by rw [hX3]; exact hT2.td
                          refine g_V C0 (g_valw (v' := (nI q)) (X' := X3) (k_Ga_beginning l G x X2  hO2) (by rw [hX3, hbq])) co_Ga_beginning im_Ga_beginning se_Ga_beginning in_Ga gc_Ga_beginning ml_La_100 ⟨Nat.le_of_ble_eq_true rfl, Nat.le_of_ble_eq_true rfl⟩ hK hR_11.1 rfl hR_11 rfl hl.1 rfl (Nat.le_of_ble_eq_true rfl) d_La_isWritten_194 ⟨Nat.le_of_ble_eq_true rfl, Nat.le_of_ble_eq_true rfl⟩ (g_wi (free := gRg x (x + 262)) hL (fun _ h => h) (fun H_13 locs hL ⟨hR_14, hf_15⟩ => ?_))
                          refine lv_iconst (v := nI 1) hx hb d_La_isWritten_197 (by decide +kernel) ?_
                          refine g_clt (tgt := 259) C0 d_La_isWritten_198 (by decide) (by omega) (by omega) (fun c_198 => ?_) (fun c_198 => ?_)
                          · exact absurd c_198 (by omega)
                          · skip
                            refine lv_iload hx hb d_La_isWritten_201 (lv_at hl 1 rfl) ?_
                            refine lv_iconst (v := nI 2) hx hb d_La_isWritten_203 (by decide +kernel) ?_
                            refine g_clt (tgt := 216) C0 d_La_isWritten_204 (by decide) (by omega) (by omega) (fun c_204 => ?_) (fun c_204 => ?_)
                            · skip
                              refine lv_aload_n hx hb d_La_isWritten_216 rfl (lv_at hl 4 rfl) ?_
                              obtain ⟨X4, hX4⟩ : ∃ Z, Z = xTd X3 := ⟨_, rfl⟩
                              have hJ4 : IX t X4 := by rw [hX4]; exact hJ3
                              have hO4 := hJ4.ok (by omega)
                              have hI4 := hJ4.1
                              have hs4 : X4.1 = X1.1 := by rw [hX4]; exact hs3
                              have hr4 : X4.2.2 = X.2.2 := by rw [hX4]; exact hr3
                              have hT4 : TW X4 co li := by rw [hX4]; exact hT3.td
                              refine g_V C0 (g_valw (v' := (-6)) (X' := X4) (k_Ga_fault l G x X3  hO3) (by rw [hX4, tw_flt1 hT3 (by rw [hs3]; omega)])) co_Ga_fault im_Ga_fault se_Ga_fault in_Ga gc_Ga_fault ml_La_103 ⟨Nat.le_of_ble_eq_true rfl, Nat.le_of_ble_eq_true rfl⟩ hK hR_14.1 rfl hR_14 rfl hl.1 rfl (Nat.le_of_ble_eq_true rfl) d_La_isWritten_217 ⟨Nat.le_of_ble_eq_true rfl, Nat.le_of_ble_eq_true rfl⟩ (g_wi (free := gRg x (x + 262)) hL (fun _ h => h) (fun H_16 locs hL ⟨hR_17, hf_18⟩ => ?_))
                              refine lv_iload hx hb d_La_isWritten_220 (lv_at hl 1 rfl) ?_
                              refine lv_if_ne (tgt := 229) hx hb d_La_isWritten_222 (by decide) (fun c_222 => ?_) (fun c_222 => ?_)
                              · skip
                                refine lv_bipush (v := -6) hx hb d_La_isWritten_229 (by decide +kernel) ?_
                                refine lv_icmp_ne (tgt := 259) hx hb d_La_isWritten_231 (by decide) (fun c_231 => ?_) (fun c_231 => ?_)
                                · exact absurd rfl c_231
                                · skip
                                  refine lv_aload_n hx hb d_La_isWritten_234 rfl (lv_at hl 4 rfl) ?_
                                  refine lv_iload_n hx hb d_La_isWritten_235 rfl (lv_at hl 5 rfl) ?_
                                  refine lv_iload_n hx hb d_La_isWritten_236 rfl (lv_at hl 6 rfl) ?_
                                  obtain ⟨X5, hX5⟩ : ∃ Z, Z = xTd X4 := ⟨_, rfl⟩
                                  have hJ5 : IX t X5 := by rw [hX5]; exact hJ4
                                  have hO5 := hJ5.ok (by omega)
                                  have hI5 := hJ5.1
                                  have hs5 : X5.1 = X1.1 := by rw [hX5]; exact hs4
                                  have hr5 : X5.2.2 = X.2.2 := by rw [hX5]; exact hr4
                                  have hT5 : TW X5 co li := by rw [hX5]; exact hT4.td
                                  refine g_V C0 (g_valw (v' := (-5)) (X' := X5) (k_Ga_fill l G x X4 (nI co) (nI li) hO4) (by rw [hX5, tw_fil1 hI4 hc hk hT4 (by rw [hs4]; omega) (by rw [hs4]; omega)])) co_Ga_fill im_Ga_fill se_Ga_fill in_Ga gc_Ga_fill ml_La_64 ⟨Nat.le_of_ble_eq_true rfl, Nat.le_of_ble_eq_true rfl⟩ hK hR_17.1 rfl hR_17 rfl hl.1 rfl (Nat.le_of_ble_eq_true rfl) d_La_isWritten_237 ⟨Nat.le_of_ble_eq_true rfl, Nat.le_of_ble_eq_true rfl⟩ (g_wi (free := gRg x (x + 262)) hL (fun _ h => h) (fun H_19 locs hL ⟨hR_20, hf_21⟩ => ?_))
                                  refine lv_iload hx hb d_La_isWritten_240 (lv_at hl 1 rfl) ?_
                                  refine lv_if_ne (tgt := 250) hx hb d_La_isWritten_242 (by decide) (fun c_242 => ?_) (fun c_242 => ?_)
                                  · skip
                                    refine lv_bipush (v := -5) hx hb d_La_isWritten_250 (by decide +kernel) ?_
                                    refine lv_icmp_ne (tgt := 259) hx hb d_La_isWritten_252 (by decide) (fun c_252 => ?_) (fun c_252 => ?_)
                                    · exact absurd rfl c_252
                                    · skip
                                      refine lv_iconst (v := nI 1) hx hb d_La_isWritten_255 (by decide +kernel) ?_
                                      refine lv_goto (tgt := 260) hx hb d_La_isWritten_256 (by decide) ?_
                                      refine g_zret (b := true) C0 hlk hr d_La_isWritten_260 hL ?_
                                      exact ⟨rfl, X5, hR_20, hJ5, hs5.trans hs1, hr5, (((((gFr.rf.tr hf_3).tr hf_12).tr hf_15).tr hf_18).tr hf_21)⟩
                                  · exact absurd ((nI_eqi (b := 0) (by omega) (by decide)).mp c_242) (by omega)
                              · exact absurd ((nI_eqi (b := 0) (by omega) (by decide)).mp c_222) (by omega)
                            · exact absurd c_204 (by omega)
              · skip
                refine lv_iload hx hb d_La_isWritten_153 (lv_at hl 0 rfl) ?_
                refine lv_if_eq (tgt := 259) hx hb d_La_isWritten_155 (by decide) (fun c_155 => ?_) (fun c_155 => ?_)
                · first | exact absurd c_155 (by decide) | exact absurd rfl c_155
                · skip
                  refine lv_iload hx hb d_La_isWritten_158 (lv_at hl 2 rfl) ?_
                  refine lv_iload_n hx hb d_La_isWritten_160 rfl (lv_at hl 3 rfl) ?_
                  refine lv_icmp_ne (tgt := 259) hx hb d_La_isWritten_161 (by decide) (fun c_161 => ?_) (fun c_161 => ?_)
                  · exact absurd (by rw [hat, hp1, show mm = (Lst X1.1 co li).1 by omega]) c_161
                  · skip
                    refine lv_aload_n hx hb d_La_isWritten_164 rfl (lv_at hl 4 rfl) ?_
                    refine lv_iload_n hx hb d_La_isWritten_165 rfl (lv_at hl 3 rfl) ?_
                    refine g_V C0 (g_val (v' := (-1)) (k_Ga_sign l G x X1 (nI X1.2.1.1.1) hO1) (sgn_n (Nat.le_refl _) (by omega))) co_Ga_sign im_Ga_sign se_Ga_sign in_Ga gc_Ga_sign ml_La_94 ⟨Nat.le_of_ble_eq_true rfl, Nat.le_of_ble_eq_true rfl⟩ hK hR_2.1 rfl hR_2 rfl hl.1 rfl (Nat.le_of_ble_eq_true rfl) d_La_isWritten_166 ⟨Nat.le_of_ble_eq_true rfl, Nat.le_of_ble_eq_true rfl⟩ (g_r rfl ?_)
                    refine lv_iconst (v := -1) hx hb d_La_isWritten_169 (by decide +kernel) ?_
                    refine lv_icmp_ne (tgt := 259) hx hb d_La_isWritten_170 (by decide) (fun c_170 => ?_) (fun c_170 => ?_)
                    · exact absurd rfl c_170
                    · skip
                      refine lv_iload hx hb d_La_isWritten_173 (lv_at hl 1 rfl) ?_
                      refine lv_iconst (v := nI 1) hx hb d_La_isWritten_175 (by decide +kernel) ?_
                      refine g_cne (tgt := 201) C0 d_La_isWritten_176 (by decide) (by omega) (by omega) (fun c_176 => ?_) (fun c_176 => ?_)
                      · skip
                        refine lv_iload hx hb d_La_isWritten_201 (lv_at hl 1 rfl) ?_
                        refine lv_iconst (v := nI 2) hx hb d_La_isWritten_203 (by decide +kernel) ?_
                        refine g_clt (tgt := 216) C0 d_La_isWritten_204 (by decide) (by omega) (by omega) (fun c_204 => ?_) (fun c_204 => ?_)
                        · exact absurd c_204 (by omega)
                        · skip
                          refine lv_aload_n hx hb d_La_isWritten_207 rfl (lv_at hl 4 rfl) ?_
                          obtain ⟨X2, hX2⟩ : ∃ Z, Z = xTd X1 := ⟨_, rfl⟩
                          have hJ2 : IX t X2 := by rw [hX2]; exact hJ1
                          have hO2 := hJ2.ok (by omega)
                          have hI2 := hJ2.1
                          have hs2 : X2.1 = X1.1 := by rw [hX2]; exact rfl
                          have hr2 : X2.2.2 = X.2.2 := by rw [hX2]; exact hr1
                          have hT2 : TW X2 co li := by rw [hX2]; exact hT1.td
                          refine g_V C0 (g_valw (v' := (-3)) (X' := X2) (k_Ga_find l G x X1  hO1) (by rw [hX2, tw_fnd2 hT1 (by omega) (by omega)])) co_Ga_find im_Ga_find se_Ga_find in_Ga gc_Ga_find ml_La_97 ⟨Nat.le_of_ble_eq_true rfl, Nat.le_of_ble_eq_true rfl⟩ hK hR_2.1 rfl hR_2 rfl hl.1 rfl (Nat.le_of_ble_eq_true rfl) d_La_isWritten_208 ⟨Nat.le_of_ble_eq_true rfl, Nat.le_of_ble_eq_true rfl⟩ (g_wi (free := gRg x (x + 262)) hL (fun _ h => h) (fun H_22 locs hL ⟨hR_23, hf_24⟩ => ?_))
                          refine lv_bipush (v := -3) hx hb d_La_isWritten_211 (by decide +kernel) ?_
                          refine lv_icmp_ne (tgt := 259) hx hb d_La_isWritten_213 (by decide) (fun c_213 => ?_) (fun c_213 => ?_)
                          · exact absurd rfl c_213
                          · skip
                            refine lv_aload_n hx hb d_La_isWritten_216 rfl (lv_at hl 4 rfl) ?_
                            obtain ⟨X3, hX3⟩ : ∃ Z, Z = xTd X2 := ⟨_, rfl⟩
                            have hJ3 : IX t X3 := by rw [hX3]; exact hJ2
                            have hO3 := hJ3.ok (by omega)
                            have hI3 := hJ3.1
                            have hs3 : X3.1 = X1.1 := by rw [hX3]; exact hs2
                            have hr3 : X3.2.2 = X.2.2 := by rw [hX3]; exact hr2
                            have hT3 : TW X3 co li := by rw [hX3]; exact hT2.td
                            refine g_V C0 (g_valw (v' := (-6)) (X' := X3) (k_Ga_fault l G x X2  hO2) (by rw [hX3, tw_flt1 hT2 (by rw [hs2]; omega)])) co_Ga_fault im_Ga_fault se_Ga_fault in_Ga gc_Ga_fault ml_La_103 ⟨Nat.le_of_ble_eq_true rfl, Nat.le_of_ble_eq_true rfl⟩ hK hR_23.1 rfl hR_23 rfl hl.1 rfl (Nat.le_of_ble_eq_true rfl) d_La_isWritten_217 ⟨Nat.le_of_ble_eq_true rfl, Nat.le_of_ble_eq_true rfl⟩ (g_wi (free := gRg x (x + 262)) hL (fun _ h => h) (fun H_25 locs hL ⟨hR_26, hf_27⟩ => ?_))
                            refine lv_iload hx hb d_La_isWritten_220 (lv_at hl 1 rfl) ?_
                            refine lv_if_ne (tgt := 229) hx hb d_La_isWritten_222 (by decide) (fun c_222 => ?_) (fun c_222 => ?_)
                            · skip
                              refine lv_bipush (v := -6) hx hb d_La_isWritten_229 (by decide +kernel) ?_
                              refine lv_icmp_ne (tgt := 259) hx hb d_La_isWritten_231 (by decide) (fun c_231 => ?_) (fun c_231 => ?_)
                              · exact absurd rfl c_231
                              · skip
                                refine lv_aload_n hx hb d_La_isWritten_234 rfl (lv_at hl 4 rfl) ?_
                                refine lv_iload_n hx hb d_La_isWritten_235 rfl (lv_at hl 5 rfl) ?_
                                refine lv_iload_n hx hb d_La_isWritten_236 rfl (lv_at hl 6 rfl) ?_
                                obtain ⟨X4, hX4⟩ : ∃ Z, Z = xTd X3 := ⟨_, rfl⟩
                                have hJ4 : IX t X4 := by rw [hX4]; exact hJ3
                                have hO4 := hJ4.ok (by omega)
                                have hI4 := hJ4.1
                                have hs4 : X4.1 = X1.1 := by rw [hX4]; exact hs3
                                have hr4 : X4.2.2 = X.2.2 := by rw [hX4]; exact hr3
                                have hT4 : TW X4 co li := by rw [hX4]; exact hT3.td
                                refine g_V C0 (g_valw (v' := (-5)) (X' := X4) (k_Ga_fill l G x X3 (nI co) (nI li) hO3) (by rw [hX4, tw_fil1 hI3 hc hk hT3 (by rw [hs3]; omega) (by rw [hs3]; omega)])) co_Ga_fill im_Ga_fill se_Ga_fill in_Ga gc_Ga_fill ml_La_64 ⟨Nat.le_of_ble_eq_true rfl, Nat.le_of_ble_eq_true rfl⟩ hK hR_26.1 rfl hR_26 rfl hl.1 rfl (Nat.le_of_ble_eq_true rfl) d_La_isWritten_237 ⟨Nat.le_of_ble_eq_true rfl, Nat.le_of_ble_eq_true rfl⟩ (g_wi (free := gRg x (x + 262)) hL (fun _ h => h) (fun H_28 locs hL ⟨hR_29, hf_30⟩ => ?_))
                                refine lv_iload hx hb d_La_isWritten_240 (lv_at hl 1 rfl) ?_
                                refine lv_if_ne (tgt := 250) hx hb d_La_isWritten_242 (by decide) (fun c_242 => ?_) (fun c_242 => ?_)
                                · skip
                                  refine lv_bipush (v := -5) hx hb d_La_isWritten_250 (by decide +kernel) ?_
                                  refine lv_icmp_ne (tgt := 259) hx hb d_La_isWritten_252 (by decide) (fun c_252 => ?_) (fun c_252 => ?_)
                                  · exact absurd rfl c_252
                                  · skip
                                    refine lv_iconst (v := nI 1) hx hb d_La_isWritten_255 (by decide +kernel) ?_
                                    refine lv_goto (tgt := 260) hx hb d_La_isWritten_256 (by decide) ?_
                                    refine g_zret (b := true) C0 hlk hr d_La_isWritten_260 hL ?_
                                    exact ⟨rfl, X4, hR_29, hJ4, hs4.trans hs1, hr4, ((((gFr.rf.tr hf_3).tr hf_24).tr hf_27).tr hf_30)⟩
                                · exact absurd ((nI_eqi (b := 0) (by omega) (by decide)).mp c_242) (by omega)
                            · exact absurd ((nI_eqi (b := 0) (by omega) (by decide)).mp c_222) (by omega)
                      · exact absurd c_176 (by omega)
            · exact absurd (by decide) c_43
    exact lp30 ((9 - 0) + 1) 0 0 (by omega) (by omega) rfl ls (lv_sub hl [0, 1, 2, 3, 4, 5, 6] rfl)
