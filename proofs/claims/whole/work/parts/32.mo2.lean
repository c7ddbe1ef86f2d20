def mLt (pd : Nat → Nat) (ln ac : Nat) : Bool := decide (ac < ln) && decide (97 ≤ pd ac) && decide (pd ac ≤ 122)
set_option maxHeartbeats 4000000 in
set_option maxRecDepth 100000 in
theorem k_Mo_isLetter (l : Launch) (G : gT) (o : Nat) (S sp bf sv iz rr pd : Nat → Nat) (ln sts td ac : Nat) (hln : ln ≤ 80) (hpd : ∀ k, k < 80 → pd k < 2 ^ 16) (hac : ac ≤ 80) : gM l y_Mo_isLetter c_Mo_isLetter 1 (some .boolean) 0 0 0 0 G [.ref o] (fun H => MAt G o S sp bf sv iz rr pd ln sts td ac H) (rd (.int (bI (mLt pd ln ac)))) noF := by
  refine g_enter "GaleNamesModel" (by decide +kernel) rfl (Nat.le_of_ble_eq_true rfl) ?_
  intro p e s m args below meth c C0 hlk hr hnm hP hK ls hl
  have hx := C0.1
  have hb := C0.2.1
  have hl : lv_has ls 1 [(0, .ref o)] := hl
  refine lv_aload_n hx hb d_Mo_isLetter_0 rfl (lv_at hl 0 rfl) ?_
  refine g_get C0 hK il_Mo hP.1 rfl 10 (by decide) fl_Mo_41 rfl d_Mo_isLetter_1 ?_
  refine lv_aload_n hx hb d_Mo_isLetter_4 rfl (lv_at hl 0 rfl) ?_
  refine g_get C0 hK il_Mo hP.1 rfl 7 (by decide) fl_Mo_44 rfl d_Mo_isLetter_5 ?_
  refine g_cge (tgt := 43) C0 d_Mo_isLetter_8 (by decide) (by first | omega | exact Nat.lt_trans (hpd _ (by omega)) (by decide)) (by first | omega | exact Nat.lt_trans (hpd _ (by omega)) (by decide)) (fun c_8 => ?_) (fun c_8 => ?_)
  · skip
    refine lv_iconst (v := nI 0) hx hb d_Mo_isLetter_43 (by decide +kernel) ?_
    refine g_zret (b := false) C0 hlk hr d_Mo_isLetter_44 (t_nil (free := noF)) ?_
    exact ⟨rdB (by simp [mLt]; omega), rfl⟩
  · skip
    refine lv_aload_n hx hb d_Mo_isLetter_11 rfl (lv_at hl 0 rfl) ?_
    refine g_get C0 hK il_Mo hP.1 rfl 6 (by decide) fl_Mo_29 rfl d_Mo_isLetter_12 ?_
    refine lv_aload_n hx hb d_Mo_isLetter_15 rfl (lv_at hl 0 rfl) ?_
    refine g_get C0 hK il_Mo hP.1 rfl 10 (by decide) fl_Mo_41 rfl d_Mo_isLetter_16 ?_
    refine g_cald C0 hK hP.2.2.2.2.2.2.2 (by omega) (by omega) d_Mo_isLetter_19 ?_
    refine lv_bipush (v := nI 97) hx hb d_Mo_isLetter_20 (by decide +kernel) ?_
    refine g_clt (tgt := 43) C0 d_Mo_isLetter_22 (by decide) (by first | omega | exact Nat.lt_trans (hpd _ (by omega)) (by decide)) (by first | omega | exact Nat.lt_trans (hpd _ (by omega)) (by decide)) (fun c_22 => ?_) (fun c_22 => ?_)
    · skip
      refine lv_iconst (v := nI 0) hx hb d_Mo_isLetter_43 (by decide +kernel) ?_
      refine g_zret (b := false) C0 hlk hr d_Mo_isLetter_44 (t_nil (free := noF)) ?_
      exact ⟨rdB (by simp [mLt]; omega), rfl⟩
    · skip
      refine lv_aload_n hx hb d_Mo_isLetter_25 rfl (lv_at hl 0 rfl) ?_
      refine g_get C0 hK il_Mo hP.1 rfl 6 (by decide) fl_Mo_29 rfl d_Mo_isLetter_26 ?_
      refine lv_aload_n hx hb d_Mo_isLetter_29 rfl (lv_at hl 0 rfl) ?_
      refine g_get C0 hK il_Mo hP.1 rfl 10 (by decide) fl_Mo_41 rfl d_Mo_isLetter_30 ?_
      refine g_cald C0 hK hP.2.2.2.2.2.2.2 (by omega) (by omega) d_Mo_isLetter_33 ?_
      refine lv_bipush (v := nI 122) hx hb d_Mo_isLetter_34 (by decide +kernel) ?_
      refine g_cgt (tgt := 43) C0 d_Mo_isLetter_36 (by decide) (by first | omega | exact Nat.lt_trans (hpd _ (by omega)) (by decide)) (by first | omega | exact Nat.lt_trans (hpd _ (by omega)) (by decide)) (fun c_36 => ?_) (fun c_36 => ?_)
      · skip
        refine lv_iconst (v := nI 0) hx hb d_Mo_isLetter_43 (by decide +kernel) ?_
        refine g_zret (b := false) C0 hlk hr d_Mo_isLetter_44 (t_nil (free := noF)) ?_
        exact ⟨rdB (by simp [mLt]; omega), rfl⟩
      · skip
        refine lv_iconst (v := nI 1) hx hb d_Mo_isLetter_39 (by decide +kernel) ?_
        refine lv_goto (tgt := 44) hx hb d_Mo_isLetter_40 (by decide) ?_
        refine g_zret (b := true) C0 hlk hr d_Mo_isLetter_44 (t_nil (free := noF)) ?_
        exact ⟨rdB (by simp [mLt]; omega), rfl⟩

set_option maxHeartbeats 4000000 in
set_option maxRecDepth 100000 in
theorem k_Mo_isBad (l : Launch) (G : gT) (o : Nat) (S sp bf sv iz rr pd : Nat → Nat) (ln sts td ac : Nat) (w ct k : Nat) (hw : w < td) (hc : ct < 2) (hk : k < 3) (hM : mOk S) (hR : rOk rr pd td) : gM l y_Mo_isBad c_Mo_isBad 9 (some .boolean) 2 43 0 0 G [.ref o, .int (nI w), .int (nI ct), .int (nI k)] (fun H => MAt G o S sp bf sv iz rr pd ln sts td ac H) (rd (.int (bI (mBd S rr pd td w ct k)))) noF := by
  refine g_enter "GaleNamesModel" (by decide +kernel) rfl (Nat.le_of_ble_eq_true rfl) ?_
  intro p e s m args below meth c C0 hlk hr hnm hP hK ls hl
  have hx := C0.1
  have hb := C0.2.1
  have hl : lv_has ls 9 [(0, .ref o), (1, .int (nI w)), (2, .int (nI ct)), (3, .int (nI k))] := hl
  have hn40 := hM.n
  have hg16 := hM.g
  have hk10 := hM.k
  have htd := hR.1
  have hwa := hR.a hw
  have hwl := hR.l hw
  have hl8 := hM.l hc hk
  refine lv_iconst (v := nI 0) hx hb d_Mo_isBad_0 (by decide +kernel) ?_
  refine lv_istore (lv' := [(4, .int (nI 0)), (0, .ref o), (1, .int (nI w)), (2, .int (nI ct)), (3, .int (nI k))]) hx hb d_Mo_isBad_1 hl (by decide) rfl (fun ls hl => ?_)
  refine lv_iconst (v := nI 0) hx hb d_Mo_isBad_3 (by decide +kernel) ?_
  refine lv_istore (lv' := [(5, .int (nI 0)), (4, .int (nI 0)), (0, .ref o), (1, .int (nI w)), (2, .int (nI ct)), (3, .int (nI k))]) hx hb d_Mo_isBad_4 hl (by decide) rfl (fun ls hl => ?_)
  have lp6 : ∀ (fu : Nat) (v : Nat) (b : Bool), (td - v) < fu → v ≤ td → b = aN (mB1 S rr pd w) v → ∀ ls : Array Slot, lv_has ls 9 [(5, .int (nI v)), (4, .int (bI b)), (0, .ref o), (1, .int (nI w)), (2, .int (nI ct)), (3, .int (nI k))] → W p l e ({ frames := 2, cells := 0, slots := 0, locals := 43 } : Room) s m args below meth c s.heap [] 0 0 (MQ below (gQ (rd (.int (bI (mBd S rr pd td w ct k))))) args s 0 0 noF) (F0 m 6 ls []) := by
    intro fu
    induction fu with
    | zero => intro v b  hfu; exact absurd hfu (Nat.not_lt_zero _)
    | succ fu ih6 =>
      intro v b hfu hv hbb ls hl
      refine lv_iload hx hb d_Mo_isBad_6 (lv_at hl 0 rfl) ?_
      refine lv_aload_n hx hb d_Mo_isBad_8 rfl (lv_at hl 2 rfl) ?_
      refine g_get C0 hK il_Mo hP.1 rfl 9 (by decide) fl_Mo_51 rfl d_Mo_isBad_9 ?_
      refine g_cge (tgt := 102) C0 d_Mo_isBad_12 (by decide) (by first | omega | exact hM.b (by omega) | exact hR.p (by omega)) (by first | omega | exact hM.b (by omega) | exact hR.p (by omega)) (fun c_12 => ?_) (fun c_12 => ?_)
      · skip
        refine lv_iconst (v := nI 0) hx hb d_Mo_isBad_102 (by decide +kernel) ?_
        refine lv_istore (lv' := [(5, .int (nI 0)), (4, .int (bI b)), (0, .ref o), (1, .int (nI w)), (2, .int (nI ct)), (3, .int (nI k))]) hx hb d_Mo_isBad_103 hl (by decide) rfl (fun ls hl => ?_)
        have lp105 : ∀ (fu : Nat) (j : Nat) (b2 : Bool), (S (409 + 27 * ct + 9 * k) - j) < fu → j ≤ S (409 + 27 * ct + 9 * k) → b2 = (aN (mB1 S rr pd w) td || aN (fun j => mB2 S rr pd w (S (409 + 27 * ct + 9 * k + 1 + j))) j) → ∀ ls : Array Slot, lv_has ls 9 [(5, .int (nI j)), (4, .int (bI b2)), (0, .ref o), (1, .int (nI w)), (2, .int (nI ct)), (3, .int (nI k))] → W p l e ({ frames := 2, cells := 0, slots := 0, locals := 43 } : Room) s m args below meth c s.heap [] 0 0 (MQ below (gQ (rd (.int (bI (mBd S rr pd td w ct k))))) args s 0 0 noF) (F0 m 105 ls []) := by
          intro fu
          induction fu with
          | zero => intro j b2  hfu; exact absurd hfu (Nat.not_lt_zero _)
          | succ fu ih105 =>
            intro j b2 hfu hj hbc ls hl
            refine lv_iload hx hb d_Mo_isBad_105 (lv_at hl 0 rfl) ?_
            refine lv_aload_n hx hb d_Mo_isBad_107 rfl (lv_at hl 2 rfl) ?_
            refine g_get C0 hK il_Mo hP.1 rfl 0 (by decide) fl_Mo_7 rfl d_Mo_isBad_108 ?_
            refine lv_iload_n hx hb d_Mo_isBad_111 rfl (lv_at hl 4 rfl) ?_
            refine lv_iload_n hx hb d_Mo_isBad_112 rfl (lv_at hl 5 rfl) ?_
            refine g_S C0 (k_Mo_l l G ct k) co_Mo_l sm_Mo_l in_Mo gc_Mo_l ml_Mo_68 ⟨Nat.le_of_ble_eq_true rfl, Nat.le_of_ble_eq_true rfl⟩ hK trivial rfl hl.1 rfl (Nat.le_of_ble_eq_true rfl) d_Mo_isBad_113 ⟨Nat.le_of_ble_eq_true rfl, Nat.le_of_ble_eq_true rfl⟩ (g_r rfl ?_)
            refine g_iald C0 hK hP.2.1 (by omega) (by omega) d_Mo_isBad_116 ?_
            refine g_cge (tgt := 217) C0 d_Mo_isBad_117 (by decide) (by first | omega | exact hM.b (by omega) | exact hR.p (by omega)) (by first | omega | exact hM.b (by omega) | exact hR.p (by omega)) (fun c_117 => ?_) (fun c_117 => ?_)
            · skip
              refine lv_iload hx hb d_Mo_isBad_217 (lv_at hl 1 rfl) ?_
              refine g_zret C0 hlk hr d_Mo_isBad_219 (t_nil (free := noF)) ?_
              exact ⟨rdB (by rw [hbc, show j = S (409 + 27 * ct + 9 * k) by omega]; rfl), rfl⟩
            · skip
              have he := hM.le hc hk (j := j) (by omega)
              have hel := hM.nl he
              refine lv_aload_n hx hb d_Mo_isBad_120 rfl (lv_at hl 2 rfl) ?_
              refine g_get C0 hK il_Mo hP.1 rfl 0 (by decide) fl_Mo_7 rfl d_Mo_isBad_121 ?_
              refine lv_iload_n hx hb d_Mo_isBad_124 rfl (lv_at hl 4 rfl) ?_
              refine lv_iload_n hx hb d_Mo_isBad_125 rfl (lv_at hl 5 rfl) ?_
              refine g_S C0 (k_Mo_l l G ct k) co_Mo_l sm_Mo_l in_Mo gc_Mo_l ml_Mo_68 ⟨Nat.le_of_ble_eq_true rfl, Nat.le_of_ble_eq_true rfl⟩ hK trivial rfl hl.1 rfl (Nat.le_of_ble_eq_true rfl) d_Mo_isBad_126 ⟨Nat.le_of_ble_eq_true rfl, Nat.le_of_ble_eq_true rfl⟩ (g_r rfl ?_)
              refine lv_iconst (v := nI 1) hx hb d_Mo_isBad_129 (by decide +kernel) ?_
              refine g_iadd C0 (z := 409 + 27 * ct + 9 * k + 1) d_Mo_isBad_130 rfl ?_
              refine lv_iload hx hb d_Mo_isBad_131 (lv_at hl 0 rfl) ?_
              refine g_iadd C0 (z := 409 + 27 * ct + 9 * k + 1 + j) d_Mo_isBad_133 rfl ?_
              refine g_iald C0 hK hP.2.1 (by omega) (by omega) d_Mo_isBad_134 ?_
              refine lv_istore (lv' := [(6, .int (nI (S (409 + 27 * ct + 9 * k + 1 + j)))), (5, .int (nI j)), (4, .int (bI b2)), (0, .ref o), (1, .int (nI w)), (2, .int (nI ct)), (3, .int (nI k))]) hx hb d_Mo_isBad_135 hl (by decide) rfl (fun ls hl => ?_)
              refine lv_aload_n hx hb d_Mo_isBad_137 rfl (lv_at hl 3 rfl) ?_
              refine lv_iload_n hx hb d_Mo_isBad_138 rfl (lv_at hl 4 rfl) ?_
              refine lv_iload hx hb d_Mo_isBad_139 (lv_at hl 0 rfl) ?_
              refine g_V C0 (k_Mo_sameAs l G o S sp bf sv iz rr pd ln sts td ac w (S (409 + 27 * ct + 9 * k + 1 + j)) (by omega) (by omega) hM hR) co_Mo_sameAs im_Mo_sameAs se_Mo_sameAs in_Mo gc_Mo_sameAs ml_Mo_103 ⟨Nat.le_of_ble_eq_true rfl, Nat.le_of_ble_eq_true rfl⟩ hK hP.1 rfl ⟨hP.1, hP.2.1, hP.2.2.1, hP.2.2.2.1, hP.2.2.2.2.1, hP.2.2.2.2.2.1, hP.2.2.2.2.2.2.1, hP.2.2.2.2.2.2.2⟩ rfl hl.1 rfl (Nat.le_of_ble_eq_true rfl) d_Mo_isBad_141 ⟨Nat.le_of_ble_eq_true rfl, Nat.le_of_ble_eq_true rfl⟩ (g_r rfl ?_)
              refine lv_istore (lv' := [(7, .int (nI (mSa S rr pd w (S (409 + 27 * ct + 9 * k + 1 + j))))), (6, .int (nI (S (409 + 27 * ct + 9 * k + 1 + j)))), (5, .int (nI j)), (4, .int (bI b2)), (0, .ref o), (1, .int (nI w)), (2, .int (nI ct)), (3, .int (nI k))]) hx hb d_Mo_isBad_144 hl (by decide) rfl (fun ls hl => ?_)
              refine lv_iload hx hb d_Mo_isBad_146 (lv_at hl 0 rfl) ?_
              refine lv_aload_n hx hb d_Mo_isBad_148 rfl (lv_at hl 4 rfl) ?_
              refine g_get C0 hK il_Mo hP.1 rfl 5 (by decide) fl_Mo_26 rfl d_Mo_isBad_149 ?_
              refine lv_iconst (v := nI 2) hx hb d_Mo_isBad_152 (by decide +kernel) ?_
              refine lv_iload_n hx hb d_Mo_isBad_153 rfl (lv_at hl 5 rfl) ?_
              refine g_imul C0 (z := 2 * w) d_Mo_isBad_154 rfl ?_
              refine lv_iconst (v := nI 1) hx hb d_Mo_isBad_155 (by decide +kernel) ?_
              refine g_iadd C0 (z := 2 * w + 1) d_Mo_isBad_156 rfl ?_
              refine g_iald C0 hK hP.2.2.2.2.2.2.1 (by omega) (by omega) d_Mo_isBad_157 ?_
              refine g_cne (tgt := 180) C0 d_Mo_isBad_158 (by decide) (Nat.lt_of_le_of_lt (pfx_le _ _) (by decide)) (by first | omega | exact hM.b (by omega) | exact hR.p (by omega)) (fun c_158 => ?_) (fun c_158 => ?_)
              · skip
                refine lv_iconst (v := nI 0) hx hb d_Mo_isBad_180 (by decide +kernel) ?_
                refine lv_istore (lv' := [(8, .int (nI 0)), (7, .int (nI (mSa S rr pd w (S (409 + 27 * ct + 9 * k + 1 + j))))), (6, .int (nI (S (409 + 27 * ct + 9 * k + 1 + j)))), (5, .int (nI j)), (4, .int (bI b2)), (0, .ref o), (1, .int (nI w)), (2, .int (nI ct)), (3, .int (nI k))]) hx hb d_Mo_isBad_181 hl (by decide) rfl (fun ls hl => ?_)
                refine lv_iload hx hb d_Mo_isBad_183 (lv_at hl 4 rfl) ?_
                refine g_zne (tgt := 204) C0 d_Mo_isBad_185 (by decide) (fun c_185 => ?_) (fun c_185 => ?_)
                · skip
                  refine lv_iconst (v := nI 1) hx hb d_Mo_isBad_204 (by decide +kernel) ?_
                  refine lv_goto (tgt := 209) hx hb d_Mo_isBad_205 (by decide) ?_
                  refine lv_istore (lv' := [(4, .int (nI 1)), (8, .int (nI 0)), (7, .int (nI (mSa S rr pd w (S (409 + 27 * ct + 9 * k + 1 + j))))), (6, .int (nI (S (409 + 27 * ct + 9 * k + 1 + j)))), (5, .int (nI j)), (0, .ref o), (1, .int (nI w)), (2, .int (nI ct)), (3, .int (nI k))]) hx hb d_Mo_isBad_209 hl (by decide) rfl (fun ls hl => ?_)
                  refine lv_iinc (v := (nI (j + 1))) (lv' := [(5, .int (nI (j + 1))), (4, .int (nI 1)), (8, .int (nI 0)), (7, .int (nI (mSa S rr pd w (S (409 + 27 * ct + 9 * k + 1 + j))))), (6, .int (nI (S (409 + 27 * ct + 9 * k + 1 + j)))), (0, .ref o), (1, .int (nI w)), (2, .int (nI ct)), (3, .int (nI k))]) hx hb d_Mo_isBad_211 hl (k := 4) rfl (gI_inc _) (by decide) rfl (fun ls hl => ?_)
                  refine lv_goto (tgt := 105) hx hb d_Mo_isBad_214 (by decide) ?_
                  exact ih105 (j + 1) true (by omega) (by omega) (by rw [aN_s, ← Bool.or_assoc, ← hbc, c_185]; rfl) ls (lv_sub hl [0, 1, 5, 6, 7, 8] rfl)
                · skip
                  refine lv_iload hx hb d_Mo_isBad_188 (lv_at hl 0 rfl) ?_
                  refine lv_if_ne (tgt := 204) hx hb d_Mo_isBad_190 (by decide) (fun c_190 => ?_) (fun c_190 => ?_)
                  · first | exact absurd c_190 (by decide) | exact absurd rfl c_190
                  · skip
                    refine lv_iload hx hb d_Mo_isBad_193 (lv_at hl 1 rfl) ?_
                    refine lv_aload_n hx hb d_Mo_isBad_195 rfl (lv_at hl 5 rfl) ?_
                    refine g_get C0 hK il_Mo hP.1 rfl 0 (by decide) fl_Mo_7 rfl d_Mo_isBad_196 ?_
                    refine lv_iconst (v := nI 2) hx hb d_Mo_isBad_199 (by decide +kernel) ?_
                    refine g_iald C0 hK hP.2.1 (by omega) (by omega) d_Mo_isBad_200 ?_
                    refine g_clt (tgt := 208) C0 d_Mo_isBad_201 (by decide) (Nat.lt_of_le_of_lt (pfx_le _ _) (by decide)) (by first | omega | exact hM.b (by omega) | exact hR.p (by omega)) (fun c_201 => ?_) (fun c_201 => ?_)
                    · skip
                      refine lv_iconst (v := nI 0) hx hb d_Mo_isBad_208 (by decide +kernel) ?_
                      refine lv_istore (lv' := [(4, .int (nI 0)), (8, .int (nI 0)), (7, .int (nI (mSa S rr pd w (S (409 + 27 * ct + 9 * k + 1 + j))))), (6, .int (nI (S (409 + 27 * ct + 9 * k + 1 + j)))), (5, .int (nI j)), (0, .ref o), (1, .int (nI w)), (2, .int (nI ct)), (3, .int (nI k))]) hx hb d_Mo_isBad_209 hl (by decide) rfl (fun ls hl => ?_)
                      refine lv_iinc (v := (nI (j + 1))) (lv' := [(5, .int (nI (j + 1))), (4, .int (nI 0)), (8, .int (nI 0)), (7, .int (nI (mSa S rr pd w (S (409 + 27 * ct + 9 * k + 1 + j))))), (6, .int (nI (S (409 + 27 * ct + 9 * k + 1 + j)))), (0, .ref o), (1, .int (nI w)), (2, .int (nI ct)), (3, .int (nI k))]) hx hb d_Mo_isBad_211 hl (k := 4) rfl (gI_inc _) (by decide) rfl (fun ls hl => ?_)
                      refine lv_goto (tgt := 105) hx hb d_Mo_isBad_214 (by decide) ?_
                      exact ih105 (j + 1) false (by omega) (by omega) (by rw [aN_s, ← Bool.or_assoc, ← hbc, c_185]; unfold mB2; rw [Bool.eq_iff_iff]; simp only [Bool.false_or, Bool.or_eq_true, Bool.and_eq_true, bne_iff_ne, beq_iff_eq, decide_eq_true_eq, ne_eq, true_iff, Bool.false_eq_true, false_iff, eq_self]; omega) ls (lv_sub hl [0, 1, 5, 6, 7, 8] rfl)
                    · skip
                      refine lv_iconst (v := nI 1) hx hb d_Mo_isBad_204 (by decide +kernel) ?_
                      refine lv_goto (tgt := 209) hx hb d_Mo_isBad_205 (by decide) ?_
                      refine lv_istore (lv' := [(4, .int (nI 1)), (8, .int (nI 0)), (7, .int (nI (mSa S rr pd w (S (409 + 27 * ct + 9 * k + 1 + j))))), (6, .int (nI (S (409 + 27 * ct + 9 * k + 1 + j)))), (5, .int (nI j)), (0, .ref o), (1, .int (nI w)), (2, .int (nI ct)), (3, .int (nI k))]) hx hb d_Mo_isBad_209 hl (by decide) rfl (fun ls hl => ?_)
                      refine lv_iinc (v := (nI (j + 1))) (lv' := [(5, .int (nI (j + 1))), (4, .int (nI 1)), (8, .int (nI 0)), (7, .int (nI (mSa S rr pd w (S (409 + 27 * ct + 9 * k + 1 + j))))), (6, .int (nI (S (409 + 27 * ct + 9 * k + 1 + j)))), (0, .ref o), (1, .int (nI w)), (2, .int (nI ct)), (3, .int (nI k))]) hx hb d_Mo_isBad_211 hl (k := 4) rfl (gI_inc _) (by decide) rfl (fun ls hl => ?_)
                      refine lv_goto (tgt := 105) hx hb d_Mo_isBad_214 (by decide) ?_
                      exact ih105 (j + 1) true (by omega) (by omega) (by rw [aN_s, ← Bool.or_assoc, ← hbc, c_185]; unfold mB2; rw [Bool.eq_iff_iff]; simp only [Bool.false_or, Bool.or_eq_true, Bool.and_eq_true, bne_iff_ne, beq_iff_eq, decide_eq_true_eq, ne_eq, true_iff, Bool.false_eq_true, false_iff, eq_self]; omega) ls (lv_sub hl [0, 1, 5, 6, 7, 8] rfl)
              · skip
                refine lv_iload hx hb d_Mo_isBad_161 (lv_at hl 0 rfl) ?_
                refine lv_aload_n hx hb d_Mo_isBad_163 rfl (lv_at hl 4 rfl) ?_
                refine g_get C0 hK il_Mo hP.1 rfl 0 (by decide) fl_Mo_7 rfl d_Mo_isBad_164 ?_
                refine lv_iload hx hb d_Mo_isBad_167 (lv_at hl 1 rfl) ?_
                refine g_S C0 (k_Mo_n l G (S (409 + 27 * ct + 9 * k + 1 + j))) co_Mo_n sm_Mo_n in_Mo gc_Mo_n ml_Mo_57 ⟨Nat.le_of_ble_eq_true rfl, Nat.le_of_ble_eq_true rfl⟩ hK trivial rfl hl.1 rfl (Nat.le_of_ble_eq_true rfl) d_Mo_isBad_169 ⟨Nat.le_of_ble_eq_true rfl, Nat.le_of_ble_eq_true rfl⟩ (g_r rfl ?_)
                refine g_iald C0 hK hP.2.1 (by omega) (by omega) d_Mo_isBad_172 ?_
                refine g_cne (tgt := 180) C0 d_Mo_isBad_173 (by decide) (Nat.lt_of_le_of_lt (pfx_le _ _) (by decide)) (by first | omega | exact hM.b (by omega) | exact hR.p (by omega)) (fun c_173 => ?_) (fun c_173 => ?_)
                · skip
                  refine lv_iconst (v := nI 0) hx hb d_Mo_isBad_180 (by decide +kernel) ?_
                  refine lv_istore (lv' := [(8, .int (nI 0)), (7, .int (nI (mSa S rr pd w (S (409 + 27 * ct + 9 * k + 1 + j))))), (6, .int (nI (S (409 + 27 * ct + 9 * k + 1 + j)))), (5, .int (nI j)), (4, .int (bI b2)), (0, .ref o), (1, .int (nI w)), (2, .int (nI ct)), (3, .int (nI k))]) hx hb d_Mo_isBad_181 hl (by decide) rfl (fun ls hl => ?_)
                  refine lv_iload hx hb d_Mo_isBad_183 (lv_at hl 4 rfl) ?_
                  refine g_zne (tgt := 204) C0 d_Mo_isBad_185 (by decide) (fun c_185 => ?_) (fun c_185 => ?_)
                  · skip
                    refine lv_iconst (v := nI 1) hx hb d_Mo_isBad_204 (by decide +kernel) ?_
                    refine lv_goto (tgt := 209) hx hb d_Mo_isBad_205 (by decide) ?_
                    refine lv_istore (lv' := [(4, .int (nI 1)), (8, .int (nI 0)), (7, .int (nI (mSa S rr pd w (S (409 + 27 * ct + 9 * k + 1 + j))))), (6, .int (nI (S (409 + 27 * ct + 9 * k + 1 + j)))), (5, .int (nI j)), (0, .ref o), (1, .int (nI w)), (2, .int (nI ct)), (3, .int (nI k))]) hx hb d_Mo_isBad_209 hl (by decide) rfl (fun ls hl => ?_)
                    refine lv_iinc (v := (nI (j + 1))) (lv' := [(5, .int (nI (j + 1))), (4, .int (nI 1)), (8, .int (nI 0)), (7, .int (nI (mSa S rr pd w (S (409 + 27 * ct + 9 * k + 1 + j))))), (6, .int (nI (S (409 + 27 * ct + 9 * k + 1 + j)))), (0, .ref o), (1, .int (nI w)), (2, .int (nI ct)), (3, .int (nI k))]) hx hb d_Mo_isBad_211 hl (k := 4) rfl (gI_inc _) (by decide) rfl (fun ls hl => ?_)
                    refine lv_goto (tgt := 105) hx hb d_Mo_isBad_214 (by decide) ?_
                    exact ih105 (j + 1) true (by omega) (by omega) (by rw [aN_s, ← Bool.or_assoc, ← hbc, c_185]; rfl) ls (lv_sub hl [0, 1, 5, 6, 7, 8] rfl)
                  · skip
                    refine lv_iload hx hb d_Mo_isBad_188 (lv_at hl 0 rfl) ?_
                    refine lv_if_ne (tgt := 204) hx hb d_Mo_isBad_190 (by decide) (fun c_190 => ?_) (fun c_190 => ?_)
                    · first | exact absurd c_190 (by decide) | exact absurd rfl c_190
                    · skip
                      refine lv_iload hx hb d_Mo_isBad_193 (lv_at hl 1 rfl) ?_
                      refine lv_aload_n hx hb d_Mo_isBad_195 rfl (lv_at hl 5 rfl) ?_
                      refine g_get C0 hK il_Mo hP.1 rfl 0 (by decide) fl_Mo_7 rfl d_Mo_isBad_196 ?_
                      refine lv_iconst (v := nI 2) hx hb d_Mo_isBad_199 (by decide +kernel) ?_
                      refine g_iald C0 hK hP.2.1 (by omega) (by omega) d_Mo_isBad_200 ?_
                      refine g_clt (tgt := 208) C0 d_Mo_isBad_201 (by decide) (Nat.lt_of_le_of_lt (pfx_le _ _) (by decide)) (by first | omega | exact hM.b (by omega) | exact hR.p (by omega)) (fun c_201 => ?_) (fun c_201 => ?_)
                      · skip
                        refine lv_iconst (v := nI 0) hx hb d_Mo_isBad_208 (by decide +kernel) ?_
                        refine lv_istore (lv' := [(4, .int (nI 0)), (8, .int (nI 0)), (7, .int (nI (mSa S rr pd w (S (409 + 27 * ct + 9 * k + 1 + j))))), (6, .int (nI (S (409 + 27 * ct + 9 * k + 1 + j)))), (5, .int (nI j)), (0, .ref o), (1, .int (nI w)), (2, .int (nI ct)), (3, .int (nI k))]) hx hb d_Mo_isBad_209 hl (by decide) rfl (fun ls hl => ?_)
                        refine lv_iinc (v := (nI (j + 1))) (lv' := [(5, .int (nI (j + 1))), (4, .int (nI 0)), (8, .int (nI 0)), (7, .int (nI (mSa S rr pd w (S (409 + 27 * ct + 9 * k + 1 + j))))), (6, .int (nI (S (409 + 27 * ct + 9 * k + 1 + j)))), (0, .ref o), (1, .int (nI w)), (2, .int (nI ct)), (3, .int (nI k))]) hx hb d_Mo_isBad_211 hl (k := 4) rfl (gI_inc _) (by decide) rfl (fun ls hl => ?_)
                        refine lv_goto (tgt := 105) hx hb d_Mo_isBad_214 (by decide) ?_
                        exact ih105 (j + 1) false (by omega) (by omega) (by rw [aN_s, ← Bool.or_assoc, ← hbc, c_185]; unfold mB2; rw [Bool.eq_iff_iff]; simp only [Bool.false_or, Bool.or_eq_true, Bool.and_eq_true, bne_iff_ne, beq_iff_eq, decide_eq_true_eq, ne_eq, true_iff, Bool.false_eq_true, false_iff, eq_self]; omega) ls (lv_sub hl [0, 1, 5, 6, 7, 8] rfl)
                      · skip
                        refine lv_iconst (v := nI 1) hx hb d_Mo_isBad_204 (by decide +kernel) ?_
                        refine lv_goto (tgt := 209) hx hb d_Mo_isBad_205 (by decide) ?_
                        refine lv_istore (lv' := [(4, .int (nI 1)), (8, .int (nI 0)), (7, .int (nI (mSa S rr pd w (S (409 + 27 * ct + 9 * k + 1 + j))))), (6, .int (nI (S (409 + 27 * ct + 9 * k + 1 + j)))), (5, .int (nI j)), (0, .ref o), (1, .int (nI w)), (2, .int (nI ct)), (3, .int (nI k))]) hx hb d_Mo_isBad_209 hl (by decide) rfl (fun ls hl => ?_)
                        refine lv_iinc (v := (nI (j + 1))) (lv' := [(5, .int (nI (j + 1))), (4, .int (nI 1)), (8, .int (nI 0)), (7, .int (nI (mSa S rr pd w (S (409 + 27 * ct + 9 * k + 1 + j))))), (6, .int (nI (S (409 + 27 * ct + 9 * k + 1 + j)))), (0, .ref o), (1, .int (nI w)), (2, .int (nI ct)), (3, .int (nI k))]) hx hb d_Mo_isBad_211 hl (k := 4) rfl (gI_inc _) (by decide) rfl (fun ls hl => ?_)
                        refine lv_goto (tgt := 105) hx hb d_Mo_isBad_214 (by decide) ?_
                        exact ih105 (j + 1) true (by omega) (by omega) (by rw [aN_s, ← Bool.or_assoc, ← hbc, c_185]; unfold mB2; rw [Bool.eq_iff_iff]; simp only [Bool.false_or, Bool.or_eq_true, Bool.and_eq_true, bne_iff_ne, beq_iff_eq, decide_eq_true_eq, ne_eq, true_iff, Bool.false_eq_true, false_iff, eq_self]; omega) ls (lv_sub hl [0, 1, 5, 6, 7, 8] rfl)
                · skip
                  refine lv_iconst (v := nI 1) hx hb d_Mo_isBad_176 (by decide +kernel) ?_
                  refine lv_goto (tgt := 181) hx hb d_Mo_isBad_177 (by decide) ?_
                  refine lv_istore (lv' := [(8, .int (nI 1)), (7, .int (nI (mSa S rr pd w (S (409 + 27 * ct + 9 * k + 1 + j))))), (6, .int (nI (S (409 + 27 * ct + 9 * k + 1 + j)))), (5, .int (nI j)), (4, .int (bI b2)), (0, .ref o), (1, .int (nI w)), (2, .int (nI ct)), (3, .int (nI k))]) hx hb d_Mo_isBad_181 hl (by decide) rfl (fun ls hl => ?_)
                  refine lv_iload hx hb d_Mo_isBad_183 (lv_at hl 4 rfl) ?_
                  refine g_zne (tgt := 204) C0 d_Mo_isBad_185 (by decide) (fun c_185 => ?_) (fun c_185 => ?_)
                  · skip
                    refine lv_iconst (v := nI 1) hx hb d_Mo_isBad_204 (by decide +kernel) ?_
                    refine lv_goto (tgt := 209) hx hb d_Mo_isBad_205 (by decide) ?_
                    refine lv_istore (lv' := [(4, .int (nI 1)), (8, .int (nI 1)), (7, .int (nI (mSa S rr pd w (S (409 + 27 * ct + 9 * k + 1 + j))))), (6, .int (nI (S (409 + 27 * ct + 9 * k + 1 + j)))), (5, .int (nI j)), (0, .ref o), (1, .int (nI w)), (2, .int (nI ct)), (3, .int (nI k))]) hx hb d_Mo_isBad_209 hl (by decide) rfl (fun ls hl => ?_)
                    refine lv_iinc (v := (nI (j + 1))) (lv' := [(5, .int (nI (j + 1))), (4, .int (nI 1)), (8, .int (nI 1)), (7, .int (nI (mSa S rr pd w (S (409 + 27 * ct + 9 * k + 1 + j))))), (6, .int (nI (S (409 + 27 * ct + 9 * k + 1 + j)))), (0, .ref o), (1, .int (nI w)), (2, .int (nI ct)), (3, .int (nI k))]) hx hb d_Mo_isBad_211 hl (k := 4) rfl (gI_inc _) (by decide) rfl (fun ls hl => ?_)
                    refine lv_goto (tgt := 105) hx hb d_Mo_isBad_214 (by decide) ?_
                    exact ih105 (j + 1) true (by omega) (by omega) (by rw [aN_s, ← Bool.or_assoc, ← hbc, c_185]; rfl) ls (lv_sub hl [0, 1, 5, 6, 7, 8] rfl)
                  · skip
                    refine lv_iload hx hb d_Mo_isBad_188 (lv_at hl 0 rfl) ?_
                    refine lv_if_ne (tgt := 204) hx hb d_Mo_isBad_190 (by decide) (fun c_190 => ?_) (fun c_190 => ?_)
                    · skip
                      refine lv_iconst (v := nI 1) hx hb d_Mo_isBad_204 (by decide +kernel) ?_
                      refine lv_goto (tgt := 209) hx hb d_Mo_isBad_205 (by decide) ?_
                      refine lv_istore (lv' := [(4, .int (nI 1)), (8, .int (nI 1)), (7, .int (nI (mSa S rr pd w (S (409 + 27 * ct + 9 * k + 1 + j))))), (6, .int (nI (S (409 + 27 * ct + 9 * k + 1 + j)))), (5, .int (nI j)), (0, .ref o), (1, .int (nI w)), (2, .int (nI ct)), (3, .int (nI k))]) hx hb d_Mo_isBad_209 hl (by decide) rfl (fun ls hl => ?_)
                      refine lv_iinc (v := (nI (j + 1))) (lv' := [(5, .int (nI (j + 1))), (4, .int (nI 1)), (8, .int (nI 1)), (7, .int (nI (mSa S rr pd w (S (409 + 27 * ct + 9 * k + 1 + j))))), (6, .int (nI (S (409 + 27 * ct + 9 * k + 1 + j)))), (0, .ref o), (1, .int (nI w)), (2, .int (nI ct)), (3, .int (nI k))]) hx hb d_Mo_isBad_211 hl (k := 4) rfl (gI_inc _) (by decide) rfl (fun ls hl => ?_)
                      refine lv_goto (tgt := 105) hx hb d_Mo_isBad_214 (by decide) ?_
                      exact ih105 (j + 1) true (by omega) (by omega) (by rw [aN_s, ← Bool.or_assoc, ← hbc, c_185]; unfold mB2; rw [Bool.eq_iff_iff]; simp only [Bool.false_or, Bool.or_eq_true, Bool.and_eq_true, bne_iff_ne, beq_iff_eq, decide_eq_true_eq, ne_eq, true_iff, Bool.false_eq_true, false_iff, eq_self]; omega) ls (lv_sub hl [0, 1, 5, 6, 7, 8] rfl)
                    · first | exact absurd c_190 (by decide) | exact absurd rfl c_190
        exact lp105 ((S (409 + 27 * ct + 9 * k) - 0) + 1) 0 b (by omega) (by omega) (by rw [hbb, show v = td by omega]; exact (Bool.or_false _).symm) ls (lv_sub hl [0, 1, 2, 3, 4, 5] rfl)
      · skip
        have hva := hR.a (w := v) (by omega)
        have hvl := hR.l (w := v) (by omega)
        refine lv_aload_n hx hb d_Mo_isBad_15 rfl (lv_at hl 2 rfl) ?_
        refine lv_iload_n hx hb d_Mo_isBad_16 rfl (lv_at hl 3 rfl) ?_
        refine lv_iload hx hb d_Mo_isBad_17 (lv_at hl 0 rfl) ?_
        refine g_V C0 (k_Mo_samePad l G o S sp bf sv iz rr pd ln sts td ac w v (by omega) (by omega) hR) co_Mo_samePad im_Mo_samePad se_Mo_samePad in_Mo gc_Mo_samePad ml_Mo_100 ⟨Nat.le_of_ble_eq_true rfl, Nat.le_of_ble_eq_true rfl⟩ hK hP.1 rfl ⟨hP.1, hP.2.1, hP.2.2.1, hP.2.2.2.1, hP.2.2.2.2.1, hP.2.2.2.2.2.1, hP.2.2.2.2.2.2.1, hP.2.2.2.2.2.2.2⟩ rfl hl.1 rfl (Nat.le_of_ble_eq_true rfl) d_Mo_isBad_19 ⟨Nat.le_of_ble_eq_true rfl, Nat.le_of_ble_eq_true rfl⟩ (g_r rfl ?_)
        refine lv_istore (lv' := [(6, .int (nI (mSp rr pd w v))), (5, .int (nI v)), (4, .int (bI b)), (0, .ref o), (1, .int (nI w)), (2, .int (nI ct)), (3, .int (nI k))]) hx hb d_Mo_isBad_22 hl (by decide) rfl (fun ls hl => ?_)
        refine lv_iload hx hb d_Mo_isBad_24 (lv_at hl 0 rfl) ?_
        refine lv_aload_n hx hb d_Mo_isBad_26 rfl (lv_at hl 3 rfl) ?_
        refine g_get C0 hK il_Mo hP.1 rfl 5 (by decide) fl_Mo_26 rfl d_Mo_isBad_27 ?_
        refine lv_iconst (v := nI 2) hx hb d_Mo_isBad_30 (by decide +kernel) ?_
        refine lv_iload_n hx hb d_Mo_isBad_31 rfl (lv_at hl 4 rfl) ?_
        refine g_imul C0 (z := 2 * w) d_Mo_isBad_32 rfl ?_
        refine lv_iconst (v := nI 1) hx hb d_Mo_isBad_33 (by decide +kernel) ?_
        refine g_iadd C0 (z := 2 * w + 1) d_Mo_isBad_34 rfl ?_
        refine g_iald C0 hK hP.2.2.2.2.2.2.1 (by omega) (by omega) d_Mo_isBad_35 ?_
        refine g_cne (tgt := 59) C0 d_Mo_isBad_36 (by decide) (Nat.lt_of_le_of_lt (pfx_le _ _) (by decide)) (by first | omega | exact hM.b (by omega) | exact hR.p (by omega)) (fun c_36 => ?_) (fun c_36 => ?_)
        · skip
          refine lv_iconst (v := nI 0) hx hb d_Mo_isBad_59 (by decide +kernel) ?_
          refine lv_istore (lv' := [(7, .int (nI 0)), (6, .int (nI (mSp rr pd w v))), (5, .int (nI v)), (4, .int (bI b)), (0, .ref o), (1, .int (nI w)), (2, .int (nI ct)), (3, .int (nI k))]) hx hb d_Mo_isBad_60 hl (by decide) rfl (fun ls hl => ?_)
          refine lv_iload hx hb d_Mo_isBad_62 (lv_at hl 3 rfl) ?_
          refine g_zne (tgt := 89) C0 d_Mo_isBad_64 (by decide) (fun c_64 => ?_) (fun c_64 => ?_)
          · skip
            refine lv_iconst (v := nI 1) hx hb d_Mo_isBad_89 (by decide +kernel) ?_
            refine lv_goto (tgt := 94) hx hb d_Mo_isBad_90 (by decide) ?_
            refine lv_istore (lv' := [(4, .int (nI 1)), (7, .int (nI 0)), (6, .int (nI (mSp rr pd w v))), (5, .int (nI v)), (0, .ref o), (1, .int (nI w)), (2, .int (nI ct)), (3, .int (nI k))]) hx hb d_Mo_isBad_94 hl (by decide) rfl (fun ls hl => ?_)
            refine lv_iinc (v := (nI (v + 1))) (lv' := [(5, .int (nI (v + 1))), (4, .int (nI 1)), (7, .int (nI 0)), (6, .int (nI (mSp rr pd w v))), (0, .ref o), (1, .int (nI w)), (2, .int (nI ct)), (3, .int (nI k))]) hx hb d_Mo_isBad_96 hl (k := 3) rfl (gI_inc _) (by decide) rfl (fun ls hl => ?_)
            refine lv_goto (tgt := 6) hx hb d_Mo_isBad_99 (by decide) ?_
            exact ih6 (v + 1) true (by omega) (by omega) (by rw [aN_s, ← hbb, c_64]; rfl) ls (lv_sub hl [0, 1, 4, 5, 6, 7] rfl)
          · skip
            refine lv_iload hx hb d_Mo_isBad_67 (lv_at hl 2 rfl) ?_
            refine lv_iload_n hx hb d_Mo_isBad_69 rfl (lv_at hl 5 rfl) ?_
            refine g_ceq (tgt := 93) C0 d_Mo_isBad_70 (by decide) (by first | omega | exact hM.b (by omega) | exact hR.p (by omega)) (by first | omega | exact hM.b (by omega) | exact hR.p (by omega)) (fun c_70 => ?_) (fun c_70 => ?_)
            · skip
              refine lv_iconst (v := nI 0) hx hb d_Mo_isBad_93 (by decide +kernel) ?_
              refine lv_istore (lv' := [(4, .int (nI 0)), (7, .int (nI 0)), (6, .int (nI (mSp rr pd w v))), (5, .int (nI v)), (0, .ref o), (1, .int (nI w)), (2, .int (nI ct)), (3, .int (nI k))]) hx hb d_Mo_isBad_94 hl (by decide) rfl (fun ls hl => ?_)
              refine lv_iinc (v := (nI (v + 1))) (lv' := [(5, .int (nI (v + 1))), (4, .int (nI 0)), (7, .int (nI 0)), (6, .int (nI (mSp rr pd w v))), (0, .ref o), (1, .int (nI w)), (2, .int (nI ct)), (3, .int (nI k))]) hx hb d_Mo_isBad_96 hl (k := 3) rfl (gI_inc _) (by decide) rfl (fun ls hl => ?_)
              refine lv_goto (tgt := 6) hx hb d_Mo_isBad_99 (by decide) ?_
              exact ih6 (v + 1) false (by omega) (by omega) (by rw [aN_s, ← hbb, c_64]; unfold mB1; rw [Bool.eq_iff_iff]; simp only [Bool.false_or, Bool.or_eq_true, Bool.and_eq_true, bne_iff_ne, beq_iff_eq, decide_eq_true_eq, ne_eq, true_iff, Bool.false_eq_true, false_iff, eq_self]; omega) ls (lv_sub hl [0, 1, 4, 5, 6, 7] rfl)
            · skip
              refine lv_iload hx hb d_Mo_isBad_73 (lv_at hl 0 rfl) ?_
              refine lv_if_ne (tgt := 89) hx hb d_Mo_isBad_75 (by decide) (fun c_75 => ?_) (fun c_75 => ?_)
              · first | exact absurd c_75 (by decide) | exact absurd rfl c_75
              · skip
                refine lv_iload hx hb d_Mo_isBad_78 (lv_at hl 1 rfl) ?_
                refine lv_aload_n hx hb d_Mo_isBad_80 rfl (lv_at hl 4 rfl) ?_
                refine g_get C0 hK il_Mo hP.1 rfl 0 (by decide) fl_Mo_7 rfl d_Mo_isBad_81 ?_
                refine lv_iconst (v := nI 2) hx hb d_Mo_isBad_84 (by decide +kernel) ?_
                refine g_iald C0 hK hP.2.1 (by omega) (by omega) d_Mo_isBad_85 ?_
                refine g_clt (tgt := 93) C0 d_Mo_isBad_86 (by decide) (Nat.lt_of_le_of_lt (pfx_le _ _) (by decide)) (by first | omega | exact hM.b (by omega) | exact hR.p (by omega)) (fun c_86 => ?_) (fun c_86 => ?_)
                · skip
                  refine lv_iconst (v := nI 0) hx hb d_Mo_isBad_93 (by decide +kernel) ?_
                  refine lv_istore (lv' := [(4, .int (nI 0)), (7, .int (nI 0)), (6, .int (nI (mSp rr pd w v))), (5, .int (nI v)), (0, .ref o), (1, .int (nI w)), (2, .int (nI ct)), (3, .int (nI k))]) hx hb d_Mo_isBad_94 hl (by decide) rfl (fun ls hl => ?_)
                  refine lv_iinc (v := (nI (v + 1))) (lv' := [(5, .int (nI (v + 1))), (4, .int (nI 0)), (7, .int (nI 0)), (6, .int (nI (mSp rr pd w v))), (0, .ref o), (1, .int (nI w)), (2, .int (nI ct)), (3, .int (nI k))]) hx hb d_Mo_isBad_96 hl (k := 3) rfl (gI_inc _) (by decide) rfl (fun ls hl => ?_)
                  refine lv_goto (tgt := 6) hx hb d_Mo_isBad_99 (by decide) ?_
                  exact ih6 (v + 1) false (by omega) (by omega) (by rw [aN_s, ← hbb, c_64]; unfold mB1; rw [Bool.eq_iff_iff]; simp only [Bool.false_or, Bool.or_eq_true, Bool.and_eq_true, bne_iff_ne, beq_iff_eq, decide_eq_true_eq, ne_eq, true_iff, Bool.false_eq_true, false_iff, eq_self]; omega) ls (lv_sub hl [0, 1, 4, 5, 6, 7] rfl)
                · skip
                  refine lv_iconst (v := nI 1) hx hb d_Mo_isBad_89 (by decide +kernel) ?_
                  refine lv_goto (tgt := 94) hx hb d_Mo_isBad_90 (by decide) ?_
                  refine lv_istore (lv' := [(4, .int (nI 1)), (7, .int (nI 0)), (6, .int (nI (mSp rr pd w v))), (5, .int (nI v)), (0, .ref o), (1, .int (nI w)), (2, .int (nI ct)), (3, .int (nI k))]) hx hb d_Mo_isBad_94 hl (by decide) rfl (fun ls hl => ?_)
                  refine lv_iinc (v := (nI (v + 1))) (lv' := [(5, .int (nI (v + 1))), (4, .int (nI 1)), (7, .int (nI 0)), (6, .int (nI (mSp rr pd w v))), (0, .ref o), (1, .int (nI w)), (2, .int (nI ct)), (3, .int (nI k))]) hx hb d_Mo_isBad_96 hl (k := 3) rfl (gI_inc _) (by decide) rfl (fun ls hl => ?_)
                  refine lv_goto (tgt := 6) hx hb d_Mo_isBad_99 (by decide) ?_
                  exact ih6 (v + 1) true (by omega) (by omega) (by rw [aN_s, ← hbb, c_64]; unfold mB1; rw [Bool.eq_iff_iff]; simp only [Bool.false_or, Bool.or_eq_true, Bool.and_eq_true, bne_iff_ne, beq_iff_eq, decide_eq_true_eq, ne_eq, true_iff, Bool.false_eq_true, false_iff, eq_self]; omega) ls (lv_sub hl [0, 1, 4, 5, 6, 7] rfl)
        · skip
          refine lv_iload hx hb d_Mo_isBad_39 (lv_at hl 0 rfl) ?_
          refine lv_aload_n hx hb d_Mo_isBad_41 rfl (lv_at hl 3 rfl) ?_
          refine g_get C0 hK il_Mo hP.1 rfl 5 (by decide) fl_Mo_26 rfl d_Mo_isBad_42 ?_
          refine lv_iconst (v := nI 2) hx hb d_Mo_isBad_45 (by decide +kernel) ?_
          refine lv_iload hx hb d_Mo_isBad_46 (lv_at hl 1 rfl) ?_
          refine g_imul C0 (z := 2 * v) d_Mo_isBad_48 rfl ?_
          refine lv_iconst (v := nI 1) hx hb d_Mo_isBad_49 (by decide +kernel) ?_
          refine g_iadd C0 (z := 2 * v + 1) d_Mo_isBad_50 rfl ?_
          refine g_iald C0 hK hP.2.2.2.2.2.2.1 (by omega) (by omega) d_Mo_isBad_51 ?_
          refine g_cne (tgt := 59) C0 d_Mo_isBad_52 (by decide) (Nat.lt_of_le_of_lt (pfx_le _ _) (by decide)) (by first | omega | exact hM.b (by omega) | exact hR.p (by omega)) (fun c_52 => ?_) (fun c_52 => ?_)
          · skip
            refine lv_iconst (v := nI 0) hx hb d_Mo_isBad_59 (by decide +kernel) ?_
            refine lv_istore (lv' := [(7, .int (nI 0)), (6, .int (nI (mSp rr pd w v))), (5, .int (nI v)), (4, .int (bI b)), (0, .ref o), (1, .int (nI w)), (2, .int (nI ct)), (3, .int (nI k))]) hx hb d_Mo_isBad_60 hl (by decide) rfl (fun ls hl => ?_)
            refine lv_iload hx hb d_Mo_isBad_62 (lv_at hl 3 rfl) ?_
            refine g_zne (tgt := 89) C0 d_Mo_isBad_64 (by decide) (fun c_64 => ?_) (fun c_64 => ?_)
            · skip
              refine lv_iconst (v := nI 1) hx hb d_Mo_isBad_89 (by decide +kernel) ?_
              refine lv_goto (tgt := 94) hx hb d_Mo_isBad_90 (by decide) ?_
              refine lv_istore (lv' := [(4, .int (nI 1)), (7, .int (nI 0)), (6, .int (nI (mSp rr pd w v))), (5, .int (nI v)), (0, .ref o), (1, .int (nI w)), (2, .int (nI ct)), (3, .int (nI k))]) hx hb d_Mo_isBad_94 hl (by decide) rfl (fun ls hl => ?_)
              refine lv_iinc (v := (nI (v + 1))) (lv' := [(5, .int (nI (v + 1))), (4, .int (nI 1)), (7, .int (nI 0)), (6, .int (nI (mSp rr pd w v))), (0, .ref o), (1, .int (nI w)), (2, .int (nI ct)), (3, .int (nI k))]) hx hb d_Mo_isBad_96 hl (k := 3) rfl (gI_inc _) (by decide) rfl (fun ls hl => ?_)
              refine lv_goto (tgt := 6) hx hb d_Mo_isBad_99 (by decide) ?_
              exact ih6 (v + 1) true (by omega) (by omega) (by rw [aN_s, ← hbb, c_64]; rfl) ls (lv_sub hl [0, 1, 4, 5, 6, 7] rfl)
            · skip
              refine lv_iload hx hb d_Mo_isBad_67 (lv_at hl 2 rfl) ?_
              refine lv_iload_n hx hb d_Mo_isBad_69 rfl (lv_at hl 5 rfl) ?_
              refine g_ceq (tgt := 93) C0 d_Mo_isBad_70 (by decide) (by first | omega | exact hM.b (by omega) | exact hR.p (by omega)) (by first | omega | exact hM.b (by omega) | exact hR.p (by omega)) (fun c_70 => ?_) (fun c_70 => ?_)
              · skip
                refine lv_iconst (v := nI 0) hx hb d_Mo_isBad_93 (by decide +kernel) ?_
                refine lv_istore (lv' := [(4, .int (nI 0)), (7, .int (nI 0)), (6, .int (nI (mSp rr pd w v))), (5, .int (nI v)), (0, .ref o), (1, .int (nI w)), (2, .int (nI ct)), (3, .int (nI k))]) hx hb d_Mo_isBad_94 hl (by decide) rfl (fun ls hl => ?_)
                refine lv_iinc (v := (nI (v + 1))) (lv' := [(5, .int (nI (v + 1))), (4, .int (nI 0)), (7, .int (nI 0)), (6, .int (nI (mSp rr pd w v))), (0, .ref o), (1, .int (nI w)), (2, .int (nI ct)), (3, .int (nI k))]) hx hb d_Mo_isBad_96 hl (k := 3) rfl (gI_inc _) (by decide) rfl (fun ls hl => ?_)
                refine lv_goto (tgt := 6) hx hb d_Mo_isBad_99 (by decide) ?_
                exact ih6 (v + 1) false (by omega) (by omega) (by rw [aN_s, ← hbb, c_64]; unfold mB1; rw [Bool.eq_iff_iff]; simp only [Bool.false_or, Bool.or_eq_true, Bool.and_eq_true, bne_iff_ne, beq_iff_eq, decide_eq_true_eq, ne_eq, true_iff, Bool.false_eq_true, false_iff, eq_self]; omega) ls (lv_sub hl [0, 1, 4, 5, 6, 7] rfl)
              · skip
                refine lv_iload hx hb d_Mo_isBad_73 (lv_at hl 0 rfl) ?_
                refine lv_if_ne (tgt := 89) hx hb d_Mo_isBad_75 (by decide) (fun c_75 => ?_) (fun c_75 => ?_)
                · first | exact absurd c_75 (by decide) | exact absurd rfl c_75
                · skip
                  refine lv_iload hx hb d_Mo_isBad_78 (lv_at hl 1 rfl) ?_
                  refine lv_aload_n hx hb d_Mo_isBad_80 rfl (lv_at hl 4 rfl) ?_
                  refine g_get C0 hK il_Mo hP.1 rfl 0 (by decide) fl_Mo_7 rfl d_Mo_isBad_81 ?_
                  refine lv_iconst (v := nI 2) hx hb d_Mo_isBad_84 (by decide +kernel) ?_
                  refine g_iald C0 hK hP.2.1 (by omega) (by omega) d_Mo_isBad_85 ?_
                  refine g_clt (tgt := 93) C0 d_Mo_isBad_86 (by decide) (Nat.lt_of_le_of_lt (pfx_le _ _) (by decide)) (by first | omega | exact hM.b (by omega) | exact hR.p (by omega)) (fun c_86 => ?_) (fun c_86 => ?_)
                  · skip
                    refine lv_iconst (v := nI 0) hx hb d_Mo_isBad_93 (by decide +kernel) ?_
                    refine lv_istore (lv' := [(4, .int (nI 0)), (7, .int (nI 0)), (6, .int (nI (mSp rr pd w v))), (5, .int (nI v)), (0, .ref o), (1, .int (nI w)), (2, .int (nI ct)), (3, .int (nI k))]) hx hb d_Mo_isBad_94 hl (by decide) rfl (fun ls hl => ?_)
                    refine lv_iinc (v := (nI (v + 1))) (lv' := [(5, .int (nI (v + 1))), (4, .int (nI 0)), (7, .int (nI 0)), (6, .int (nI (mSp rr pd w v))), (0, .ref o), (1, .int (nI w)), (2, .int (nI ct)), (3, .int (nI k))]) hx hb d_Mo_isBad_96 hl (k := 3) rfl (gI_inc _) (by decide) rfl (fun ls hl => ?_)
                    refine lv_goto (tgt := 6) hx hb d_Mo_isBad_99 (by decide) ?_
                    exact ih6 (v + 1) false (by omega) (by omega) (by rw [aN_s, ← hbb, c_64]; unfold mB1; rw [Bool.eq_iff_iff]; simp only [Bool.false_or, Bool.or_eq_true, Bool.and_eq_true, bne_iff_ne, beq_iff_eq, decide_eq_true_eq, ne_eq, true_iff, Bool.false_eq_true, false_iff, eq_self]; omega) ls (lv_sub hl [0, 1, 4, 5, 6, 7] rfl)
                  · skip
                    refine lv_iconst (v := nI 1) hx hb d_Mo_isBad_89 (by decide +kernel) ?_
                    refine lv_goto (tgt := 94) hx hb d_Mo_isBad_90 (by decide) ?_
                    refine lv_istore (lv' := [(4, .int (nI 1)), (7, .int (nI 0)), (6, .int (nI (mSp rr pd w v))), (5, .int (nI v)), (0, .ref o), (1, .int (nI w)), (2, .int (nI ct)), (3, .int (nI k))]) hx hb d_Mo_isBad_94 hl (by decide) rfl (fun ls hl => ?_)
                    refine lv_iinc (v := (nI (v + 1))) (lv' := [(5, .int (nI (v + 1))), (4, .int (nI 1)), (7, .int (nI 0)), (6, .int (nI (mSp rr pd w v))), (0, .ref o), (1, .int (nI w)), (2, .int (nI ct)), (3, .int (nI k))]) hx hb d_Mo_isBad_96 hl (k := 3) rfl (gI_inc _) (by decide) rfl (fun ls hl => ?_)
                    refine lv_goto (tgt := 6) hx hb d_Mo_isBad_99 (by decide) ?_
                    exact ih6 (v + 1) true (by omega) (by omega) (by rw [aN_s, ← hbb, c_64]; unfold mB1; rw [Bool.eq_iff_iff]; simp only [Bool.false_or, Bool.or_eq_true, Bool.and_eq_true, bne_iff_ne, beq_iff_eq, decide_eq_true_eq, ne_eq, true_iff, Bool.false_eq_true, false_iff, eq_self]; omega) ls (lv_sub hl [0, 1, 4, 5, 6, 7] rfl)
          · skip
            refine lv_iconst (v := nI 1) hx hb d_Mo_isBad_55 (by decide +kernel) ?_
            refine lv_goto (tgt := 60) hx hb d_Mo_isBad_56 (by decide) ?_
            refine lv_istore (lv' := [(7, .int (nI 1)), (6, .int (nI (mSp rr pd w v))), (5, .int (nI v)), (4, .int (bI b)), (0, .ref o), (1, .int (nI w)), (2, .int (nI ct)), (3, .int (nI k))]) hx hb d_Mo_isBad_60 hl (by decide) rfl (fun ls hl => ?_)
            refine lv_iload hx hb d_Mo_isBad_62 (lv_at hl 3 rfl) ?_
            refine g_zne (tgt := 89) C0 d_Mo_isBad_64 (by decide) (fun c_64 => ?_) (fun c_64 => ?_)
            · skip
              refine lv_iconst (v := nI 1) hx hb d_Mo_isBad_89 (by decide +kernel) ?_
              refine lv_goto (tgt := 94) hx hb d_Mo_isBad_90 (by decide) ?_
              refine lv_istore (lv' := [(4, .int (nI 1)), (7, .int (nI 1)), (6, .int (nI (mSp rr pd w v))), (5, .int (nI v)), (0, .ref o), (1, .int (nI w)), (2, .int (nI ct)), (3, .int (nI k))]) hx hb d_Mo_isBad_94 hl (by decide) rfl (fun ls hl => ?_)
              refine lv_iinc (v := (nI (v + 1))) (lv' := [(5, .int (nI (v + 1))), (4, .int (nI 1)), (7, .int (nI 1)), (6, .int (nI (mSp rr pd w v))), (0, .ref o), (1, .int (nI w)), (2, .int (nI ct)), (3, .int (nI k))]) hx hb d_Mo_isBad_96 hl (k := 3) rfl (gI_inc _) (by decide) rfl (fun ls hl => ?_)
              refine lv_goto (tgt := 6) hx hb d_Mo_isBad_99 (by decide) ?_
              exact ih6 (v + 1) true (by omega) (by omega) (by rw [aN_s, ← hbb, c_64]; rfl) ls (lv_sub hl [0, 1, 4, 5, 6, 7] rfl)
            · skip
              refine lv_iload hx hb d_Mo_isBad_67 (lv_at hl 2 rfl) ?_
              refine lv_iload_n hx hb d_Mo_isBad_69 rfl (lv_at hl 5 rfl) ?_
              refine g_ceq (tgt := 93) C0 d_Mo_isBad_70 (by decide) (by first | omega | exact hM.b (by omega) | exact hR.p (by omega)) (by first | omega | exact hM.b (by omega) | exact hR.p (by omega)) (fun c_70 => ?_) (fun c_70 => ?_)
              · skip
                refine lv_iconst (v := nI 0) hx hb d_Mo_isBad_93 (by decide +kernel) ?_
                refine lv_istore (lv' := [(4, .int (nI 0)), (7, .int (nI 1)), (6, .int (nI (mSp rr pd w v))), (5, .int (nI v)), (0, .ref o), (1, .int (nI w)), (2, .int (nI ct)), (3, .int (nI k))]) hx hb d_Mo_isBad_94 hl (by decide) rfl (fun ls hl => ?_)
                refine lv_iinc (v := (nI (v + 1))) (lv' := [(5, .int (nI (v + 1))), (4, .int (nI 0)), (7, .int (nI 1)), (6, .int (nI (mSp rr pd w v))), (0, .ref o), (1, .int (nI w)), (2, .int (nI ct)), (3, .int (nI k))]) hx hb d_Mo_isBad_96 hl (k := 3) rfl (gI_inc _) (by decide) rfl (fun ls hl => ?_)
                refine lv_goto (tgt := 6) hx hb d_Mo_isBad_99 (by decide) ?_
                exact ih6 (v + 1) false (by omega) (by omega) (by rw [aN_s, ← hbb, c_64]; unfold mB1; rw [Bool.eq_iff_iff]; simp only [Bool.false_or, Bool.or_eq_true, Bool.and_eq_true, bne_iff_ne, beq_iff_eq, decide_eq_true_eq, ne_eq, true_iff, Bool.false_eq_true, false_iff, eq_self]; omega) ls (lv_sub hl [0, 1, 4, 5, 6, 7] rfl)
              · skip
                refine lv_iload hx hb d_Mo_isBad_73 (lv_at hl 0 rfl) ?_
                refine lv_if_ne (tgt := 89) hx hb d_Mo_isBad_75 (by decide) (fun c_75 => ?_) (fun c_75 => ?_)
                · skip
                  refine lv_iconst (v := nI 1) hx hb d_Mo_isBad_89 (by decide +kernel) ?_
                  refine lv_goto (tgt := 94) hx hb d_Mo_isBad_90 (by decide) ?_
                  refine lv_istore (lv' := [(4, .int (nI 1)), (7, .int (nI 1)), (6, .int (nI (mSp rr pd w v))), (5, .int (nI v)), (0, .ref o), (1, .int (nI w)), (2, .int (nI ct)), (3, .int (nI k))]) hx hb d_Mo_isBad_94 hl (by decide) rfl (fun ls hl => ?_)
                  refine lv_iinc (v := (nI (v + 1))) (lv' := [(5, .int (nI (v + 1))), (4, .int (nI 1)), (7, .int (nI 1)), (6, .int (nI (mSp rr pd w v))), (0, .ref o), (1, .int (nI w)), (2, .int (nI ct)), (3, .int (nI k))]) hx hb d_Mo_isBad_96 hl (k := 3) rfl (gI_inc _) (by decide) rfl (fun ls hl => ?_)
                  refine lv_goto (tgt := 6) hx hb d_Mo_isBad_99 (by decide) ?_
                  exact ih6 (v + 1) true (by omega) (by omega) (by rw [aN_s, ← hbb, c_64]; unfold mB1; rw [Bool.eq_iff_iff]; simp only [Bool.false_or, Bool.or_eq_true, Bool.and_eq_true, bne_iff_ne, beq_iff_eq, decide_eq_true_eq, ne_eq, true_iff, Bool.false_eq_true, false_iff, eq_self]; omega) ls (lv_sub hl [0, 1, 4, 5, 6, 7] rfl)
                · first | exact absurd c_75 (by decide) | exact absurd rfl c_75
  exact lp6 ((td - 0) + 1) 0 false (by omega) (by omega) rfl ls (lv_sub hl [0, 1, 2, 3, 4, 5] rfl)

set_option maxHeartbeats 4000000 in
set_option maxRecDepth 100000 in
theorem k_Mo_manyOf (l : Launch) (G : gT) (o : Nat) (S sp bf sv iz rr pd : Nat → Nat) (ln sts td ac : Nat) (a w : Nat) (ha : a < S 4) (hw2 : w < 2 ^ 31) (hM : mOk S) : gM l y_Mo_manyOf c_Mo_manyOf 6 (some .int) 3 65 0 0 G [.ref o, .int (nI a), .int (nI w)] (fun H => MAt G o S sp bf sv iz rr pd ln sts td ac H) (rd (.int (nI (if w = 5 then mSk S a else mAn S a)))) noF := by
  refine g_enter "GaleNamesModel" (by decide +kernel) rfl (Nat.le_of_ble_eq_true rfl) ?_
  intro p e s m args below meth c C0 hlk hr hnm hP hK ls hl
  have hx := C0.1
  have hb := C0.2.1
  have hl : lv_has ls 6 [(0, .ref o), (1, .int (nI a)), (2, .int (nI w))] := hl
  have hn40 := hM.n
  have hg16 := hM.g
  have hk10 := hM.k
  refine lv_iconst (v := nI 0) hx hb d_Mo_manyOf_0 (by decide +kernel) ?_
  refine lv_istore_n (lv' := [(3, .int (nI 0)), (0, .ref o), (1, .int (nI a)), (2, .int (nI w))]) hx hb d_Mo_manyOf_1 rfl hl (by decide) rfl (fun ls hl => ?_)
  refine lv_iconst (v := nI 0) hx hb d_Mo_manyOf_2 (by decide +kernel) ?_
  refine lv_istore (lv' := [(4, .int (nI 0)), (3, .int (nI 0)), (0, .ref o), (1, .int (nI a)), (2, .int (nI w))]) hx hb d_Mo_manyOf_3 hl (by decide) rfl (fun ls hl => ?_)
  refine lv_iconst (v := nI 0) hx hb d_Mo_manyOf_5 (by decide +kernel) ?_
  refine lv_istore (lv' := [(5, .int (nI 0)), (4, .int (nI 0)), (3, .int (nI 0)), (0, .ref o), (1, .int (nI a)), (2, .int (nI w))]) hx hb d_Mo_manyOf_6 hl (by decide) rfl (fun ls hl => ?_)
  have lp8 : ∀ (fu : Nat) (i : Nat) (q : Nat), (S 7 - i) < fu → i ≤ S 7 → q = cN (fun k => S (511 + 3 * k) == a) i → ∀ ls : Array Slot, lv_has ls 6 [(5, .int (nI i)), (4, .int (nI 0)), (3, .int (nI q)), (0, .ref o), (1, .int (nI a)), (2, .int (nI w))] → W p l e ({ frames := 3, cells := 0, slots := 0, locals := 65 } : Room) s m args below meth c s.heap [] 0 0 (MQ below (gQ (rd (.int (nI (if w = 5 then mSk S a else mAn S a))))) args s 0 0 noF) (F0 m 8 ls []) := by
    intro fu
    induction fu with
    | zero => intro i q  hfu; exact absurd hfu (Nat.not_lt_zero _)
    | succ fu ih8 =>
      intro i q hfu hi hq2 ls hl
      refine lv_iload hx hb d_Mo_manyOf_8 (lv_at hl 0 rfl) ?_
      refine lv_aload_n hx hb d_Mo_manyOf_10 rfl (lv_at hl 3 rfl) ?_
      refine g_get C0 hK il_Mo hP.1 rfl 0 (by decide) fl_Mo_7 rfl d_Mo_manyOf_11 ?_
      refine lv_bipush (v := nI 7) hx hb d_Mo_manyOf_14 (by decide +kernel) ?_
      refine g_iald C0 hK hP.2.1 (by omega) (by omega) d_Mo_manyOf_16 ?_
      refine g_cge (tgt := 48) C0 d_Mo_manyOf_17 (by decide) (by first | omega | exact hM.b (by omega) | exact hR.p (by omega)) (by first | omega | exact hM.b (by omega) | exact hR.p (by omega)) (fun c_17 => ?_) (fun c_17 => ?_)
      · skip
        refine lv_iconst (v := nI 0) hx hb d_Mo_manyOf_48 (by decide +kernel) ?_
        refine lv_istore (lv' := [(5, .int (nI 0)), (4, .int (nI 0)), (3, .int (nI q)), (0, .ref o), (1, .int (nI a)), (2, .int (nI w))]) hx hb d_Mo_manyOf_49 hl (by decide) rfl (fun ls hl => ?_)
        have lp51 : ∀ (fu : Nat) (n : Nat) (y : Nat), (S 4 - n) < fu → n ≤ S 4 → y = cN (fun m => mAl S a m) n → ∀ ls : Array Slot, lv_has ls 6 [(5, .int (nI n)), (4, .int (nI y)), (3, .int (nI q)), (0, .ref o), (1, .int (nI a)), (2, .int (nI w))] → W p l e ({ frames := 3, cells := 0, slots := 0, locals := 65 } : Room) s m args below meth c s.heap [] 0 0 (MQ below (gQ (rd (.int (nI (if w = 5 then mSk S a else mAn S a))))) args s 0 0 noF) (F0 m 51 ls []) := by
          intro fu
          induction fu with
          | zero => intro n y  hfu; exact absurd hfu (Nat.not_lt_zero _)
          | succ fu ih51 =>
            intro n y hfu hn hy2 ls hl
            refine lv_iload hx hb d_Mo_manyOf_51 (lv_at hl 0 rfl) ?_
            refine lv_aload_n hx hb d_Mo_manyOf_53 rfl (lv_at hl 3 rfl) ?_
            refine g_get C0 hK il_Mo hP.1 rfl 0 (by decide) fl_Mo_7 rfl d_Mo_manyOf_54 ?_
            refine lv_iconst (v := nI 4) hx hb d_Mo_manyOf_57 (by decide +kernel) ?_
            refine g_iald C0 hK hP.2.1 (by omega) (by omega) d_Mo_manyOf_58 ?_
            refine g_cge (tgt := 88) C0 d_Mo_manyOf_59 (by decide) (by first | omega | exact hM.b (by omega) | exact hR.p (by omega)) (by first | omega | exact hM.b (by omega) | exact hR.p (by omega)) (fun c_59 => ?_) (fun c_59 => ?_)
            · skip
              refine lv_iload_n hx hb d_Mo_manyOf_88 rfl (lv_at hl 5 rfl) ?_
              refine lv_iconst (v := nI 5) hx hb d_Mo_manyOf_89 (by decide +kernel) ?_
              refine g_cne (tgt := 97) C0 d_Mo_manyOf_90 (by decide) (by first | omega | exact hM.b (by omega) | exact hR.p (by omega)) (by first | omega | exact hM.b (by omega) | exact hR.p (by omega)) (fun c_90 => ?_) (fun c_90 => ?_)
              · skip
                refine lv_iload hx hb d_Mo_manyOf_97 (lv_at hl 1 rfl) ?_
                refine g_iret C0 hlk hr d_Mo_manyOf_99 (t_nil (free := noF)) ?_
                exact ⟨rdI (by rw [if_neg c_90, hy2, show n = S 4 by omega]; rfl), rfl⟩
              · skip
                refine lv_iload_n hx hb d_Mo_manyOf_93 rfl (lv_at hl 2 rfl) ?_
                refine lv_goto (tgt := 99) hx hb d_Mo_manyOf_94 (by decide) ?_
                refine g_iret C0 hlk hr d_Mo_manyOf_99 (t_nil (free := noF)) ?_
                exact ⟨rdI (by rw [if_pos c_90, hq2, show i = S 7 by omega]; rfl), rfl⟩
            · skip
              refine lv_iload hx hb d_Mo_manyOf_62 (lv_at hl 1 rfl) ?_
              refine lv_aload_n hx hb d_Mo_manyOf_64 rfl (lv_at hl 3 rfl) ?_
              refine lv_iload_n hx hb d_Mo_manyOf_65 rfl (lv_at hl 4 rfl) ?_
              refine lv_iload hx hb d_Mo_manyOf_66 (lv_at hl 0 rfl) ?_
              refine g_V C0 (k_Mo_areAlike l G o S sp bf sv iz rr pd ln sts td ac a n (by omega) (by omega) hM) co_Mo_areAlike im_Mo_areAlike se_Mo_areAlike in_Mo gc_Mo_areAlike ml_Mo_139 ⟨Nat.le_of_ble_eq_true rfl, Nat.le_of_ble_eq_true rfl⟩ hK hP.1 rfl ⟨hP.1, hP.2.1, hP.2.2.1, hP.2.2.2.1, hP.2.2.2.2.1, hP.2.2.2.2.2.1, hP.2.2.2.2.2.2.1, hP.2.2.2.2.2.2.2⟩ rfl hl.1 rfl (Nat.le_of_ble_eq_true rfl) d_Mo_manyOf_68 ⟨Nat.le_of_ble_eq_true rfl, Nat.le_of_ble_eq_true rfl⟩ (g_r rfl ?_)
              refine g_zeq (tgt := 78) C0 d_Mo_manyOf_71 (by decide) (fun c_71 => ?_) (fun c_71 => ?_)
              · skip
                refine lv_iconst (v := nI 0) hx hb d_Mo_manyOf_78 (by decide +kernel) ?_
                refine g_iadd C0 (z := y) d_Mo_manyOf_79 rfl ?_
                refine lv_istore (lv' := [(4, .int (nI y)), (5, .int (nI n)), (3, .int (nI q)), (0, .ref o), (1, .int (nI a)), (2, .int (nI w))]) hx hb d_Mo_manyOf_80 hl (by decide) rfl (fun ls hl => ?_)
                refine lv_iinc (v := (nI (n + 1))) (lv' := [(5, .int (nI (n + 1))), (4, .int (nI y)), (3, .int (nI q)), (0, .ref o), (1, .int (nI a)), (2, .int (nI w))]) hx hb d_Mo_manyOf_82 hl (k := 1) rfl (gI_inc _) (by decide) rfl (fun ls hl => ?_)
                refine lv_goto (tgt := 51) hx hb d_Mo_manyOf_85 (by decide) ?_
                exact ih51 (n + 1) y (by omega) (by omega) (by rw [cN_s, ← hy2]; simp [c_71]) ls (lv_sub hl [0, 1, 2, 3, 4, 5] rfl)
              · skip
                refine lv_iconst (v := nI 1) hx hb d_Mo_manyOf_74 (by decide +kernel) ?_
                refine lv_goto (tgt := 79) hx hb d_Mo_manyOf_75 (by decide) ?_
                refine g_iadd C0 (z := y + 1) d_Mo_manyOf_79 rfl ?_
                refine lv_istore (lv' := [(4, .int (nI (y + 1))), (5, .int (nI n)), (3, .int (nI q)), (0, .ref o), (1, .int (nI a)), (2, .int (nI w))]) hx hb d_Mo_manyOf_80 hl (by decide) rfl (fun ls hl => ?_)
                refine lv_iinc (v := (nI (n + 1))) (lv' := [(5, .int (nI (n + 1))), (4, .int (nI (y + 1))), (3, .int (nI q)), (0, .ref o), (1, .int (nI a)), (2, .int (nI w))]) hx hb d_Mo_manyOf_82 hl (k := 1) rfl (gI_inc _) (by decide) rfl (fun ls hl => ?_)
                refine lv_goto (tgt := 51) hx hb d_Mo_manyOf_85 (by decide) ?_
                exact ih51 (n + 1) (y + 1) (by omega) (by omega) (by rw [cN_s, ← hy2]; simp [c_71]) ls (lv_sub hl [0, 1, 2, 3, 4, 5] rfl)
        exact lp51 ((S 4 - 0) + 1) 0 0 (by omega) (by omega) rfl ls (lv_sub hl [0, 1, 2, 3, 4, 5] rfl)
      · skip
        refine lv_iload_n hx hb d_Mo_manyOf_20 rfl (lv_at hl 2 rfl) ?_
        refine lv_aload_n hx hb d_Mo_manyOf_21 rfl (lv_at hl 3 rfl) ?_
        refine g_get C0 hK il_Mo hP.1 rfl 0 (by decide) fl_Mo_7 rfl d_Mo_manyOf_22 ?_
        refine lv_iload hx hb d_Mo_manyOf_25 (lv_at hl 0 rfl) ?_
        refine g_S C0 (k_Mo_k l G i) co_Mo_k sm_Mo_k in_Mo gc_Mo_k ml_Mo_126 ⟨Nat.le_of_ble_eq_true rfl, Nat.le_of_ble_eq_true rfl⟩ hK trivial rfl hl.1 rfl (Nat.le_of_ble_eq_true rfl) d_Mo_manyOf_27 ⟨Nat.le_of_ble_eq_true rfl, Nat.le_of_ble_eq_true rfl⟩ (g_r rfl ?_)
        refine g_iald C0 hK hP.2.1 (by omega) (by omega) d_Mo_manyOf_30 ?_
        refine lv_iload_n hx hb d_Mo_manyOf_31 rfl (lv_at hl 4 rfl) ?_
        refine g_cne (tgt := 39) C0 d_Mo_manyOf_32 (by decide) (by first | omega | exact hM.b (by omega) | exact hR.p (by omega)) (by first | omega | exact hM.b (by omega) | exact hR.p (by omega)) (fun c_32 => ?_) (fun c_32 => ?_)
        · skip
          refine lv_iconst (v := nI 0) hx hb d_Mo_manyOf_39 (by decide +kernel) ?_
          refine g_iadd C0 (z := q) d_Mo_manyOf_40 rfl ?_
          refine lv_istore_n (lv' := [(3, .int (nI q)), (5, .int (nI i)), (4, .int (nI 0)), (0, .ref o), (1, .int (nI a)), (2, .int (nI w))]) hx hb d_Mo_manyOf_41 rfl hl (by decide) rfl (fun ls hl => ?_)
          refine lv_iinc (v := (nI (i + 1))) (lv' := [(5, .int (nI (i + 1))), (3, .int (nI q)), (4, .int (nI 0)), (0, .ref o), (1, .int (nI a)), (2, .int (nI w))]) hx hb d_Mo_manyOf_42 hl (k := 1) rfl (gI_inc _) (by decide) rfl (fun ls hl => ?_)
          refine lv_goto (tgt := 8) hx hb d_Mo_manyOf_45 (by decide) ?_
          exact ih8 (i + 1) q (by omega) (by omega) (by rw [cN_s, ← hq2]; simp [c_32]) ls (lv_sub hl [0, 2, 1, 3, 4, 5] rfl)
        · skip
          refine lv_iconst (v := nI 1) hx hb d_Mo_manyOf_35 (by decide +kernel) ?_
          refine lv_goto (tgt := 40) hx hb d_Mo_manyOf_36 (by decide) ?_
          refine g_iadd C0 (z := q + 1) d_Mo_manyOf_40 rfl ?_
          refine lv_istore_n (lv' := [(3, .int (nI (q + 1))), (5, .int (nI i)), (4, .int (nI 0)), (0, .ref o), (1, .int (nI a)), (2, .int (nI w))]) hx hb d_Mo_manyOf_41 rfl hl (by decide) rfl (fun ls hl => ?_)
          refine lv_iinc (v := (nI (i + 1))) (lv' := [(5, .int (nI (i + 1))), (3, .int (nI (q + 1))), (4, .int (nI 0)), (0, .ref o), (1, .int (nI a)), (2, .int (nI w))]) hx hb d_Mo_manyOf_42 hl (k := 1) rfl (gI_inc _) (by decide) rfl (fun ls hl => ?_)
          refine lv_goto (tgt := 8) hx hb d_Mo_manyOf_45 (by decide) ?_
          exact ih8 (i + 1) (q + 1) (by omega) (by omega) (by rw [cN_s, ← hq2]; simp [c_32]) ls (lv_sub hl [0, 2, 1, 3, 4, 5] rfl)
  exact lp8 ((S 7 - 0) + 1) 0 0 (by omega) (by omega) rfl ls (lv_sub hl [0, 1, 2, 3, 4, 5] rfl)

set_option maxHeartbeats 4000000 in
set_option maxRecDepth 100000 in
theorem k_Mo_of (l : Launch) (G : gT) (o : Nat) (S sp bf sv iz rr pd : Nat → Nat) (ln sts td ac : Nat) (a w : Int32) (hM : mOk S) : gM l y_Mo_of c_Mo_of 3 (some .int) 4 90 0 0 G [.ref o, .int a, .int w] (fun H => MAt G o S sp bf sv iz rr pd ln sts td ac H) (rd (.int (mOf S a w))) noF := by
  refine g_enter "GaleNamesModel" (by decide +kernel) rfl (Nat.le_of_ble_eq_true rfl) ?_
  intro p e s m args below meth c C0 hlk hr hnm hP hK ls hl
  have hx := C0.1
  have hb := C0.2.1
  have hl : lv_has ls 3 [(0, .ref o), (1, .int a), (2, .int w)] := hl
  have hn40 := hM.n
  have hg16 := hM.g
  have hk10 := hM.k
  refine lv_aload_n hx hb d_Mo_of_0 rfl (lv_at hl 0 rfl) ?_
  refine lv_iload_n hx hb d_Mo_of_1 rfl (lv_at hl 1 rfl) ?_
  refine g_V C0 (k_Mo_isName l G o S sp bf sv iz rr pd ln sts td ac a hM) co_Mo_isName im_Mo_isName se_Mo_isName in_Mo gc_Mo_isName ml_Mo_142 ⟨Nat.le_of_ble_eq_true rfl, Nat.le_of_ble_eq_true rfl⟩ hK hP.1 rfl ⟨hP.1, hP.2.1, hP.2.2.1, hP.2.2.2.1, hP.2.2.2.2.1, hP.2.2.2.2.2.1, hP.2.2.2.2.2.2.1, hP.2.2.2.2.2.2.2⟩ rfl hl.1 rfl (Nat.le_of_ble_eq_true rfl) d_Mo_of_2 ⟨Nat.le_of_ble_eq_true rfl, Nat.le_of_ble_eq_true rfl⟩ (g_r rfl ?_)
  refine g_zne (tgt := 10) C0 d_Mo_of_5 (by decide) (fun c_5 => ?_) (fun c_5 => ?_)
  · skip
    obtain ⟨i, hi, hi31, rfl⟩ := inR_t c_5
    refine lv_iload_n hx hb d_Mo_of_10 rfl (lv_at hl 2 rfl) ?_
    rcases inR_or w 7 with ht | ⟨it, hit, hit31, het⟩
    · refine lv_tableOut (tgt := 138) hx hb d_Mo_of_11 (inR_out ht (by decide)) (by decide) ?_
      refine lv_bipush (v := -2) hx hb d_Mo_of_138 (by decide +kernel) ?_
      refine g_iret C0 hlk hr d_Mo_of_140 (t_nil (free := noF)) ?_
      exact ⟨rdI (by rw [mOf, c_5, ht]; rfl), rfl⟩
    · have hd : it = 0 ∨ it = 1 ∨ it = 2 ∨ it = 3 ∨ it = 4 ∨ it = 5 ∨ it = 6 := by omega
      rcases hd with rfl | rfl | rfl | rfl | rfl | rfl | rfl
      · subst het
        refine lv_tableIn (tgt := 52) hx hb d_Mo_of_11 (by decide +kernel) (by decide +kernel) (show _ = some _ from rfl) (by decide +kernel) ?_
        refine lv_aload_n hx hb d_Mo_of_52 rfl (lv_at hl 0 rfl) ?_
        refine g_get C0 hK il_Mo hP.1 rfl 0 (by decide) fl_Mo_7 rfl d_Mo_of_53 ?_
        refine lv_iload_n hx hb d_Mo_of_56 rfl (lv_at hl 1 rfl) ?_
        refine g_S C0 (k_Mo_n l G i) co_Mo_n sm_Mo_n in_Mo gc_Mo_n ml_Mo_57 ⟨Nat.le_of_ble_eq_true rfl, Nat.le_of_ble_eq_true rfl⟩ hK trivial rfl hl.1 rfl (Nat.le_of_ble_eq_true rfl) d_Mo_of_57 ⟨Nat.le_of_ble_eq_true rfl, Nat.le_of_ble_eq_true rfl⟩ (g_r rfl ?_)
        refine g_iald C0 hK hP.2.1 (by omega) (by omega) d_Mo_of_60 ?_
        refine g_iret C0 hlk hr d_Mo_of_61 (t_nil (free := noF)) ?_
        exact ⟨rdI (by rw [mOf, c_5, inR_i (by decide) (by decide), if_pos rfl, if_pos rfl, nI_clamp hi31, nI_clamp (by decide)]; rfl), rfl⟩
      · subst het
        refine lv_tableIn (tgt := 62) hx hb d_Mo_of_11 (by decide +kernel) (by decide +kernel) (show _ = some _ from rfl) (by decide +kernel) ?_
        refine lv_aload_n hx hb d_Mo_of_62 rfl (lv_at hl 0 rfl) ?_
        refine g_get C0 hK il_Mo hP.1 rfl 0 (by decide) fl_Mo_7 rfl d_Mo_of_63 ?_
        refine lv_iload_n hx hb d_Mo_of_66 rfl (lv_at hl 1 rfl) ?_
        refine g_S C0 (k_Mo_n l G i) co_Mo_n sm_Mo_n in_Mo gc_Mo_n ml_Mo_57 ⟨Nat.le_of_ble_eq_true rfl, Nat.le_of_ble_eq_true rfl⟩ hK trivial rfl hl.1 rfl (Nat.le_of_ble_eq_true rfl) d_Mo_of_67 ⟨Nat.le_of_ble_eq_true rfl, Nat.le_of_ble_eq_true rfl⟩ (g_r rfl ?_)
        refine lv_bipush (v := nI 7) hx hb d_Mo_of_70 (by decide +kernel) ?_
        refine g_iadd C0 (z := 9 + 10 * i + 7) d_Mo_of_72 rfl ?_
        refine g_iald C0 hK hP.2.1 (by omega) (by omega) d_Mo_of_73 ?_
        refine g_iret C0 hlk hr d_Mo_of_74 (t_nil (free := noF)) ?_
        exact ⟨rdI (by rw [mOf, c_5, inR_i (by decide) (by decide), if_pos rfl, if_pos rfl, nI_clamp hi31, nI_clamp (by decide)]; rfl), rfl⟩
      · subst het
        refine lv_tableIn (tgt := 75) hx hb d_Mo_of_11 (by decide +kernel) (by decide +kernel) (show _ = some _ from rfl) (by decide +kernel) ?_
        refine lv_aload_n hx hb d_Mo_of_75 rfl (lv_at hl 0 rfl) ?_
        refine lv_iload_n hx hb d_Mo_of_76 rfl (lv_at hl 1 rfl) ?_
        refine lv_iconst (v := nI 0) hx hb d_Mo_of_77 (by decide +kernel) ?_
        refine g_V C0 (k_Mo_isOn l G o S sp bf sv iz rr pd ln sts td ac i 0 (by omega) (by omega) hM) co_Mo_isOn im_Mo_isOn se_Mo_isOn in_Mo gc_Mo_isOn ml_Mo_97 ⟨Nat.le_of_ble_eq_true rfl, Nat.le_of_ble_eq_true rfl⟩ hK hP.1 rfl ⟨hP.1, hP.2.1, hP.2.2.1, hP.2.2.2.1, hP.2.2.2.2.1, hP.2.2.2.2.2.1, hP.2.2.2.2.2.2.1, hP.2.2.2.2.2.2.2⟩ rfl hl.1 rfl (Nat.le_of_ble_eq_true rfl) d_Mo_of_78 ⟨Nat.le_of_ble_eq_true rfl, Nat.le_of_ble_eq_true rfl⟩ (g_r rfl ?_)
        refine g_zeq (tgt := 88) C0 d_Mo_of_81 (by decide) (fun c_81 => ?_) (fun c_81 => ?_)
        · skip
          refine lv_iconst (v := nI 0) hx hb d_Mo_of_88 (by decide +kernel) ?_
          refine lv_aload_n hx hb d_Mo_of_89 rfl (lv_at hl 0 rfl) ?_
          refine lv_iload_n hx hb d_Mo_of_90 rfl (lv_at hl 1 rfl) ?_
          refine lv_iconst (v := nI 1) hx hb d_Mo_of_91 (by decide +kernel) ?_
          refine g_V C0 (k_Mo_isOn l G o S sp bf sv iz rr pd ln sts td ac i 1 (by omega) (by omega) hM) co_Mo_isOn im_Mo_isOn se_Mo_isOn in_Mo gc_Mo_isOn ml_Mo_97 ⟨Nat.le_of_ble_eq_true rfl, Nat.le_of_ble_eq_true rfl⟩ hK hP.1 rfl ⟨hP.1, hP.2.1, hP.2.2.1, hP.2.2.2.1, hP.2.2.2.2.1, hP.2.2.2.2.2.1, hP.2.2.2.2.2.2.1, hP.2.2.2.2.2.2.2⟩ rfl hl.1 rfl (Nat.le_of_ble_eq_true rfl) d_Mo_of_92 ⟨Nat.le_of_ble_eq_true rfl, Nat.le_of_ble_eq_true rfl⟩ (g_r rfl ?_)
          refine g_zeq (tgt := 102) C0 d_Mo_of_95 (by decide) (fun c_95 => ?_) (fun c_95 => ?_)
          · skip
            refine lv_iconst (v := nI 0) hx hb d_Mo_of_102 (by decide +kernel) ?_
            refine g_iadd C0 (z := 0) d_Mo_of_103 rfl ?_
            refine g_iret C0 hlk hr d_Mo_of_104 (t_nil (free := noF)) ?_
            exact ⟨rdI (by rw [mOf, c_5, inR_i (by decide) (by decide), if_pos rfl, if_pos rfl, nI_clamp hi31, nI_clamp (by decide)]; show nI ((if mOn S i 0 = true then 1 else 0) + (if mOn S i 1 = true then 2 else 0)) = _; rw [c_81, c_95]; rfl), rfl⟩
          · skip
            refine lv_iconst (v := nI 2) hx hb d_Mo_of_98 (by decide +kernel) ?_
            refine lv_goto (tgt := 103) hx hb d_Mo_of_99 (by decide) ?_
            refine g_iadd C0 (z := 2) d_Mo_of_103 rfl ?_
            refine g_iret C0 hlk hr d_Mo_of_104 (t_nil (free := noF)) ?_
            exact ⟨rdI (by rw [mOf, c_5, inR_i (by decide) (by decide), if_pos rfl, if_pos rfl, nI_clamp hi31, nI_clamp (by decide)]; show nI ((if mOn S i 0 = true then 1 else 0) + (if mOn S i 1 = true then 2 else 0)) = _; rw [c_81, c_95]; rfl), rfl⟩
        · skip
          refine lv_iconst (v := nI 1) hx hb d_Mo_of_84 (by decide +kernel) ?_
          refine lv_goto (tgt := 89) hx hb d_Mo_of_85 (by decide) ?_
          refine lv_aload_n hx hb d_Mo_of_89 rfl (lv_at hl 0 rfl) ?_
          refine lv_iload_n hx hb d_Mo_of_90 rfl (lv_at hl 1 rfl) ?_
          refine lv_iconst (v := nI 1) hx hb d_Mo_of_91 (by decide +kernel) ?_
          refine g_V C0 (k_Mo_isOn l G o S sp bf sv iz rr pd ln sts td ac i 1 (by omega) (by omega) hM) co_Mo_isOn im_Mo_isOn se_Mo_isOn in_Mo gc_Mo_isOn ml_Mo_97 ⟨Nat.le_of_ble_eq_true rfl, Nat.le_of_ble_eq_true rfl⟩ hK hP.1 rfl ⟨hP.1, hP.2.1, hP.2.2.1, hP.2.2.2.1, hP.2.2.2.2.1, hP.2.2.2.2.2.1, hP.2.2.2.2.2.2.1, hP.2.2.2.2.2.2.2⟩ rfl hl.1 rfl (Nat.le_of_ble_eq_true rfl) d_Mo_of_92 ⟨Nat.le_of_ble_eq_true rfl, Nat.le_of_ble_eq_true rfl⟩ (g_r rfl ?_)
          refine g_zeq (tgt := 102) C0 d_Mo_of_95 (by decide) (fun c_95 => ?_) (fun c_95 => ?_)
          · skip
            refine lv_iconst (v := nI 0) hx hb d_Mo_of_102 (by decide +kernel) ?_
            refine g_iadd C0 (z := 1) d_Mo_of_103 rfl ?_
            refine g_iret C0 hlk hr d_Mo_of_104 (t_nil (free := noF)) ?_
            exact ⟨rdI (by rw [mOf, c_5, inR_i (by decide) (by decide), if_pos rfl, if_pos rfl, nI_clamp hi31, nI_clamp (by decide)]; show nI ((if mOn S i 0 = true then 1 else 0) + (if mOn S i 1 = true then 2 else 0)) = _; rw [c_81, c_95]; rfl), rfl⟩
          · skip
            refine lv_iconst (v := nI 2) hx hb d_Mo_of_98 (by decide +kernel) ?_
            refine lv_goto (tgt := 103) hx hb d_Mo_of_99 (by decide) ?_
            refine g_iadd C0 (z := 3) d_Mo_of_103 rfl ?_
            refine g_iret C0 hlk hr d_Mo_of_104 (t_nil (free := noF)) ?_
            exact ⟨rdI (by rw [mOf, c_5, inR_i (by decide) (by decide), if_pos rfl, if_pos rfl, nI_clamp hi31, nI_clamp (by decide)]; show nI ((if mOn S i 0 = true then 1 else 0) + (if mOn S i 1 = true then 2 else 0)) = _; rw [c_81, c_95]; rfl), rfl⟩
      · subst het
        refine lv_tableIn (tgt := 105) hx hb d_Mo_of_11 (by decide +kernel) (by decide +kernel) (show _ = some _ from rfl) (by decide +kernel) ?_
        refine lv_aload_n hx hb d_Mo_of_105 rfl (lv_at hl 0 rfl) ?_
        refine g_get C0 hK il_Mo hP.1 rfl 0 (by decide) fl_Mo_7 rfl d_Mo_of_106 ?_
        refine lv_iload_n hx hb d_Mo_of_109 rfl (lv_at hl 1 rfl) ?_
        refine g_S C0 (k_Mo_n l G i) co_Mo_n sm_Mo_n in_Mo gc_Mo_n ml_Mo_57 ⟨Nat.le_of_ble_eq_true rfl, Nat.le_of_ble_eq_true rfl⟩ hK trivial rfl hl.1 rfl (Nat.le_of_ble_eq_true rfl) d_Mo_of_110 ⟨Nat.le_of_ble_eq_true rfl, Nat.le_of_ble_eq_true rfl⟩ (g_r rfl ?_)
        refine lv_bipush (v := nI 8) hx hb d_Mo_of_113 (by decide +kernel) ?_
        refine g_iadd C0 (z := 9 + 10 * i + 8) d_Mo_of_115 rfl ?_
        refine g_iald C0 hK hP.2.1 (by omega) (by omega) d_Mo_of_116 ?_
        refine g_iret C0 hlk hr d_Mo_of_117 (t_nil (free := noF)) ?_
        exact ⟨rdI (by rw [mOf, c_5, inR_i (by decide) (by decide), if_pos rfl, if_pos rfl, nI_clamp hi31, nI_clamp (by decide)]; rfl), rfl⟩
      · subst het
        refine lv_tableIn (tgt := 118) hx hb d_Mo_of_11 (by decide +kernel) (by decide +kernel) (show _ = some _ from rfl) (by decide +kernel) ?_
        refine lv_aload_n hx hb d_Mo_of_118 rfl (lv_at hl 0 rfl) ?_
        refine g_get C0 hK il_Mo hP.1 rfl 0 (by decide) fl_Mo_7 rfl d_Mo_of_119 ?_
        refine lv_iload_n hx hb d_Mo_of_122 rfl (lv_at hl 1 rfl) ?_
        refine g_S C0 (k_Mo_n l G i) co_Mo_n sm_Mo_n in_Mo gc_Mo_n ml_Mo_57 ⟨Nat.le_of_ble_eq_true rfl, Nat.le_of_ble_eq_true rfl⟩ hK trivial rfl hl.1 rfl (Nat.le_of_ble_eq_true rfl) d_Mo_of_123 ⟨Nat.le_of_ble_eq_true rfl, Nat.le_of_ble_eq_true rfl⟩ (g_r rfl ?_)
        refine lv_bipush (v := nI 9) hx hb d_Mo_of_126 (by decide +kernel) ?_
        refine g_iadd C0 (z := 9 + 10 * i + 9) d_Mo_of_128 rfl ?_
        refine g_iald C0 hK hP.2.1 (by omega) (by omega) d_Mo_of_129 ?_
        refine g_iret C0 hlk hr d_Mo_of_130 (t_nil (free := noF)) ?_
        exact ⟨rdI (by rw [mOf, c_5, inR_i (by decide) (by decide), if_pos rfl, if_pos rfl, nI_clamp hi31, nI_clamp (by decide)]; rfl), rfl⟩
      · subst het
        refine lv_tableIn (tgt := 131) hx hb d_Mo_of_11 (by decide +kernel) (by decide +kernel) (show _ = some _ from rfl) (by decide +kernel) ?_
        refine lv_aload_n hx hb d_Mo_of_131 rfl (lv_at hl 0 rfl) ?_
        refine lv_iload_n hx hb d_Mo_of_132 rfl (lv_at hl 1 rfl) ?_
        refine lv_iload_n hx hb d_Mo_of_133 rfl (lv_at hl 2 rfl) ?_
        refine g_V C0 (k_Mo_manyOf l G o S sp bf sv iz rr pd ln sts td ac i 5 (by omega) (by omega) hM) co_Mo_manyOf im_Mo_manyOf se_Mo_manyOf in_Mo gc_Mo_manyOf ml_Mo_145 ⟨Nat.le_of_ble_eq_true rfl, Nat.le_of_ble_eq_true rfl⟩ hK hP.1 rfl ⟨hP.1, hP.2.1, hP.2.2.1, hP.2.2.2.1, hP.2.2.2.2.1, hP.2.2.2.2.2.1, hP.2.2.2.2.2.2.1, hP.2.2.2.2.2.2.2⟩ rfl hl.1 rfl (Nat.le_of_ble_eq_true rfl) d_Mo_of_134 ⟨Nat.le_of_ble_eq_true rfl, Nat.le_of_ble_eq_true rfl⟩ (g_r rfl ?_)
        refine g_iret C0 hlk hr d_Mo_of_137 (t_nil (free := noF)) ?_
        exact ⟨rdI (by rw [mOf, c_5, inR_i (by decide) (by decide), if_pos rfl, if_pos rfl, nI_clamp hi31, nI_clamp (by decide)]; rfl), rfl⟩
      · subst het
        refine lv_tableIn (tgt := 131) hx hb d_Mo_of_11 (by decide +kernel) (by decide +kernel) (show _ = some _ from rfl) (by decide +kernel) ?_
        refine lv_aload_n hx hb d_Mo_of_131 rfl (lv_at hl 0 rfl) ?_
        refine lv_iload_n hx hb d_Mo_of_132 rfl (lv_at hl 1 rfl) ?_
        refine lv_iload_n hx hb d_Mo_of_133 rfl (lv_at hl 2 rfl) ?_
        refine g_V C0 (k_Mo_manyOf l G o S sp bf sv iz rr pd ln sts td ac i 6 (by omega) (by omega) hM) co_Mo_manyOf im_Mo_manyOf se_Mo_manyOf in_Mo gc_Mo_manyOf ml_Mo_145 ⟨Nat.le_of_ble_eq_true rfl, Nat.le_of_ble_eq_true rfl⟩ hK hP.1 rfl ⟨hP.1, hP.2.1, hP.2.2.1, hP.2.2.2.1, hP.2.2.2.2.1, hP.2.2.2.2.2.1, hP.2.2.2.2.2.2.1, hP.2.2.2.2.2.2.2⟩ rfl hl.1 rfl (Nat.le_of_ble_eq_true rfl) d_Mo_of_134 ⟨Nat.le_of_ble_eq_true rfl, Nat.le_of_ble_eq_true rfl⟩ (g_r rfl ?_)
        refine g_iret C0 hlk hr d_Mo_of_137 (t_nil (free := noF)) ?_
        exact ⟨rdI (by rw [mOf, c_5, inR_i (by decide) (by decide), if_pos rfl, if_pos rfl, nI_clamp hi31, nI_clamp (by decide)]; rfl), rfl⟩
  · skip
    refine lv_iconst (v := -1) hx hb d_Mo_of_8 (by decide +kernel) ?_
    refine g_iret C0 hlk hr d_Mo_of_9 (t_nil (free := noF)) ?_
    exact ⟨rdI (by rw [mOf, c_5]; rfl), rfl⟩

set_option maxHeartbeats 4000000 in
set_option maxRecDepth 100000 in
theorem k_Mo_letter (l : Launch) (G : gT) (o : Nat) (S sp bf sv iz rr pd : Nat → Nat) (ln sts td ac : Nat) (a j : Int32) (hM : mOk S) : gM l y_Mo_letter c_Mo_letter 3 (some .int) 2 43 0 0 G [.ref o, .int a, .int j] (fun H => MAt G o S sp bf sv iz rr pd ln sts td ac H) (rd (.int (mLetter S a j))) noF := by
  refine g_enter "GaleNamesModel" (by decide +kernel) rfl (Nat.le_of_ble_eq_true rfl) ?_
  intro p e s m args below meth c C0 hlk hr hnm hP hK ls hl
  have hx := C0.1
  have hb := C0.2.1
  have hl : lv_has ls 3 [(0, .ref o), (1, .int a), (2, .int j)] := hl
  have hn40 := hM.n
  have hg16 := hM.g
  have hk10 := hM.k
  refine lv_aload_n hx hb d_Mo_letter_0 rfl (lv_at hl 0 rfl) ?_
  refine lv_iload_n hx hb d_Mo_letter_1 rfl (lv_at hl 1 rfl) ?_
  refine g_V C0 (k_Mo_isName l G o S sp bf sv iz rr pd ln sts td ac a hM) co_Mo_isName im_Mo_isName se_Mo_isName in_Mo gc_Mo_isName ml_Mo_142 ⟨Nat.le_of_ble_eq_true rfl, Nat.le_of_ble_eq_true rfl⟩ hK hP.1 rfl ⟨hP.1, hP.2.1, hP.2.2.1, hP.2.2.2.1, hP.2.2.2.2.1, hP.2.2.2.2.2.1, hP.2.2.2.2.2.2.1, hP.2.2.2.2.2.2.2⟩ rfl hl.1 rfl (Nat.le_of_ble_eq_true rfl) d_Mo_letter_2 ⟨Nat.le_of_ble_eq_true rfl, Nat.le_of_ble_eq_true rfl⟩ (g_r rfl ?_)
  refine g_zeq (tgt := 43) C0 d_Mo_letter_5 (by decide) (fun c_5 => ?_) (fun c_5 => ?_)
  · skip
    refine lv_iconst (v := -1) hx hb d_Mo_letter_43 (by decide +kernel) ?_
    refine g_iret C0 hlk hr d_Mo_letter_44 (t_nil (free := noF)) ?_
    exact ⟨rdI (by rw [mLetter, c_5]; rfl), rfl⟩
  · skip
    obtain ⟨i, hi, hi31, rfl⟩ := inR_t c_5
    have hnl := hM.nl hi
    refine lv_iload_n hx hb d_Mo_letter_8 rfl (lv_at hl 2 rfl) ?_
    refine lv_iconst (v := nI 0) hx hb d_Mo_letter_9 (by decide +kernel) ?_
    refine lv_aload_n hx hb d_Mo_letter_10 rfl (lv_at hl 0 rfl) ?_
    refine g_get C0 hK il_Mo hP.1 rfl 0 (by decide) fl_Mo_7 rfl d_Mo_letter_11 ?_
    refine lv_iload_n hx hb d_Mo_letter_14 rfl (lv_at hl 1 rfl) ?_
    refine g_S C0 (k_Mo_n l G i) co_Mo_n sm_Mo_n in_Mo gc_Mo_n ml_Mo_57 ⟨Nat.le_of_ble_eq_true rfl, Nat.le_of_ble_eq_true rfl⟩ hK trivial rfl hl.1 rfl (Nat.le_of_ble_eq_true rfl) d_Mo_letter_15 ⟨Nat.le_of_ble_eq_true rfl, Nat.le_of_ble_eq_true rfl⟩ (g_r rfl ?_)
    refine g_iald C0 hK hP.2.1 (by omega) (by omega) d_Mo_letter_18 ?_
    refine lv_iconst (v := nI 1) hx hb d_Mo_letter_19 (by decide +kernel) ?_
    refine lv_isub hx hb d_Mo_letter_20 ?_
    refine g_S C0 (k_Mo_in l G j (nI 0) ((nI (S (9 + 10 * i))) - (nI 1))) co_Mo_in sm_Mo_in in_Mo gc_Mo_in ml_Mo_33 ⟨Nat.le_of_ble_eq_true rfl, Nat.le_of_ble_eq_true rfl⟩ hK trivial rfl hl.1 rfl (Nat.le_of_ble_eq_true rfl) d_Mo_letter_21 ⟨Nat.le_of_ble_eq_true rfl, Nat.le_of_ble_eq_true rfl⟩ (g_r rfl ?_)
    refine g_zeq (tgt := 43) C0 d_Mo_letter_24 (by decide) (fun c_24 => ?_) (fun c_24 => ?_)
    · skip
      have c_24 : inR j (S (9 + 10 * i)) = false := (inD_R (hM.b (by omega))).symm.trans c_24
      refine lv_iconst (v := -1) hx hb d_Mo_letter_43 (by decide +kernel) ?_
      refine g_iret C0 hlk hr d_Mo_letter_44 (t_nil (free := noF)) ?_
      exact ⟨rdI (by rw [mLetter, c_5, nI_clamp hi31, c_24]; rfl), rfl⟩
    · skip
      have c_24 : inR j (S (9 + 10 * i)) = true := (inD_R (hM.b (by omega))).symm.trans c_24
      obtain ⟨q, hq, hq31, rfl⟩ := inR_t c_24
      refine lv_aload_n hx hb d_Mo_letter_27 rfl (lv_at hl 0 rfl) ?_
      refine g_get C0 hK il_Mo hP.1 rfl 0 (by decide) fl_Mo_7 rfl d_Mo_letter_28 ?_
      refine lv_iload_n hx hb d_Mo_letter_31 rfl (lv_at hl 1 rfl) ?_
      refine g_S C0 (k_Mo_n l G i) co_Mo_n sm_Mo_n in_Mo gc_Mo_n ml_Mo_57 ⟨Nat.le_of_ble_eq_true rfl, Nat.le_of_ble_eq_true rfl⟩ hK trivial rfl hl.1 rfl (Nat.le_of_ble_eq_true rfl) d_Mo_letter_32 ⟨Nat.le_of_ble_eq_true rfl, Nat.le_of_ble_eq_true rfl⟩ (g_r rfl ?_)
      refine lv_iconst (v := nI 1) hx hb d_Mo_letter_35 (by decide +kernel) ?_
      refine g_iadd C0 (z := 9 + 10 * i + 1) d_Mo_letter_36 rfl ?_
      refine lv_iload_n hx hb d_Mo_letter_37 rfl (lv_at hl 2 rfl) ?_
      refine g_iadd C0 (z := 9 + 10 * i + 1 + q) d_Mo_letter_38 rfl ?_
      refine g_iald C0 hK hP.2.1 (by omega) (by omega) d_Mo_letter_39 ?_
      refine lv_goto (tgt := 44) hx hb d_Mo_letter_40 (by decide) ?_
      refine g_iret C0 hlk hr d_Mo_letter_44 (t_nil (free := noF)) ?_
      exact ⟨rdI (by rw [mLetter, c_5, nI_clamp hi31, c_24, nI_clamp hq31]; rfl), rfl⟩

set_option maxHeartbeats 4000000 in
set_option maxRecDepth 100000 in
theorem k_Mo_listed (l : Launch) (G : gT) (o : Nat) (S sp bf sv iz rr pd : Nat → Nat) (ln sts td ac : Nat) (a k p2 : Int32) (hM : mOk S) : gM l y_Mo_listed c_Mo_listed 4 (some .int) 2 43 0 0 G [.ref o, .int a, .int k, .int p2] (fun H => MAt G o S sp bf sv iz rr pd ln sts td ac H) (rd (.int (mListed S a k p2))) noF := by
  refine g_enter "GaleNamesModel" (by decide +kernel) rfl (Nat.le_of_ble_eq_true rfl) ?_
  intro p e s m args below meth c C0 hlk hr hnm hP hK ls hl
  have hx := C0.1
  have hb := C0.2.1
  have hl : lv_has ls 4 [(0, .ref o), (1, .int a), (2, .int k), (3, .int p2)] := hl
  have hn40 := hM.n
  have hg16 := hM.g
  have hk10 := hM.k
  refine lv_iload_n hx hb d_Mo_listed_0 rfl (lv_at hl 1 rfl) ?_
  refine lv_iload_n hx hb d_Mo_listed_1 rfl (lv_at hl 2 rfl) ?_
  refine g_S C0 (k_Mo_isList l G a k) co_Mo_isList sm_Mo_isList in_Mo gc_Mo_isList ml_Mo_106 ⟨Nat.le_of_ble_eq_true rfl, Nat.le_of_ble_eq_true rfl⟩ hK trivial rfl hl.1 rfl (Nat.le_of_ble_eq_true rfl) d_Mo_listed_2 ⟨Nat.le_of_ble_eq_true rfl, Nat.le_of_ble_eq_true rfl⟩ (g_r rfl ?_)
  refine g_zeq (tgt := 45) C0 d_Mo_listed_5 (by decide) (fun c_5 => ?_) (fun c_5 => ?_)
  · skip
    refine lv_iconst (v := -1) hx hb d_Mo_listed_45 (by decide +kernel) ?_
    refine g_iret C0 hlk hr d_Mo_listed_46 (t_nil (free := noF)) ?_
    exact ⟨rdI (by rw [mListed, c_5]; rfl), rfl⟩
  · skip
    have h0 := c_5
    unfold inL at h0
    rw [Bool.and_eq_true] at h0
    obtain ⟨i, hi, hi31, rfl⟩ := inR_t h0.1
    obtain ⟨j, hj, hj31, rfl⟩ := inR_t h0.2
    have hl8 := hM.l hi hj
    refine lv_iload_n hx hb d_Mo_listed_8 rfl (lv_at hl 3 rfl) ?_
    refine lv_iconst (v := nI 0) hx hb d_Mo_listed_9 (by decide +kernel) ?_
    refine lv_aload_n hx hb d_Mo_listed_10 rfl (lv_at hl 0 rfl) ?_
    refine g_get C0 hK il_Mo hP.1 rfl 0 (by decide) fl_Mo_7 rfl d_Mo_listed_11 ?_
    refine lv_iload_n hx hb d_Mo_listed_14 rfl (lv_at hl 1 rfl) ?_
    refine lv_iload_n hx hb d_Mo_listed_15 rfl (lv_at hl 2 rfl) ?_
    refine g_S C0 (k_Mo_l l G i j) co_Mo_l sm_Mo_l in_Mo gc_Mo_l ml_Mo_68 ⟨Nat.le_of_ble_eq_true rfl, Nat.le_of_ble_eq_true rfl⟩ hK trivial rfl hl.1 rfl (Nat.le_of_ble_eq_true rfl) d_Mo_listed_16 ⟨Nat.le_of_ble_eq_true rfl, Nat.le_of_ble_eq_true rfl⟩ (g_r rfl ?_)
    refine g_iald C0 hK hP.2.1 (by omega) (by omega) d_Mo_listed_19 ?_
    refine lv_iconst (v := nI 1) hx hb d_Mo_listed_20 (by decide +kernel) ?_
    refine lv_isub hx hb d_Mo_listed_21 ?_
    refine g_S C0 (k_Mo_in l G p2 (nI 0) ((nI (S (409 + 27 * i + 9 * j))) - (nI 1))) co_Mo_in sm_Mo_in in_Mo gc_Mo_in ml_Mo_33 ⟨Nat.le_of_ble_eq_true rfl, Nat.le_of_ble_eq_true rfl⟩ hK trivial rfl hl.1 rfl (Nat.le_of_ble_eq_true rfl) d_Mo_listed_22 ⟨Nat.le_of_ble_eq_true rfl, Nat.le_of_ble_eq_true rfl⟩ (g_r rfl ?_)
    refine g_zeq (tgt := 45) C0 d_Mo_listed_25 (by decide) (fun c_25 => ?_) (fun c_25 => ?_)
    · skip
      have c_25 : inR p2 (S (409 + 27 * i + 9 * j)) = false := (inD_R (hM.b (by omega))).symm.trans c_25
      refine lv_iconst (v := -1) hx hb d_Mo_listed_45 (by decide +kernel) ?_
      refine g_iret C0 hlk hr d_Mo_listed_46 (t_nil (free := noF)) ?_
      exact ⟨rdI (by rw [mListed, c_5, nI_clamp hi31, nI_clamp hj31, c_25]; rfl), rfl⟩
    · skip
      have c_25 : inR p2 (S (409 + 27 * i + 9 * j)) = true := (inD_R (hM.b (by omega))).symm.trans c_25
      obtain ⟨q, hq, hq31, rfl⟩ := inR_t c_25
      refine lv_aload_n hx hb d_Mo_listed_28 rfl (lv_at hl 0 rfl) ?_
      refine g_get C0 hK il_Mo hP.1 rfl 0 (by decide) fl_Mo_7 rfl d_Mo_listed_29 ?_
      refine lv_iload_n hx hb d_Mo_listed_32 rfl (lv_at hl 1 rfl) ?_
      refine lv_iload_n hx hb d_Mo_listed_33 rfl (lv_at hl 2 rfl) ?_
      refine g_S C0 (k_Mo_l l G i j) co_Mo_l sm_Mo_l in_Mo gc_Mo_l ml_Mo_68 ⟨Nat.le_of_ble_eq_true rfl, Nat.le_of_ble_eq_true rfl⟩ hK trivial rfl hl.1 rfl (Nat.le_of_ble_eq_true rfl) d_Mo_listed_34 ⟨Nat.le_of_ble_eq_true rfl, Nat.le_of_ble_eq_true rfl⟩ (g_r rfl ?_)
      refine lv_iconst (v := nI 1) hx hb d_Mo_listed_37 (by decide +kernel) ?_
      refine g_iadd C0 (z := 409 + 27 * i + 9 * j + 1) d_Mo_listed_38 rfl ?_
      refine lv_iload_n hx hb d_Mo_listed_39 rfl (lv_at hl 3 rfl) ?_
      refine g_iadd C0 (z := 409 + 27 * i + 9 * j + 1 + q) d_Mo_listed_40 rfl ?_
      refine g_iald C0 hK hP.2.1 (by omega) (by omega) d_Mo_listed_41 ?_
      refine lv_goto (tgt := 46) hx hb d_Mo_listed_42 (by decide) ?_
      refine g_iret C0 hlk hr d_Mo_listed_46 (t_nil (free := noF)) ?_
      exact ⟨rdI (by rw [mListed, c_5, nI_clamp hi31, nI_clamp hj31, c_25, nI_clamp hq31]; rfl), rfl⟩

set_option maxHeartbeats 4000000 in
set_option maxRecDepth 100000 in
theorem k_Mo_twin (l : Launch) (G : gT) (o : Nat) (S sp bf sv iz rr pd : Nat → Nat) (ln sts td ac : Nat) (g : Nat) (hg : g < S 5) (hM : mOk S) : gM l y_Mo_twin c_Mo_twin 4 (some .int) 1 20 0 0 G [.ref o, .int (nI g)] (fun H => MAt G o S sp bf sv iz rr pd ln sts td ac H) (rd (.int (oI (-6) (mTw S g)))) noF := by
  refine g_enter "GaleNamesModel" (by decide +kernel) rfl (Nat.le_of_ble_eq_true rfl) ?_
  intro p e s m args below meth c C0 hlk hr hnm hP hK ls hl
  have hx := C0.1
  have hb := C0.2.1
  have hl : lv_has ls 4 [(0, .ref o), (1, .int (nI g))] := hl
  have hn40 := hM.n
  have hg16 := hM.g
  have hk10 := hM.k
  refine lv_bipush (v := -6) hx hb d_Mo_twin_0 (by decide +kernel) ?_
  refine lv_istore_n (lv' := [(2, .int (-6)), (0, .ref o), (1, .int (nI g))]) hx hb d_Mo_twin_2 rfl hl (by decide) rfl (fun ls hl => ?_)
  refine lv_iconst (v := nI 0) hx hb d_Mo_twin_3 (by decide +kernel) ?_
  refine lv_istore_n (lv' := [(3, .int (nI 0)), (2, .int (-6)), (0, .ref o), (1, .int (nI g))]) hx hb d_Mo_twin_4 rfl hl (by decide) rfl (fun ls hl => ?_)
  have lp5 : ∀ (fu : Nat) (i : Nat) (f : Option Nat), (S 5 - i) < fu → i ≤ S 5 → f = lF (fun o => o != g && S (463 + 3 * o) == S (463 + 3 * g)) i → ∀ ls : Array Slot, lv_has ls 4 [(3, .int (nI i)), (2, .int (oI (-6) f)), (0, .ref o), (1, .int (nI g))] → W p l e ({ frames := 1, cells := 0, slots := 0, locals := 20 } : Room) s m args below meth c s.heap [] 0 0 (MQ below (gQ (rd (.int (oI (-6) (mTw S g))))) args s 0 0 noF) (F0 m 5 ls []) := by
    intro fu
    induction fu with
    | zero => intro i f  hfu; exact absurd hfu (Nat.not_lt_zero _)
    | succ fu ih5 =>
      intro i f hfu hi hf2 ls hl
      refine lv_iload_n hx hb d_Mo_twin_5 rfl (lv_at hl 0 rfl) ?_
      refine lv_aload_n hx hb d_Mo_twin_6 rfl (lv_at hl 2 rfl) ?_
      refine g_get C0 hK il_Mo hP.1 rfl 0 (by decide) fl_Mo_7 rfl d_Mo_twin_7 ?_
      refine lv_iconst (v := nI 5) hx hb d_Mo_twin_10 (by decide +kernel) ?_
      refine g_iald C0 hK hP.2.1 (by omega) (by omega) d_Mo_twin_11 ?_
      refine g_cge (tgt := 53) C0 d_Mo_twin_12 (by decide) (by first | omega | exact hM.b (by omega) | exact hR.p (by omega)) (by first | omega | exact hM.b (by omega) | exact hR.p (by omega)) (fun c_12 => ?_) (fun c_12 => ?_)
      · skip
        refine lv_iload_n hx hb d_Mo_twin_53 rfl (lv_at hl 1 rfl) ?_
        refine g_iret C0 hlk hr d_Mo_twin_54 (t_nil (free := noF)) ?_
        exact ⟨rdI (by rw [hf2, show i = S 5 by omega]; rfl), rfl⟩
      · skip
        refine lv_iload_n hx hb d_Mo_twin_15 rfl (lv_at hl 0 rfl) ?_
        refine lv_iload_n hx hb d_Mo_twin_16 rfl (lv_at hl 3 rfl) ?_
        refine g_ceq (tgt := 45) C0 d_Mo_twin_17 (by decide) (by first | omega | exact hM.b (by omega) | exact hR.p (by omega)) (by first | omega | exact hM.b (by omega) | exact hR.p (by omega)) (fun c_17 => ?_) (fun c_17 => ?_)
        · skip
          refine lv_iload_n hx hb d_Mo_twin_45 rfl (lv_at hl 1 rfl) ?_
          refine lv_istore_n (lv' := [(2, .int (oI (-6) f)), (3, .int (nI i)), (0, .ref o), (1, .int (nI g))]) hx hb d_Mo_twin_46 rfl hl (by decide) rfl (fun ls hl => ?_)
          refine lv_iinc (v := (nI (i + 1))) (lv' := [(3, .int (nI (i + 1))), (2, .int (oI (-6) f)), (0, .ref o), (1, .int (nI g))]) hx hb d_Mo_twin_47 hl (k := 1) rfl (gI_inc _) (by decide) rfl (fun ls hl => ?_)
          refine lv_goto (tgt := 5) hx hb d_Mo_twin_50 (by decide) ?_
          exact ih5 (i + 1) f (by omega) (by omega) (by rw [hf2]; exact (lF_f (by simp [c_17])).symm) ls (lv_sub hl [0, 1, 2, 3] rfl)
        · skip
          refine lv_aload_n hx hb d_Mo_twin_20 rfl (lv_at hl 2 rfl) ?_
          refine g_get C0 hK il_Mo hP.1 rfl 0 (by decide) fl_Mo_7 rfl d_Mo_twin_21 ?_
          refine lv_iload_n hx hb d_Mo_twin_24 rfl (lv_at hl 0 rfl) ?_
          refine g_S C0 (k_Mo_g l G i) co_Mo_g sm_Mo_g in_Mo gc_Mo_g ml_Mo_74 ⟨Nat.le_of_ble_eq_true rfl, Nat.le_of_ble_eq_true rfl⟩ hK trivial rfl hl.1 rfl (Nat.le_of_ble_eq_true rfl) d_Mo_twin_25 ⟨Nat.le_of_ble_eq_true rfl, Nat.le_of_ble_eq_true rfl⟩ (g_r rfl ?_)
          refine g_iald C0 hK hP.2.1 (by omega) (by omega) d_Mo_twin_28 ?_
          refine lv_aload_n hx hb d_Mo_twin_29 rfl (lv_at hl 2 rfl) ?_
          refine g_get C0 hK il_Mo hP.1 rfl 0 (by decide) fl_Mo_7 rfl d_Mo_twin_30 ?_
          refine lv_iload_n hx hb d_Mo_twin_33 rfl (lv_at hl 3 rfl) ?_
          refine g_S C0 (k_Mo_g l G g) co_Mo_g sm_Mo_g in_Mo gc_Mo_g ml_Mo_74 ⟨Nat.le_of_ble_eq_true rfl, Nat.le_of_ble_eq_true rfl⟩ hK trivial rfl hl.1 rfl (Nat.le_of_ble_eq_true rfl) d_Mo_twin_34 ⟨Nat.le_of_ble_eq_true rfl, Nat.le_of_ble_eq_true rfl⟩ (g_r rfl ?_)
          refine g_iald C0 hK hP.2.1 (by omega) (by omega) d_Mo_twin_37 ?_
          refine g_cne (tgt := 45) C0 d_Mo_twin_38 (by decide) (by first | omega | exact hM.b (by omega) | exact hR.p (by omega)) (by first | omega | exact hM.b (by omega) | exact hR.p (by omega)) (fun c_38 => ?_) (fun c_38 => ?_)
          · skip
            refine lv_iload_n hx hb d_Mo_twin_45 rfl (lv_at hl 1 rfl) ?_
            refine lv_istore_n (lv' := [(2, .int (oI (-6) f)), (3, .int (nI i)), (0, .ref o), (1, .int (nI g))]) hx hb d_Mo_twin_46 rfl hl (by decide) rfl (fun ls hl => ?_)
            refine lv_iinc (v := (nI (i + 1))) (lv' := [(3, .int (nI (i + 1))), (2, .int (oI (-6) f)), (0, .ref o), (1, .int (nI g))]) hx hb d_Mo_twin_47 hl (k := 1) rfl (gI_inc _) (by decide) rfl (fun ls hl => ?_)
            refine lv_goto (tgt := 5) hx hb d_Mo_twin_50 (by decide) ?_
            exact ih5 (i + 1) f (by omega) (by omega) (by rw [hf2]; exact (lF_f (by simp [c_38])).symm) ls (lv_sub hl [0, 1, 2, 3] rfl)
          · skip
            refine lv_iload_n hx hb d_Mo_twin_41 rfl (lv_at hl 0 rfl) ?_
            refine lv_goto (tgt := 46) hx hb d_Mo_twin_42 (by decide) ?_
            refine lv_istore_n (lv' := [(2, .int (nI i)), (3, .int (nI i)), (0, .ref o), (1, .int (nI g))]) hx hb d_Mo_twin_46 rfl hl (by decide) rfl (fun ls hl => ?_)
            refine lv_iinc (v := (nI (i + 1))) (lv' := [(3, .int (nI (i + 1))), (2, .int (nI i)), (0, .ref o), (1, .int (nI g))]) hx hb d_Mo_twin_47 hl (k := 1) rfl (gI_inc _) (by decide) rfl (fun ls hl => ?_)
            refine lv_goto (tgt := 5) hx hb d_Mo_twin_50 (by decide) ?_
            exact ih5 (i + 1) (some i) (by omega) (by omega) (lF_t (by simp [c_17, c_38])).symm ls (lv_sub hl [0, 1, 2, 3] rfl)
  exact lp5 ((S 5 - 0) + 1) 0 none (by omega) (by omega) rfl ls (lv_sub hl [0, 1, 2, 3] rfl)

set_option maxHeartbeats 4000000 in
set_option maxRecDepth 100000 in
theorem k_Mo_ofStorm (l : Launch) (G : gT) (o : Nat) (S sp bf sv iz rr pd : Nat → Nat) (ln sts td ac : Nat) (a w : Int32) (hM : mOk S) : gM l y_Mo_ofStorm c_Mo_ofStorm 3 (some .int) 2 43 0 0 G [.ref o, .int a, .int w] (fun H => MAt G o S sp bf sv iz rr pd ln sts td ac H) (rd (.int (mOfS S a w))) noF := by
  refine g_enter "GaleNamesModel" (by decide +kernel) rfl (Nat.le_of_ble_eq_true rfl) ?_
  intro p e s m args below meth c C0 hlk hr hnm hP hK ls hl
  have hx := C0.1
  have hb := C0.2.1
  have hl : lv_has ls 3 [(0, .ref o), (1, .int a), (2, .int w)] := hl
  have hn40 := hM.n
  have hg16 := hM.g
  have hk10 := hM.k
  refine lv_aload_n hx hb d_Mo_ofStorm_0 rfl (lv_at hl 0 rfl) ?_
  refine lv_iload_n hx hb d_Mo_ofStorm_1 rfl (lv_at hl 1 rfl) ?_
  refine g_V C0 (k_Mo_isStorm l G o S sp bf sv iz rr pd ln sts td ac a hM) co_Mo_isStorm im_Mo_isStorm se_Mo_isStorm in_Mo gc_Mo_isStorm ml_Mo_122 ⟨Nat.le_of_ble_eq_true rfl, Nat.le_of_ble_eq_true rfl⟩ hK hP.1 rfl ⟨hP.1, hP.2.1, hP.2.2.1, hP.2.2.2.1, hP.2.2.2.2.1, hP.2.2.2.2.2.1, hP.2.2.2.2.2.2.1, hP.2.2.2.2.2.2.2⟩ rfl hl.1 rfl (Nat.le_of_ble_eq_true rfl) d_Mo_ofStorm_2 ⟨Nat.le_of_ble_eq_true rfl, Nat.le_of_ble_eq_true rfl⟩ (g_r rfl ?_)
  refine g_zne (tgt := 12) C0 d_Mo_ofStorm_5 (by decide) (fun c_5 => ?_) (fun c_5 => ?_)
  · skip
    obtain ⟨i, hi, hi31, rfl⟩ := inR_t c_5
    refine lv_iload_n hx hb d_Mo_ofStorm_12 rfl (lv_at hl 2 rfl) ?_
    refine lv_iconst (v := nI 0) hx hb d_Mo_ofStorm_13 (by decide +kernel) ?_
    refine lv_iconst (v := nI 2) hx hb d_Mo_ofStorm_14 (by decide +kernel) ?_
    refine g_S C0 (k_Mo_in l G w (nI 0) (nI 2)) co_Mo_in sm_Mo_in in_Mo gc_Mo_in ml_Mo_33 ⟨Nat.le_of_ble_eq_true rfl, Nat.le_of_ble_eq_true rfl⟩ hK trivial rfl hl.1 rfl (Nat.le_of_ble_eq_true rfl) d_Mo_ofStorm_15 ⟨Nat.le_of_ble_eq_true rfl, Nat.le_of_ble_eq_true rfl⟩ (g_r rfl ?_)
    refine g_zeq (tgt := 35) C0 d_Mo_ofStorm_18 (by decide) (fun c_18 => ?_) (fun c_18 => ?_)
    · skip
      have c_18 : inR w 3 = false := (inD_c (h := 2) (by decide)).symm.trans c_18
      refine lv_iload_n hx hb d_Mo_ofStorm_35 rfl (lv_at hl 2 rfl) ?_
      refine lv_iconst (v := nI 3) hx hb d_Mo_ofStorm_36 (by decide +kernel) ?_
      refine lv_icmp_ne (tgt := 48) hx hb d_Mo_ofStorm_37 (by decide) (fun c_37 => ?_) (fun c_37 => ?_)
      · skip
        refine lv_bipush (v := -2) hx hb d_Mo_ofStorm_48 (by decide +kernel) ?_
        refine g_iret C0 hlk hr d_Mo_ofStorm_50 (t_nil (free := noF)) ?_
        exact ⟨rdI (by rw [mOfS, c_5, if_pos rfl, c_18, if_neg Bool.false_ne_true, if_neg c_37] <;> rfl), rfl⟩
      · skip
        refine lv_aload_n hx hb d_Mo_ofStorm_40 rfl (lv_at hl 0 rfl) ?_
        refine lv_iload_n hx hb d_Mo_ofStorm_41 rfl (lv_at hl 1 rfl) ?_
        refine g_V C0 (k_Mo_twin l G o S sp bf sv iz rr pd ln sts td ac i (by omega) hM) co_Mo_twin im_Mo_twin se_Mo_twin in_Mo gc_Mo_twin ml_Mo_148 ⟨Nat.le_of_ble_eq_true rfl, Nat.le_of_ble_eq_true rfl⟩ hK hP.1 rfl ⟨hP.1, hP.2.1, hP.2.2.1, hP.2.2.2.1, hP.2.2.2.2.1, hP.2.2.2.2.2.1, hP.2.2.2.2.2.2.1, hP.2.2.2.2.2.2.2⟩ rfl hl.1 rfl (Nat.le_of_ble_eq_true rfl) d_Mo_ofStorm_42 ⟨Nat.le_of_ble_eq_true rfl, Nat.le_of_ble_eq_true rfl⟩ (g_r rfl ?_)
        refine lv_goto (tgt := 50) hx hb d_Mo_ofStorm_45 (by decide) ?_
        refine g_iret C0 hlk hr d_Mo_ofStorm_50 (t_nil (free := noF)) ?_
        exact ⟨rdI (by rw [mOfS, c_5, if_pos rfl, c_18, if_neg Bool.false_ne_true, if_pos c_37, nI_clamp hi31] <;> rfl), rfl⟩
    · skip
      have c_18 : inR w 3 = true := (inD_c (h := 2) (by decide)).symm.trans c_18
      obtain ⟨j, hj, hj31, rfl⟩ := inR_t c_18
      refine lv_aload_n hx hb d_Mo_ofStorm_21 rfl (lv_at hl 0 rfl) ?_
      refine g_get C0 hK il_Mo hP.1 rfl 0 (by decide) fl_Mo_7 rfl d_Mo_ofStorm_22 ?_
      refine lv_iload_n hx hb d_Mo_ofStorm_25 rfl (lv_at hl 1 rfl) ?_
      refine g_S C0 (k_Mo_g l G i) co_Mo_g sm_Mo_g in_Mo gc_Mo_g ml_Mo_74 ⟨Nat.le_of_ble_eq_true rfl, Nat.le_of_ble_eq_true rfl⟩ hK trivial rfl hl.1 rfl (Nat.le_of_ble_eq_true rfl) d_Mo_ofStorm_26 ⟨Nat.le_of_ble_eq_true rfl, Nat.le_of_ble_eq_true rfl⟩ (g_r rfl ?_)
      refine lv_iload_n hx hb d_Mo_ofStorm_29 rfl (lv_at hl 2 rfl) ?_
      refine g_iadd C0 (z := 463 + 3 * i + j) d_Mo_ofStorm_30 rfl ?_
      refine g_iald C0 hK hP.2.1 (by omega) (by omega) d_Mo_ofStorm_31 ?_
      refine lv_goto (tgt := 50) hx hb d_Mo_ofStorm_32 (by decide) ?_
      refine g_iret C0 hlk hr d_Mo_ofStorm_50 (t_nil (free := noF)) ?_
      exact ⟨rdI (by rw [mOfS, c_5, if_pos rfl, c_18, if_pos rfl, nI_clamp hi31, nI_clamp hj31] <;> rfl), rfl⟩
  · skip
    refine lv_iconst (v := -1) hx hb d_Mo_ofStorm_8 (by decide +kernel) ?_
    refine lv_goto (tgt := 50) hx hb d_Mo_ofStorm_9 (by decide) ?_
    refine g_iret C0 hlk hr d_Mo_ofStorm_50 (t_nil (free := noF)) ?_
    exact ⟨rdI (by rw [mOfS, c_5] <;> rfl), rfl⟩

set_option maxHeartbeats 4000000 in
set_option maxRecDepth 100000 in
theorem k_Mo_ofNamesake (l : Launch) (G : gT) (o : Nat) (S sp bf sv iz rr pd : Nat → Nat) (ln sts td ac : Nat) (a w : Int32) (hM : mOk S) : gM l y_Mo_ofNamesake c_Mo_ofNamesake 3 (some .int) 2 43 0 0 G [.ref o, .int a, .int w] (fun H => MAt G o S sp bf sv iz rr pd ln sts td ac H) (rd (.int (mOfN S a w))) noF := by
  refine g_enter "GaleNamesModel" (by decide +kernel) rfl (Nat.le_of_ble_eq_true rfl) ?_
  intro p e s m args below meth c C0 hlk hr hnm hP hK ls hl
  have hx := C0.1
  have hb := C0.2.1
  have hl : lv_has ls 3 [(0, .ref o), (1, .int a), (2, .int w)] := hl
  have hn40 := hM.n
  have hg16 := hM.g
  have hk10 := hM.k
  refine lv_aload_n hx hb d_Mo_ofNamesake_0 rfl (lv_at hl 0 rfl) ?_
  refine lv_iload_n hx hb d_Mo_ofNamesake_1 rfl (lv_at hl 1 rfl) ?_
  refine g_V C0 (k_Mo_isSake l G o S sp bf sv iz rr pd ln sts td ac a hM) co_Mo_isSake im_Mo_isSake se_Mo_isSake in_Mo gc_Mo_isSake ml_Mo_136 ⟨Nat.le_of_ble_eq_true rfl, Nat.le_of_ble_eq_true rfl⟩ hK hP.1 rfl ⟨hP.1, hP.2.1, hP.2.2.1, hP.2.2.2.1, hP.2.2.2.2.1, hP.2.2.2.2.2.1, hP.2.2.2.2.2.2.1, hP.2.2.2.2.2.2.2⟩ rfl hl.1 rfl (Nat.le_of_ble_eq_true rfl) d_Mo_ofNamesake_2 ⟨Nat.le_of_ble_eq_true rfl, Nat.le_of_ble_eq_true rfl⟩ (g_r rfl ?_)
  refine g_zne (tgt := 12) C0 d_Mo_ofNamesake_5 (by decide) (fun c_5 => ?_) (fun c_5 => ?_)
  · skip
    obtain ⟨i, hi, hi31, rfl⟩ := inR_t c_5
    refine lv_iload_n hx hb d_Mo_ofNamesake_12 rfl (lv_at hl 2 rfl) ?_
    refine lv_iconst (v := nI 0) hx hb d_Mo_ofNamesake_13 (by decide +kernel) ?_
    refine lv_iconst (v := nI 2) hx hb d_Mo_ofNamesake_14 (by decide +kernel) ?_
    refine g_S C0 (k_Mo_in l G w (nI 0) (nI 2)) co_Mo_in sm_Mo_in in_Mo gc_Mo_in ml_Mo_33 ⟨Nat.le_of_ble_eq_true rfl, Nat.le_of_ble_eq_true rfl⟩ hK trivial rfl hl.1 rfl (Nat.le_of_ble_eq_true rfl) d_Mo_ofNamesake_15 ⟨Nat.le_of_ble_eq_true rfl, Nat.le_of_ble_eq_true rfl⟩ (g_r rfl ?_)
    refine g_zeq (tgt := 35) C0 d_Mo_ofNamesake_18 (by decide) (fun c_18 => ?_) (fun c_18 => ?_)
    · skip
      have c_18 : inR w 3 = false := (inD_c (h := 2) (by decide)).symm.trans c_18
      refine lv_bipush (v := -2) hx hb d_Mo_ofNamesake_35 (by decide +kernel) ?_
      refine g_iret C0 hlk hr d_Mo_ofNamesake_37 (t_nil (free := noF)) ?_
      exact ⟨rdI (by rw [mOfN, c_5, if_pos rfl, c_18] <;> rfl), rfl⟩
    · skip
      have c_18 : inR w 3 = true := (inD_c (h := 2) (by decide)).symm.trans c_18
      obtain ⟨j, hj, hj31, rfl⟩ := inR_t c_18
      refine lv_aload_n hx hb d_Mo_ofNamesake_21 rfl (lv_at hl 0 rfl) ?_
      refine g_get C0 hK il_Mo hP.1 rfl 0 (by decide) fl_Mo_7 rfl d_Mo_ofNamesake_22 ?_
      refine lv_iload_n hx hb d_Mo_ofNamesake_25 rfl (lv_at hl 1 rfl) ?_
      refine g_S C0 (k_Mo_k l G i) co_Mo_k sm_Mo_k in_Mo gc_Mo_k ml_Mo_126 ⟨Nat.le_of_ble_eq_true rfl, Nat.le_of_ble_eq_true rfl⟩ hK trivial rfl hl.1 rfl (Nat.le_of_ble_eq_true rfl) d_Mo_ofNamesake_26 ⟨Nat.le_of_ble_eq_true rfl, Nat.le_of_ble_eq_true rfl⟩ (g_r rfl ?_)
      refine lv_iload_n hx hb d_Mo_ofNamesake_29 rfl (lv_at hl 2 rfl) ?_
      refine g_iadd C0 (z := 511 + 3 * i + j) d_Mo_ofNamesake_30 rfl ?_
      refine g_iald C0 hK hP.2.1 (by omega) (by omega) d_Mo_ofNamesake_31 ?_
      refine lv_goto (tgt := 37) hx hb d_Mo_ofNamesake_32 (by decide) ?_
      refine g_iret C0 hlk hr d_Mo_ofNamesake_37 (t_nil (free := noF)) ?_
      exact ⟨rdI (by rw [mOfN, c_5, if_pos rfl, c_18, if_pos rfl, nI_clamp hi31, nI_clamp hj31] <;> rfl), rfl⟩
  · skip
    refine lv_iconst (v := -1) hx hb d_Mo_ofNamesake_8 (by decide +kernel) ?_
    refine lv_goto (tgt := 37) hx hb d_Mo_ofNamesake_9 (by decide) ?_
    refine g_iret C0 hlk hr d_Mo_ofNamesake_37 (t_nil (free := noF)) ?_
    exact ⟨rdI (by rw [mOfN, c_5] <;> rfl), rfl⟩

set_option maxHeartbeats 4000000 in
set_option maxRecDepth 100000 in
theorem k_Mo_isAhead (l : Launch) (G : gT) (o : Nat) (S sp bf sv iz rr pd : Nat → Nat) (ln sts td ac : Nat) (a b : Nat) (ha : a < S 4) (hb2 : b < S 4) (hM : mOk S) : gM l y_Mo_isAhead c_Mo_isAhead 4 (some .boolean) 2 43 0 0 G [.ref o, .int (nI a), .int (nI b)] (fun H => MAt G o S sp bf sv iz rr pd ln sts td ac H) (rd (.int (bI (mAh S a b)))) noF := by
  refine g_enter "GaleNamesModel" (by decide +kernel) rfl (Nat.le_of_ble_eq_true rfl) ?_
  intro p e s m args below meth c C0 hlk hr hnm hP hK ls hl
  have hx := C0.1
  have hb := C0.2.1
  have hl : lv_has ls 4 [(0, .ref o), (1, .int (nI a)), (2, .int (nI b))] := hl
  have hn40 := hM.n
  have hg16 := hM.g
  have hk10 := hM.k
  have hla := hM.nl ha
  have hlb := hM.nl hb2
  have hp6 : mPx S a b ≤ 6 := pfx_le _ _
  refine lv_aload_n hx hb d_Mo_isAhead_0 rfl (lv_at hl 0 rfl) ?_
  refine lv_iload_n hx hb d_Mo_isAhead_1 rfl (lv_at hl 1 rfl) ?_
  refine lv_iload_n hx hb d_Mo_isAhead_2 rfl (lv_at hl 2 rfl) ?_
  refine g_V C0 (k_Mo_prefix l G o S sp bf sv iz rr pd ln sts td ac a b (by omega) (by omega) hM) co_Mo_prefix im_Mo_prefix se_Mo_prefix in_Mo gc_Mo_prefix ml_Mo_64 ⟨Nat.le_of_ble_eq_true rfl, Nat.le_of_ble_eq_true rfl⟩ hK hP.1 rfl ⟨hP.1, hP.2.1, hP.2.2.1, hP.2.2.2.1, hP.2.2.2.2.1, hP.2.2.2.2.2.1, hP.2.2.2.2.2.2.1, hP.2.2.2.2.2.2.2⟩ rfl hl.1 rfl (Nat.le_of_ble_eq_true rfl) d_Mo_isAhead_3 ⟨Nat.le_of_ble_eq_true rfl, Nat.le_of_ble_eq_true rfl⟩ (g_r rfl ?_)
  refine lv_istore_n (lv' := [(3, .int (nI (mPx S a b))), (0, .ref o), (1, .int (nI a)), (2, .int (nI b))]) hx hb d_Mo_isAhead_6 rfl hl (by decide) rfl (fun ls hl => ?_)
  refine lv_iload_n hx hb d_Mo_isAhead_7 rfl (lv_at hl 0 rfl) ?_
  refine lv_aload_n hx hb d_Mo_isAhead_8 rfl (lv_at hl 1 rfl) ?_
  refine g_get C0 hK il_Mo hP.1 rfl 0 (by decide) fl_Mo_7 rfl d_Mo_isAhead_9 ?_
  refine lv_iload_n hx hb d_Mo_isAhead_12 rfl (lv_at hl 2 rfl) ?_
  refine g_S C0 (k_Mo_n l G a) co_Mo_n sm_Mo_n in_Mo gc_Mo_n ml_Mo_57 ⟨Nat.le_of_ble_eq_true rfl, Nat.le_of_ble_eq_true rfl⟩ hK trivial rfl hl.1 rfl (Nat.le_of_ble_eq_true rfl) d_Mo_isAhead_13 ⟨Nat.le_of_ble_eq_true rfl, Nat.le_of_ble_eq_true rfl⟩ (g_r rfl ?_)
  refine g_iald C0 hK hP.2.1 (by omega) (by omega) d_Mo_isAhead_16 ?_
  refine g_ceq (tgt := 33) C0 d_Mo_isAhead_17 (by decide) (by first | omega | exact hM.b (by omega) | exact hR.p (by omega)) (by first | omega | exact hM.b (by omega) | exact hR.p (by omega)) (fun c_17 => ?_) (fun c_17 => ?_)
  · skip
    refine lv_aload_n hx hb d_Mo_isAhead_33 rfl (lv_at hl 1 rfl) ?_
    refine g_get C0 hK il_Mo hP.1 rfl 0 (by decide) fl_Mo_7 rfl d_Mo_isAhead_34 ?_
    refine lv_iload_n hx hb d_Mo_isAhead_37 rfl (lv_at hl 2 rfl) ?_
    refine g_S C0 (k_Mo_n l G a) co_Mo_n sm_Mo_n in_Mo gc_Mo_n ml_Mo_57 ⟨Nat.le_of_ble_eq_true rfl, Nat.le_of_ble_eq_true rfl⟩ hK trivial rfl hl.1 rfl (Nat.le_of_ble_eq_true rfl) d_Mo_isAhead_38 ⟨Nat.le_of_ble_eq_true rfl, Nat.le_of_ble_eq_true rfl⟩ (g_r rfl ?_)
    refine g_iald C0 hK hP.2.1 (by omega) (by omega) d_Mo_isAhead_41 ?_
    refine lv_aload_n hx hb d_Mo_isAhead_42 rfl (lv_at hl 1 rfl) ?_
    refine g_get C0 hK il_Mo hP.1 rfl 0 (by decide) fl_Mo_7 rfl d_Mo_isAhead_43 ?_
    refine lv_iload_n hx hb d_Mo_isAhead_46 rfl (lv_at hl 3 rfl) ?_
    refine g_S C0 (k_Mo_n l G b) co_Mo_n sm_Mo_n in_Mo gc_Mo_n ml_Mo_57 ⟨Nat.le_of_ble_eq_true rfl, Nat.le_of_ble_eq_true rfl⟩ hK trivial rfl hl.1 rfl (Nat.le_of_ble_eq_true rfl) d_Mo_isAhead_47 ⟨Nat.le_of_ble_eq_true rfl, Nat.le_of_ble_eq_true rfl⟩ (g_r rfl ?_)
    refine g_iald C0 hK hP.2.1 (by omega) (by omega) d_Mo_isAhead_50 ?_
    refine g_cge (tgt := 58) C0 d_Mo_isAhead_51 (by decide) (by first | omega | exact hM.b (by omega) | exact hR.p (by omega)) (by first | omega | exact hM.b (by omega) | exact hR.p (by omega)) (fun c_51 => ?_) (fun c_51 => ?_)
    · skip
      refine lv_iconst (v := nI 0) hx hb d_Mo_isAhead_58 (by decide +kernel) ?_
      refine g_zret (b := false) C0 hlk hr d_Mo_isAhead_59 (t_nil (free := noF)) ?_
      exact ⟨rdB (by simp [mAh, c_17, c_51]), rfl⟩
    · skip
      refine lv_iconst (v := nI 1) hx hb d_Mo_isAhead_54 (by decide +kernel) ?_
      refine lv_goto (tgt := 59) hx hb d_Mo_isAhead_55 (by decide) ?_
      refine g_zret (b := true) C0 hlk hr d_Mo_isAhead_59 (t_nil (free := noF)) ?_
      exact ⟨rdB (by simp [mAh, c_17, c_51]), rfl⟩
  · skip
    refine lv_iload_n hx hb d_Mo_isAhead_20 rfl (lv_at hl 0 rfl) ?_
    refine lv_aload_n hx hb d_Mo_isAhead_21 rfl (lv_at hl 1 rfl) ?_
    refine g_get C0 hK il_Mo hP.1 rfl 0 (by decide) fl_Mo_7 rfl d_Mo_isAhead_22 ?_
    refine lv_iload_n hx hb d_Mo_isAhead_25 rfl (lv_at hl 3 rfl) ?_
    refine g_S C0 (k_Mo_n l G b) co_Mo_n sm_Mo_n in_Mo gc_Mo_n ml_Mo_57 ⟨Nat.le_of_ble_eq_true rfl, Nat.le_of_ble_eq_true rfl⟩ hK trivial rfl hl.1 rfl (Nat.le_of_ble_eq_true rfl) d_Mo_isAhead_26 ⟨Nat.le_of_ble_eq_true rfl, Nat.le_of_ble_eq_true rfl⟩ (g_r rfl ?_)
    refine g_iald C0 hK hP.2.1 (by omega) (by omega) d_Mo_isAhead_29 ?_
    refine g_cne (tgt := 60) C0 d_Mo_isAhead_30 (by decide) (by first | omega | exact hM.b (by omega) | exact hR.p (by omega)) (by first | omega | exact hM.b (by omega) | exact hR.p (by omega)) (fun c_30 => ?_) (fun c_30 => ?_)
    · skip
      refine lv_aload_n hx hb d_Mo_isAhead_60 rfl (lv_at hl 1 rfl) ?_
      refine g_get C0 hK il_Mo hP.1 rfl 0 (by decide) fl_Mo_7 rfl d_Mo_isAhead_61 ?_
      refine lv_iload_n hx hb d_Mo_isAhead_64 rfl (lv_at hl 2 rfl) ?_
      refine g_S C0 (k_Mo_n l G a) co_Mo_n sm_Mo_n in_Mo gc_Mo_n ml_Mo_57 ⟨Nat.le_of_ble_eq_true rfl, Nat.le_of_ble_eq_true rfl⟩ hK trivial rfl hl.1 rfl (Nat.le_of_ble_eq_true rfl) d_Mo_isAhead_65 ⟨Nat.le_of_ble_eq_true rfl, Nat.le_of_ble_eq_true rfl⟩ (g_r rfl ?_)
      refine lv_iconst (v := nI 1) hx hb d_Mo_isAhead_68 (by decide +kernel) ?_
      refine g_iadd C0 (z := 9 + 10 * a + 1) d_Mo_isAhead_69 rfl ?_
      refine lv_iload_n hx hb d_Mo_isAhead_70 rfl (lv_at hl 0 rfl) ?_
      refine g_iadd C0 (z := 9 + 10 * a + 1 + (mPx S a b)) d_Mo_isAhead_71 rfl ?_
      refine g_iald C0 hK hP.2.1 (by omega) (by omega) d_Mo_isAhead_72 ?_
      refine lv_aload_n hx hb d_Mo_isAhead_73 rfl (lv_at hl 1 rfl) ?_
      refine g_get C0 hK il_Mo hP.1 rfl 0 (by decide) fl_Mo_7 rfl d_Mo_isAhead_74 ?_
      refine lv_iload_n hx hb d_Mo_isAhead_77 rfl (lv_at hl 3 rfl) ?_
      refine g_S C0 (k_Mo_n l G b) co_Mo_n sm_Mo_n in_Mo gc_Mo_n ml_Mo_57 ⟨Nat.le_of_ble_eq_true rfl, Nat.le_of_ble_eq_true rfl⟩ hK trivial rfl hl.1 rfl (Nat.le_of_ble_eq_true rfl) d_Mo_isAhead_78 ⟨Nat.le_of_ble_eq_true rfl, Nat.le_of_ble_eq_true rfl⟩ (g_r rfl ?_)
      refine lv_iconst (v := nI 1) hx hb d_Mo_isAhead_81 (by decide +kernel) ?_
      refine g_iadd C0 (z := 9 + 10 * b + 1) d_Mo_isAhead_82 rfl ?_
      refine lv_iload_n hx hb d_Mo_isAhead_83 rfl (lv_at hl 0 rfl) ?_
      refine g_iadd C0 (z := 9 + 10 * b + 1 + (mPx S a b)) d_Mo_isAhead_84 rfl ?_
      refine g_iald C0 hK hP.2.1 (by omega) (by omega) d_Mo_isAhead_85 ?_
      refine g_cge (tgt := 93) C0 d_Mo_isAhead_86 (by decide) (by first | omega | exact hM.b (by omega) | exact hR.p (by omega)) (by first | omega | exact hM.b (by omega) | exact hR.p (by omega)) (fun c_86 => ?_) (fun c_86 => ?_)
      · skip
        refine lv_iconst (v := nI 0) hx hb d_Mo_isAhead_93 (by decide +kernel) ?_
        refine g_zret (b := false) C0 hlk hr d_Mo_isAhead_94 (t_nil (free := noF)) ?_
        exact ⟨rdB (by simp [mAh, c_17, c_30, c_86]), rfl⟩
      · skip
        refine lv_iconst (v := nI 1) hx hb d_Mo_isAhead_89 (by decide +kernel) ?_
        refine lv_goto (tgt := 94) hx hb d_Mo_isAhead_90 (by decide) ?_
        refine g_zret (b := true) C0 hlk hr d_Mo_isAhead_94 (t_nil (free := noF)) ?_
        exact ⟨rdB (by simp [mAh, c_17, c_30, c_86]), rfl⟩
    · skip
      refine lv_aload_n hx hb d_Mo_isAhead_33 rfl (lv_at hl 1 rfl) ?_
      refine g_get C0 hK il_Mo hP.1 rfl 0 (by decide) fl_Mo_7 rfl d_Mo_isAhead_34 ?_
      refine lv_iload_n hx hb d_Mo_isAhead_37 rfl (lv_at hl 2 rfl) ?_
      refine g_S C0 (k_Mo_n l G a) co_Mo_n sm_Mo_n in_Mo gc_Mo_n ml_Mo_57 ⟨Nat.le_of_ble_eq_true rfl, Nat.le_of_ble_eq_true rfl⟩ hK trivial rfl hl.1 rfl (Nat.le_of_ble_eq_true rfl) d_Mo_isAhead_38 ⟨Nat.le_of_ble_eq_true rfl, Nat.le_of_ble_eq_true rfl⟩ (g_r rfl ?_)
      refine g_iald C0 hK hP.2.1 (by omega) (by omega) d_Mo_isAhead_41 ?_
      refine lv_aload_n hx hb d_Mo_isAhead_42 rfl (lv_at hl 1 rfl) ?_
      refine g_get C0 hK il_Mo hP.1 rfl 0 (by decide) fl_Mo_7 rfl d_Mo_isAhead_43 ?_
      refine lv_iload_n hx hb d_Mo_isAhead_46 rfl (lv_at hl 3 rfl) ?_
      refine g_S C0 (k_Mo_n l G b) co_Mo_n sm_Mo_n in_Mo gc_Mo_n ml_Mo_57 ⟨Nat.le_of_ble_eq_true rfl, Nat.le_of_ble_eq_true rfl⟩ hK trivial rfl hl.1 rfl (Nat.le_of_ble_eq_true rfl) d_Mo_isAhead_47 ⟨Nat.le_of_ble_eq_true rfl, Nat.le_of_ble_eq_true rfl⟩ (g_r rfl ?_)
      refine g_iald C0 hK hP.2.1 (by omega) (by omega) d_Mo_isAhead_50 ?_
      refine g_cge (tgt := 58) C0 d_Mo_isAhead_51 (by decide) (by first | omega | exact hM.b (by omega) | exact hR.p (by omega)) (by first | omega | exact hM.b (by omega) | exact hR.p (by omega)) (fun c_51 => ?_) (fun c_51 => ?_)
      · skip
        refine lv_iconst (v := nI 0) hx hb d_Mo_isAhead_58 (by decide +kernel) ?_
        refine g_zret (b := false) C0 hlk hr d_Mo_isAhead_59 (t_nil (free := noF)) ?_
        exact ⟨rdB (by simp [mAh, c_17, c_30, c_51]), rfl⟩
      · skip
        refine lv_iconst (v := nI 1) hx hb d_Mo_isAhead_54 (by decide +kernel) ?_
        refine lv_goto (tgt := 59) hx hb d_Mo_isAhead_55 (by decide) ?_
        refine g_zret (b := true) C0 hlk hr d_Mo_isAhead_59 (t_nil (free := noF)) ?_
        exact ⟨rdB (by simp [mAh, c_17, c_30, c_51]), rfl⟩

set_option maxHeartbeats 4000000 in
set_option maxRecDepth 100000 in
theorem k_Mo_ranked (l : Launch) (G : gT) (o : Nat) (S sp bf sv iz rr pd : Nat → Nat) (ln sts td ac : Nat) (r : Int32) (hM : mOk S) : gM l y_Mo_ranked c_Mo_ranked 6 (some .int) 3 66 0 0 G [.ref o, .int r] (fun H => MAt G o S sp bf sv iz rr pd ln sts td ac H) (rd (.int (mRanked S r))) noF := by
  refine g_enter "GaleNamesModel" (by decide +kernel) rfl (Nat.le_of_ble_eq_true rfl) ?_
  intro p e s m args below meth c C0 hlk hr hnm hP hK ls hl
  have hx := C0.1
  have hb := C0.2.1
  have hl : lv_has ls 6 [(0, .ref o), (1, .int r)] := hl
  have hn40 := hM.n
  have hg16 := hM.g
  have hk10 := hM.k
  refine lv_iconst (v := -1) hx hb d_Mo_ranked_0 (by decide +kernel) ?_
  refine lv_istore_n (lv' := [(2, .int (-1)), (0, .ref o), (1, .int r)]) hx hb d_Mo_ranked_1 rfl hl (by decide) rfl (fun ls hl => ?_)
  refine lv_iconst (v := nI 0) hx hb d_Mo_ranked_2 (by decide +kernel) ?_
  refine lv_istore_n (lv' := [(3, .int (nI 0)), (2, .int (-1)), (0, .ref o), (1, .int r)]) hx hb d_Mo_ranked_3 rfl hl (by decide) rfl (fun ls hl => ?_)
  have lp4 : ∀ (fu : Nat) (i : Nat) (f : Option Nat), (S 4 - i) < fu → i ≤ S 4 → f = lF (fun n => decide (nI (mRa S n) = r)) i → (r < 0 → i = 0) → ∀ ls : Array Slot, lv_has ls 6 [(3, .int (nI i)), (2, .int (oI (-1) f)), (0, .ref o), (1, .int r)] → W p l e ({ frames := 3, cells := 0, slots := 0, locals := 66 } : Room) s m args below meth c s.heap [] 0 0 (MQ below (gQ (rd (.int (mRanked S r)))) args s 0 0 noF) (F0 m 4 ls []) := by
    intro fu
    induction fu with
    | zero => intro i f  hfu; exact absurd hfu (Nat.not_lt_zero _)
    | succ fu ih4 =>
      intro i f hfu hi hf2 hr0 ls hl
      refine lv_iload_n hx hb d_Mo_ranked_4 rfl (lv_at hl 0 rfl) ?_
      refine lv_aload_n hx hb d_Mo_ranked_5 rfl (lv_at hl 2 rfl) ?_
      refine g_get C0 hK il_Mo hP.1 rfl 0 (by decide) fl_Mo_7 rfl d_Mo_ranked_6 ?_
      refine lv_iconst (v := nI 4) hx hb d_Mo_ranked_9 (by decide +kernel) ?_
      refine g_iald C0 hK hP.2.1 (by omega) (by omega) d_Mo_ranked_10 ?_
      refine g_cge (tgt := 85) C0 d_Mo_ranked_11 (by decide) (by first | omega | exact hM.b (by omega) | exact hR.p (by omega)) (by first | omega | exact hM.b (by omega) | exact hR.p (by omega)) (fun c_11 => ?_) (fun c_11 => ?_)
      · skip
        refine lv_iload_n hx hb d_Mo_ranked_85 rfl (lv_at hl 1 rfl) ?_
        refine g_iret C0 hlk hr d_Mo_ranked_86 (t_nil (free := noF)) ?_
        exact ⟨rdI (dite (r < 0) (fun hr => by rw [mRanked, if_pos hr, hf2, hr0 hr]; rfl) (fun hr => by rw [mRanked, if_neg hr, hf2]; first | rw [show i = S 4 by omega] | exact absurd c_15 hr)), rfl⟩
      · skip
        refine lv_iload_n hx hb d_Mo_ranked_14 rfl (lv_at hl 3 rfl) ?_
        refine lv_if_lt (tgt := 85) hx hb d_Mo_ranked_15 (by decide) (fun c_15 => ?_) (fun c_15 => ?_)
        · skip
          refine lv_iload_n hx hb d_Mo_ranked_85 rfl (lv_at hl 1 rfl) ?_
          refine g_iret C0 hlk hr d_Mo_ranked_86 (t_nil (free := noF)) ?_
          exact ⟨rdI (dite (r < 0) (fun hr => by rw [mRanked, if_pos hr, hf2, hr0 hr]; rfl) (fun hr => by rw [mRanked, if_neg hr, hf2]; first | rw [show i = S 4 by omega] | exact absurd c_15 hr)), rfl⟩
        · skip
          refine lv_iconst (v := nI 0) hx hb d_Mo_ranked_18 (by decide +kernel) ?_
          refine lv_istore (lv' := [(4, .int (nI 0)), (3, .int (nI i)), (2, .int (oI (-1) f)), (0, .ref o), (1, .int r)]) hx hb d_Mo_ranked_19 hl (by decide) rfl (fun ls hl => ?_)
          refine lv_iconst (v := nI 0) hx hb d_Mo_ranked_21 (by decide +kernel) ?_
          refine lv_istore (lv' := [(5, .int (nI 0)), (4, .int (nI 0)), (3, .int (nI i)), (2, .int (oI (-1) f)), (0, .ref o), (1, .int r)]) hx hb d_Mo_ranked_22 hl (by decide) rfl (fun ls hl => ?_)
          have lp24 : ∀ (fu : Nat) (j : Nat) (q : Nat), (S 4 - j) < fu → j ≤ S 4 → q = cN (fun o => o != i && mAh S o i) j → ∀ ls : Array Slot, lv_has ls 6 [(5, .int (nI j)), (4, .int (nI q)), (3, .int (nI i)), (2, .int (oI (-1) f)), (0, .ref o), (1, .int r)] → W p l e ({ frames := 3, cells := 0, slots := 0, locals := 66 } : Room) s m args below meth c s.heap [] 0 0 (MQ below (gQ (rd (.int (mRanked S r)))) args s 0 0 noF) (F0 m 24 ls []) := by
            intro fu
            induction fu with
            | zero => intro j q  hfu; exact absurd hfu (Nat.not_lt_zero _)
            | succ fu ih24 =>
              intro j q hfu hj hq2 ls hl
              refine lv_iload hx hb d_Mo_ranked_24 (lv_at hl 0 rfl) ?_
              refine lv_aload_n hx hb d_Mo_ranked_26 rfl (lv_at hl 4 rfl) ?_
              refine g_get C0 hK il_Mo hP.1 rfl 0 (by decide) fl_Mo_7 rfl d_Mo_ranked_27 ?_
              refine lv_iconst (v := nI 4) hx hb d_Mo_ranked_30 (by decide +kernel) ?_
              refine g_iald C0 hK hP.2.1 (by omega) (by omega) d_Mo_ranked_31 ?_
              refine g_cge (tgt := 67) C0 d_Mo_ranked_32 (by decide) (by first | omega | exact hM.b (by omega) | exact hR.p (by omega)) (by first | omega | exact hM.b (by omega) | exact hR.p (by omega)) (fun c_32 => ?_) (fun c_32 => ?_)
              · skip
                refine lv_iload hx hb d_Mo_ranked_67 (lv_at hl 1 rfl) ?_
                refine lv_iload_n hx hb d_Mo_ranked_69 rfl (lv_at hl 5 rfl) ?_
                refine lv_icmp_ne (tgt := 77) hx hb d_Mo_ranked_70 (by decide) (fun c_70 => ?_) (fun c_70 => ?_)
                · skip
                  have hmr : mRa S i = q := by rw [hq2, show j = S 4 by omega]; rfl
                  refine lv_iload_n hx hb d_Mo_ranked_77 rfl (lv_at hl 3 rfl) ?_
                  refine lv_istore_n (lv' := [(2, .int (oI (-1) f)), (5, .int (nI j)), (4, .int (nI q)), (3, .int (nI i)), (0, .ref o), (1, .int r)]) hx hb d_Mo_ranked_78 rfl hl (by decide) rfl (fun ls hl => ?_)
                  refine lv_iinc (v := (nI (i + 1))) (lv' := [(3, .int (nI (i + 1))), (2, .int (oI (-1) f)), (5, .int (nI j)), (4, .int (nI q)), (0, .ref o), (1, .int r)]) hx hb d_Mo_ranked_79 hl (k := 3) rfl (gI_inc _) (by decide) rfl (fun ls hl => ?_)
                  refine lv_goto (tgt := 4) hx hb d_Mo_ranked_82 (by decide) ?_
                  exact ih4 (i + 1) f (by omega) (by omega) (by rw [hf2]; exact (lF_f (by rw [hmr]; simp [c_70])).symm) (fun h => absurd h c_15) ls (lv_sub hl [0, 1, 4, 5] rfl)
                · skip
                  have hmr : mRa S i = q := by rw [hq2, show j = S 4 by omega]; rfl
                  refine lv_iload_n hx hb d_Mo_ranked_73 rfl (lv_at hl 2 rfl) ?_
                  refine lv_goto (tgt := 78) hx hb d_Mo_ranked_74 (by decide) ?_
                  refine lv_istore_n (lv' := [(2, .int (nI i)), (5, .int (nI j)), (4, .int (nI q)), (3, .int (nI i)), (0, .ref o), (1, .int r)]) hx hb d_Mo_ranked_78 rfl hl (by decide) rfl (fun ls hl => ?_)
                  refine lv_iinc (v := (nI (i + 1))) (lv' := [(3, .int (nI (i + 1))), (2, .int (nI i)), (5, .int (nI j)), (4, .int (nI q)), (0, .ref o), (1, .int r)]) hx hb d_Mo_ranked_79 hl (k := 3) rfl (gI_inc _) (by decide) rfl (fun ls hl => ?_)
                  refine lv_goto (tgt := 4) hx hb d_Mo_ranked_82 (by decide) ?_
                  exact ih4 (i + 1) (some i) (by omega) (by omega) (lF_t (by rw [hmr]; simp [c_70])).symm (fun h => absurd h c_15) ls (lv_sub hl [0, 1, 4, 5] rfl)
              · skip
                refine lv_iload hx hb d_Mo_ranked_35 (lv_at hl 1 rfl) ?_
                refine lv_iload hx hb d_Mo_ranked_37 (lv_at hl 0 rfl) ?_
                refine lv_iload_n hx hb d_Mo_ranked_39 rfl (lv_at hl 2 rfl) ?_
                refine g_ceq (tgt := 57) C0 d_Mo_ranked_40 (by decide) (by first | omega | exact hM.b (by omega) | exact hR.p (by omega)) (by first | omega | exact hM.b (by omega) | exact hR.p (by omega)) (fun c_40 => ?_) (fun c_40 => ?_)
                · skip
                  refine lv_iconst (v := nI 0) hx hb d_Mo_ranked_57 (by decide +kernel) ?_
                  refine g_iadd C0 (z := q) d_Mo_ranked_58 rfl ?_
                  refine lv_istore (lv' := [(4, .int (nI q)), (5, .int (nI j)), (3, .int (nI i)), (2, .int (oI (-1) f)), (0, .ref o), (1, .int r)]) hx hb d_Mo_ranked_59 hl (by decide) rfl (fun ls hl => ?_)
                  refine lv_iinc (v := (nI (j + 1))) (lv' := [(5, .int (nI (j + 1))), (4, .int (nI q)), (3, .int (nI i)), (2, .int (oI (-1) f)), (0, .ref o), (1, .int r)]) hx hb d_Mo_ranked_61 hl (k := 1) rfl (gI_inc _) (by decide) rfl (fun ls hl => ?_)
                  refine lv_goto (tgt := 24) hx hb d_Mo_ranked_64 (by decide) ?_
                  exact ih24 (j + 1) q (by omega) (by omega) (by rw [cN_s, ← hq2]; simp [c_40]) ls (lv_sub hl [0, 1, 2, 3, 4, 5] rfl)
                · skip
                  refine lv_aload_n hx hb d_Mo_ranked_43 rfl (lv_at hl 4 rfl) ?_
                  refine lv_iload hx hb d_Mo_ranked_44 (lv_at hl 0 rfl) ?_
                  refine lv_iload_n hx hb d_Mo_ranked_46 rfl (lv_at hl 2 rfl) ?_
                  refine g_V C0 (k_Mo_isAhead l G o S sp bf sv iz rr pd ln sts td ac j i (by omega) (by omega) hM) co_Mo_isAhead im_Mo_isAhead se_Mo_isAhead in_Mo gc_Mo_isAhead ml_Mo_151 ⟨Nat.le_of_ble_eq_true rfl, Nat.le_of_ble_eq_true rfl⟩ hK hP.1 rfl ⟨hP.1, hP.2.1, hP.2.2.1, hP.2.2.2.1, hP.2.2.2.2.1, hP.2.2.2.2.2.1, hP.2.2.2.2.2.2.1, hP.2.2.2.2.2.2.2⟩ rfl hl.1 rfl (Nat.le_of_ble_eq_true rfl) d_Mo_ranked_47 ⟨Nat.le_of_ble_eq_true rfl, Nat.le_of_ble_eq_true rfl⟩ (g_r rfl ?_)
                  refine g_zeq (tgt := 57) C0 d_Mo_ranked_50 (by decide) (fun c_50 => ?_) (fun c_50 => ?_)
                  · skip
                    refine lv_iconst (v := nI 0) hx hb d_Mo_ranked_57 (by decide +kernel) ?_
                    refine g_iadd C0 (z := q) d_Mo_ranked_58 rfl ?_
                    refine lv_istore (lv' := [(4, .int (nI q)), (5, .int (nI j)), (3, .int (nI i)), (2, .int (oI (-1) f)), (0, .ref o), (1, .int r)]) hx hb d_Mo_ranked_59 hl (by decide) rfl (fun ls hl => ?_)
                    refine lv_iinc (v := (nI (j + 1))) (lv' := [(5, .int (nI (j + 1))), (4, .int (nI q)), (3, .int (nI i)), (2, .int (oI (-1) f)), (0, .ref o), (1, .int r)]) hx hb d_Mo_ranked_61 hl (k := 1) rfl (gI_inc _) (by decide) rfl (fun ls hl => ?_)
                    refine lv_goto (tgt := 24) hx hb d_Mo_ranked_64 (by decide) ?_
                    exact ih24 (j + 1) q (by omega) (by omega) (by rw [cN_s, ← hq2]; simp [c_40, c_50]) ls (lv_sub hl [0, 1, 2, 3, 4, 5] rfl)
                  · skip
                    refine lv_iconst (v := nI 1) hx hb d_Mo_ranked_53 (by decide +kernel) ?_
                    refine lv_goto (tgt := 58) hx hb d_Mo_ranked_54 (by decide) ?_
                    refine g_iadd C0 (z := q + 1) d_Mo_ranked_58 rfl ?_
                    refine lv_istore (lv' := [(4, .int (nI (q + 1))), (5, .int (nI j)), (3, .int (nI i)), (2, .int (oI (-1) f)), (0, .ref o), (1, .int r)]) hx hb d_Mo_ranked_59 hl (by decide) rfl (fun ls hl => ?_)
                    refine lv_iinc (v := (nI (j + 1))) (lv' := [(5, .int (nI (j + 1))), (4, .int (nI (q + 1))), (3, .int (nI i)), (2, .int (oI (-1) f)), (0, .ref o), (1, .int r)]) hx hb d_Mo_ranked_61 hl (k := 1) rfl (gI_inc _) (by decide) rfl (fun ls hl => ?_)
                    refine lv_goto (tgt := 24) hx hb d_Mo_ranked_64 (by decide) ?_
                    exact ih24 (j + 1) (q + 1) (by omega) (by omega) (by rw [cN_s, ← hq2]; simp [c_40, c_50]) ls (lv_sub hl [0, 1, 2, 3, 4, 5] rfl)
          exact lp24 ((S 4 - 0) + 1) 0 0 (by omega) (by omega) rfl ls (lv_sub hl [0, 1, 2, 3, 4, 5] rfl)
  exact lp4 ((S 4 - 0) + 1) 0 none (by omega) (by omega) rfl (fun _ => rfl) ls (lv_sub hl [0, 1, 2, 3] rfl)

set_option maxHeartbeats 4000000 in
set_option maxRecDepth 100000 in
theorem k_Mo_sign (l : Launch) (G : gT) (o : Nat) (S sp bf sv iz rr pd : Nat → Nat) (ln sts td ac : Nat) (p2 : Int32) (hln : ln ≤ 80)  : gM l y_Mo_sign c_Mo_sign 2 (some .int) 1 22 0 0 G [.ref o, .int p2] (fun H => MAt G o S sp bf sv iz rr pd ln sts td ac H) (rd (.int (mSign pd ln p2))) noF := by
  refine g_enter "GaleNamesModel" (by decide +kernel) rfl (Nat.le_of_ble_eq_true rfl) ?_
  intro p e s m args below meth c C0 hlk hr hnm hP hK ls hl
  have hx := C0.1
  have hb := C0.2.1
  have hl : lv_has ls 2 [(0, .ref o), (1, .int p2)] := hl
  refine lv_iload_n hx hb d_Mo_sign_0 rfl (lv_at hl 1 rfl) ?_
  refine lv_iconst (v := nI 0) hx hb d_Mo_sign_1 (by decide +kernel) ?_
  refine lv_aload_n hx hb d_Mo_sign_2 rfl (lv_at hl 0 rfl) ?_
  refine g_get C0 hK il_Mo hP.1 rfl 7 (by decide) fl_Mo_44 rfl d_Mo_sign_3 ?_
  refine lv_iconst (v := nI 1) hx hb d_Mo_sign_6 (by decide +kernel) ?_
  refine lv_isub hx hb d_Mo_sign_7 ?_
  refine g_S C0 (k_Mo_in l G p2 (nI 0) ((nI ln) - (nI 1))) co_Mo_in sm_Mo_in in_Mo gc_Mo_in ml_Mo_33 ⟨Nat.le_of_ble_eq_true rfl, Nat.le_of_ble_eq_true rfl⟩ hK trivial rfl hl.1 rfl (Nat.le_of_ble_eq_true rfl) d_Mo_sign_8 ⟨Nat.le_of_ble_eq_true rfl, Nat.le_of_ble_eq_true rfl⟩ (g_r rfl ?_)
  refine g_zeq (tgt := 23) C0 d_Mo_sign_11 (by decide) (fun c_11 => ?_) (fun c_11 => ?_)
  · skip
    have c_11 : inR p2 ln = false := (inD_R (by omega)).symm.trans c_11
    refine lv_iconst (v := -1) hx hb d_Mo_sign_23 (by decide +kernel) ?_
    refine g_iret C0 hlk hr d_Mo_sign_24 (t_nil (free := noF)) ?_
    exact ⟨rdI (by rw [mSign, c_11] <;> rfl), rfl⟩
  · skip
    have c_11 : inR p2 ln = true := (inD_R (by omega)).symm.trans c_11
    obtain ⟨i, hi, hi31, rfl⟩ := inR_t c_11
    refine lv_aload_n hx hb d_Mo_sign_14 rfl (lv_at hl 0 rfl) ?_
    refine g_get C0 hK il_Mo hP.1 rfl 6 (by decide) fl_Mo_29 rfl d_Mo_sign_15 ?_
    refine lv_iload_n hx hb d_Mo_sign_18 rfl (lv_at hl 1 rfl) ?_
    refine g_cald C0 hK hP.2.2.2.2.2.2.2 (by omega) (by omega) d_Mo_sign_19 ?_
    refine lv_goto (tgt := 24) hx hb d_Mo_sign_20 (by decide) ?_
    refine g_iret C0 hlk hr d_Mo_sign_24 (t_nil (free := noF)) ?_
    exact ⟨rdI (by rw [mSign, c_11, if_pos rfl, nI_clamp hi31] <;> rfl), rfl⟩

set_option maxHeartbeats 4000000 in
set_option maxRecDepth 100000 in
theorem k_Mo_retired (l : Launch) (G : gT) (o : Nat) (S sp bf sv iz rr pd : Nat → Nat) (ln sts td ac : Nat) (hM : mOk S) : gM l y_Mo_retired c_Mo_retired 3 (some .int) 1 20 0 0 G [.ref o] (fun H => MAt G o S sp bf sv iz rr pd ln sts td ac H) (rd (.int (nI (sN (fun k => S (9 + 10 * k + 7)) (S 4))))) noF := by
  refine g_enter "GaleNamesModel" (by decide +kernel) rfl (Nat.le_of_ble_eq_true rfl) ?_
  intro p e s m args below meth c C0 hlk hr hnm hP hK ls hl
  have hx := C0.1
  have hb := C0.2.1
  have hl : lv_has ls 3 [(0, .ref o)] := hl
  have hn40 := hM.n
  have hg16 := hM.g
  have hk10 := hM.k
  refine lv_iconst (v := nI 0) hx hb d_Mo_retired_0 (by decide +kernel) ?_
  refine lv_istore_n (lv' := [(1, .int (nI 0)), (0, .ref o)]) hx hb d_Mo_retired_1 rfl hl (by decide) rfl (fun ls hl => ?_)
  refine lv_iconst (v := nI 0) hx hb d_Mo_retired_2 (by decide +kernel) ?_
  refine lv_istore_n (lv' := [(2, .int (nI 0)), (1, .int (nI 0)), (0, .ref o)]) hx hb d_Mo_retired_3 rfl hl (by decide) rfl (fun ls hl => ?_)
  have lp4 : ∀ (fu : Nat) (i : Nat) (q : Nat), (S 4 - i) < fu → i ≤ S 4 → q = sN (fun k => S (9 + 10 * k + 7)) i → ∀ ls : Array Slot, lv_has ls 3 [(2, .int (nI i)), (1, .int (nI q)), (0, .ref o)] → W p l e ({ frames := 1, cells := 0, slots := 0, locals := 20 } : Room) s m args below meth c s.heap [] 0 0 (MQ below (gQ (rd (.int (nI (sN (fun k => S (9 + 10 * k + 7)) (S 4)))))) args s 0 0 noF) (F0 m 4 ls []) := by
    intro fu
    induction fu with
    | zero => intro i q  hfu; exact absurd hfu (Nat.not_lt_zero _)
    | succ fu ih4 =>
      intro i q hfu hi hq2 ls hl
      refine lv_iload_n hx hb d_Mo_retired_4 rfl (lv_at hl 0 rfl) ?_
      refine lv_aload_n hx hb d_Mo_retired_5 rfl (lv_at hl 2 rfl) ?_
      refine g_get C0 hK il_Mo hP.1 rfl 0 (by decide) fl_Mo_7 rfl d_Mo_retired_6 ?_
      refine lv_iconst (v := nI 4) hx hb d_Mo_retired_9 (by decide +kernel) ?_
      refine g_iald C0 hK hP.2.1 (by omega) (by omega) d_Mo_retired_10 ?_
      refine g_cge (tgt := 35) C0 d_Mo_retired_11 (by decide) (by first | omega | exact hM.b (by omega) | exact hR.p (by omega)) (by first | omega | exact hM.b (by omega) | exact hR.p (by omega)) (fun c_11 => ?_) (fun c_11 => ?_)
      · skip
        refine lv_iload_n hx hb d_Mo_retired_35 rfl (lv_at hl 1 rfl) ?_
        refine g_iret C0 hlk hr d_Mo_retired_36 (t_nil (free := noF)) ?_
        exact ⟨rdI (by rw [hq2, show i = S 4 by omega]), rfl⟩
      · skip
        refine lv_iload_n hx hb d_Mo_retired_14 rfl (lv_at hl 1 rfl) ?_
        refine lv_aload_n hx hb d_Mo_retired_15 rfl (lv_at hl 2 rfl) ?_
        refine g_get C0 hK il_Mo hP.1 rfl 0 (by decide) fl_Mo_7 rfl d_Mo_retired_16 ?_
        refine lv_iload_n hx hb d_Mo_retired_19 rfl (lv_at hl 0 rfl) ?_
        refine g_S C0 (k_Mo_n l G i) co_Mo_n sm_Mo_n in_Mo gc_Mo_n ml_Mo_57 ⟨Nat.le_of_ble_eq_true rfl, Nat.le_of_ble_eq_true rfl⟩ hK trivial rfl hl.1 rfl (Nat.le_of_ble_eq_true rfl) d_Mo_retired_20 ⟨Nat.le_of_ble_eq_true rfl, Nat.le_of_ble_eq_true rfl⟩ (g_r rfl ?_)
        refine lv_bipush (v := nI 7) hx hb d_Mo_retired_23 (by decide +kernel) ?_
        refine g_iadd C0 (z := 9 + 10 * i + 7) d_Mo_retired_25 rfl ?_
        refine g_iald C0 hK hP.2.1 (by omega) (by omega) d_Mo_retired_26 ?_
        refine g_iadd C0 (z := q + (S (9 + 10 * i + 7))) d_Mo_retired_27 rfl ?_
        refine lv_istore_n (lv' := [(1, .int (nI (q + (S (9 + 10 * i + 7))))), (2, .int (nI i)), (0, .ref o)]) hx hb d_Mo_retired_28 rfl hl (by decide) rfl (fun ls hl => ?_)
        refine lv_iinc (v := (nI (i + 1))) (lv' := [(2, .int (nI (i + 1))), (1, .int (nI (q + (S (9 + 10 * i + 7))))), (0, .ref o)]) hx hb d_Mo_retired_29 hl (k := 1) rfl (gI_inc _) (by decide) rfl (fun ls hl => ?_)
        refine lv_goto (tgt := 4) hx hb d_Mo_retired_32 (by decide) ?_
        exact ih4 (i + 1) (q + (S (9 + 10 * i + 7))) (by omega) (by omega) (by rw [sN_s, ← hq2]) ls (lv_sub hl [0, 1, 2] rfl)
  exact lp4 ((S 4 - 0) + 1) 0 0 (by omega) (by omega) rfl ls (lv_sub hl [0, 1, 2] rfl)

set_option maxHeartbeats 4000000 in
set_option maxRecDepth 100000 in
theorem k_Mo_owed (l : Launch) (G : gT) (o : Nat) (S sp bf sv iz rr pd : Nat → Nat) (ln sts td ac : Nat) (hM : mOk S) : gM l y_Mo_owed c_Mo_owed 3 (some .int) 1 20 0 0 G [.ref o] (fun H => MAt G o S sp bf sv iz rr pd ln sts td ac H) (rd (.int (nI (sN (fun k => S (511 + 3 * k + 1)) (S 7))))) noF := by
  refine g_enter "GaleNamesModel" (by decide +kernel) rfl (Nat.le_of_ble_eq_true rfl) ?_
  intro p e s m args below meth c C0 hlk hr hnm hP hK ls hl
  have hx := C0.1
  have hb := C0.2.1
  have hl : lv_has ls 3 [(0, .ref o)] := hl
  have hn40 := hM.n
  have hg16 := hM.g
  have hk10 := hM.k
  refine lv_iconst (v := nI 0) hx hb d_Mo_owed_0 (by decide +kernel) ?_
  refine lv_istore_n (lv' := [(1, .int (nI 0)), (0, .ref o)]) hx hb d_Mo_owed_1 rfl hl (by decide) rfl (fun ls hl => ?_)
  refine lv_iconst (v := nI 0) hx hb d_Mo_owed_2 (by decide +kernel) ?_
  refine lv_istore_n (lv' := [(2, .int (nI 0)), (1, .int (nI 0)), (0, .ref o)]) hx hb d_Mo_owed_3 rfl hl (by decide) rfl (fun ls hl => ?_)
  have lp4 : ∀ (fu : Nat) (i : Nat) (q : Nat), (S 7 - i) < fu → i ≤ S 7 → q = sN (fun k => S (511 + 3 * k + 1)) i → ∀ ls : Array Slot, lv_has ls 3 [(2, .int (nI i)), (1, .int (nI q)), (0, .ref o)] → W p l e ({ frames := 1, cells := 0, slots := 0, locals := 20 } : Room) s m args below meth c s.heap [] 0 0 (MQ below (gQ (rd (.int (nI (sN (fun k => S (511 + 3 * k + 1)) (S 7)))))) args s 0 0 noF) (F0 m 4 ls []) := by
    intro fu
    induction fu with
    | zero => intro i q  hfu; exact absurd hfu (Nat.not_lt_zero _)
    | succ fu ih4 =>
      intro i q hfu hi hq2 ls hl
      refine lv_iload_n hx hb d_Mo_owed_4 rfl (lv_at hl 0 rfl) ?_
      refine lv_aload_n hx hb d_Mo_owed_5 rfl (lv_at hl 2 rfl) ?_
      refine g_get C0 hK il_Mo hP.1 rfl 0 (by decide) fl_Mo_7 rfl d_Mo_owed_6 ?_
      refine lv_bipush (v := nI 7) hx hb d_Mo_owed_9 (by decide +kernel) ?_
      refine g_iald C0 hK hP.2.1 (by omega) (by omega) d_Mo_owed_11 ?_
      refine g_cge (tgt := 35) C0 d_Mo_owed_12 (by decide) (by first | omega | exact hM.b (by omega) | exact hR.p (by omega)) (by first | omega | exact hM.b (by omega) | exact hR.p (by omega)) (fun c_12 => ?_) (fun c_12 => ?_)
      · skip
        refine lv_iload_n hx hb d_Mo_owed_35 rfl (lv_at hl 1 rfl) ?_
        refine g_iret C0 hlk hr d_Mo_owed_36 (t_nil (free := noF)) ?_
        exact ⟨rdI (by rw [hq2, show i = S 7 by omega]), rfl⟩
      · skip
        refine lv_iload_n hx hb d_Mo_owed_15 rfl (lv_at hl 1 rfl) ?_
        refine lv_aload_n hx hb d_Mo_owed_16 rfl (lv_at hl 2 rfl) ?_
        refine g_get C0 hK il_Mo hP.1 rfl 0 (by decide) fl_Mo_7 rfl d_Mo_owed_17 ?_
        refine lv_iload_n hx hb d_Mo_owed_20 rfl (lv_at hl 0 rfl) ?_
        refine g_S C0 (k_Mo_k l G i) co_Mo_k sm_Mo_k in_Mo gc_Mo_k ml_Mo_126 ⟨Nat.le_of_ble_eq_true rfl, Nat.le_of_ble_eq_true rfl⟩ hK trivial rfl hl.1 rfl (Nat.le_of_ble_eq_true rfl) d_Mo_owed_21 ⟨Nat.le_of_ble_eq_true rfl, Nat.le_of_ble_eq_true rfl⟩ (g_r rfl ?_)
        refine lv_iconst (v := nI 1) hx hb d_Mo_owed_24 (by decide +kernel) ?_
        refine g_iadd C0 (z := 511 + 3 * i + 1) d_Mo_owed_25 rfl ?_
        refine g_iald C0 hK hP.2.1 (by omega) (by omega) d_Mo_owed_26 ?_
        refine g_iadd C0 (z := q + (S (511 + 3 * i + 1))) d_Mo_owed_27 rfl ?_
        refine lv_istore_n (lv' := [(1, .int (nI (q + (S (511 + 3 * i + 1))))), (2, .int (nI i)), (0, .ref o)]) hx hb d_Mo_owed_28 rfl hl (by decide) rfl (fun ls hl => ?_)
        refine lv_iinc (v := (nI (i + 1))) (lv' := [(2, .int (nI (i + 1))), (1, .int (nI (q + (S (511 + 3 * i + 1))))), (0, .ref o)]) hx hb d_Mo_owed_29 hl (k := 1) rfl (gI_inc _) (by decide) rfl (fun ls hl => ?_)
        refine lv_goto (tgt := 4) hx hb d_Mo_owed_32 (by decide) ?_
        exact ih4 (i + 1) (q + (S (511 + 3 * i + 1))) (by omega) (by omega) (by rw [sN_s, ← hq2]) ls (lv_sub hl [0, 1, 2] rfl)
  exact lp4 ((S 7 - 0) + 1) 0 0 (by omega) (by omega) rfl ls (lv_sub hl [0, 1, 2] rfl)

set_option maxHeartbeats 4000000 in
set_option maxRecDepth 100000 in
theorem k_Mo_twins (l : Launch) (G : gT) (o : Nat) (S sp bf sv iz rr pd : Nat → Nat) (ln sts td ac : Nat) (hM : mOk S) : gM l y_Mo_twins c_Mo_twins 3 (some .int) 2 43 0 0 G [.ref o] (fun H => MAt G o S sp bf sv iz rr pd ln sts td ac H) (rd (.int (nI (mTn S)))) noF := by
  refine g_enter "GaleNamesModel" (by decide +kernel) rfl (Nat.le_of_ble_eq_true rfl) ?_
  intro p e s m args below meth c C0 hlk hr hnm hP hK ls hl
  have hx := C0.1
  have hb := C0.2.1
  have hl : lv_has ls 3 [(0, .ref o)] := hl
  have hn40 := hM.n
  have hg16 := hM.g
  have hk10 := hM.k
  refine lv_iconst (v := nI 0) hx hb d_Mo_twins_0 (by decide +kernel) ?_
  refine lv_istore_n (lv' := [(1, .int (nI 0)), (0, .ref o)]) hx hb d_Mo_twins_1 rfl hl (by decide) rfl (fun ls hl => ?_)
  refine lv_iconst (v := nI 0) hx hb d_Mo_twins_2 (by decide +kernel) ?_
  refine lv_istore_n (lv' := [(2, .int (nI 0)), (1, .int (nI 0)), (0, .ref o)]) hx hb d_Mo_twins_3 rfl hl (by decide) rfl (fun ls hl => ?_)
  have lp4 : ∀ (fu : Nat) (i : Nat) (q : Nat), (S 5 - i) < fu → i ≤ S 5 → q = cN (mTb S) i → ∀ ls : Array Slot, lv_has ls 3 [(2, .int (nI i)), (1, .int (nI q)), (0, .ref o)] → W p l e ({ frames := 2, cells := 0, slots := 0, locals := 43 } : Room) s m args below meth c s.heap [] 0 0 (MQ below (gQ (rd (.int (nI (mTn S))))) args s 0 0 noF) (F0 m 4 ls []) := by
    intro fu
    induction fu with
    | zero => intro i q  hfu; exact absurd hfu (Nat.not_lt_zero _)
    | succ fu ih4 =>
      intro i q hfu hi hq2 ls hl
      refine lv_iload_n hx hb d_Mo_twins_4 rfl (lv_at hl 0 rfl) ?_
      refine lv_aload_n hx hb d_Mo_twins_5 rfl (lv_at hl 2 rfl) ?_
      refine g_get C0 hK il_Mo hP.1 rfl 0 (by decide) fl_Mo_7 rfl d_Mo_twins_6 ?_
      refine lv_iconst (v := nI 5) hx hb d_Mo_twins_9 (by decide +kernel) ?_
      refine g_iald C0 hK hP.2.1 (by omega) (by omega) d_Mo_twins_10 ?_
      refine g_cge (tgt := 37) C0 d_Mo_twins_11 (by decide) (by first | omega | exact hM.b (by omega) | exact hR.p (by omega)) (by first | omega | exact hM.b (by omega) | exact hR.p (by omega)) (fun c_11 => ?_) (fun c_11 => ?_)
      · skip
        refine lv_iload_n hx hb d_Mo_twins_37 rfl (lv_at hl 1 rfl) ?_
        refine g_iret C0 hlk hr d_Mo_twins_38 (t_nil (free := noF)) ?_
        exact ⟨rdI (by rw [hq2, show i = S 5 by omega]; rfl), rfl⟩
      · skip
        refine lv_iload_n hx hb d_Mo_twins_14 rfl (lv_at hl 1 rfl) ?_
        refine lv_aload_n hx hb d_Mo_twins_15 rfl (lv_at hl 2 rfl) ?_
        refine lv_iload_n hx hb d_Mo_twins_16 rfl (lv_at hl 0 rfl) ?_
        refine g_V C0 (k_Mo_twin l G o S sp bf sv iz rr pd ln sts td ac i (by omega) hM) co_Mo_twin im_Mo_twin se_Mo_twin in_Mo gc_Mo_twin ml_Mo_148 ⟨Nat.le_of_ble_eq_true rfl, Nat.le_of_ble_eq_true rfl⟩ hK hP.1 rfl ⟨hP.1, hP.2.1, hP.2.2.1, hP.2.2.2.1, hP.2.2.2.2.1, hP.2.2.2.2.2.1, hP.2.2.2.2.2.2.1, hP.2.2.2.2.2.2.2⟩ rfl hl.1 rfl (Nat.le_of_ble_eq_true rfl) d_Mo_twins_17 ⟨Nat.le_of_ble_eq_true rfl, Nat.le_of_ble_eq_true rfl⟩ (g_r rfl ?_)
        refine lv_iload_n hx hb d_Mo_twins_20 rfl (lv_at hl 0 rfl) ?_
        refine lv_icmp_le (tgt := 28) hx hb d_Mo_twins_21 (by decide) (fun c_21 => ?_) (fun c_21 => ?_)
        · skip
          have htb : mTb S i = false := (mTb_le hg16 (by omega) (fun t h => (lF_s h).1)).mp c_21
          refine lv_iconst (v := nI 0) hx hb d_Mo_twins_28 (by decide +kernel) ?_
          refine g_iadd C0 (z := q) d_Mo_twins_29 rfl ?_
          refine lv_istore_n (lv' := [(1, .int (nI q)), (2, .int (nI i)), (0, .ref o)]) hx hb d_Mo_twins_30 rfl hl (by decide) rfl (fun ls hl => ?_)
          refine lv_iinc (v := (nI (i + 1))) (lv' := [(2, .int (nI (i + 1))), (1, .int (nI q)), (0, .ref o)]) hx hb d_Mo_twins_31 hl (k := 1) rfl (gI_inc _) (by decide) rfl (fun ls hl => ?_)
          refine lv_goto (tgt := 4) hx hb d_Mo_twins_34 (by decide) ?_
          exact ih4 (i + 1) q (by omega) (by omega) (by rw [cN_s, ← hq2]; simp [htb]) ls (lv_sub hl [0, 1, 2] rfl)
        · skip
          have htb : mTb S i = true := by
            rcases h : mTb S i with _ | _
            · exact absurd ((mTb_le hg16 (by omega) (fun t h => (lF_s h).1)).mpr h) c_21
            · rfl
          refine lv_iconst (v := nI 1) hx hb d_Mo_twins_24 (by decide +kernel) ?_
          refine lv_goto (tgt := 29) hx hb d_Mo_twins_25 (by decide) ?_
          refine g_iadd C0 (z := q + 1) d_Mo_twins_29 rfl ?_
          refine lv_istore_n (lv' := [(1, .int (nI (q + 1))), (2, .int (nI i)), (0, .ref o)]) hx hb d_Mo_twins_30 rfl hl (by decide) rfl (fun ls hl => ?_)
          refine lv_iinc (v := (nI (i + 1))) (lv' := [(2, .int (nI (i + 1))), (1, .int (nI (q + 1))), (0, .ref o)]) hx hb d_Mo_twins_31 hl (k := 1) rfl (gI_inc _) (by decide) rfl (fun ls hl => ?_)
          refine lv_goto (tgt := 4) hx hb d_Mo_twins_34 (by decide) ?_
          exact ih4 (i + 1) (q + 1) (by omega) (by omega) (by rw [cN_s, ← hq2]; simp [htb]) ls (lv_sub hl [0, 1, 2] rfl)
  exact lp4 ((S 5 - 0) + 1) 0 0 (by omega) (by omega) rfl ls (lv_sub hl [0, 1, 2] rfl)

set_option maxHeartbeats 4000000 in
set_option maxRecDepth 100000 in
theorem k_Mo_count (l : Launch) (G : gT) (o : Nat) (S sp bf sv iz rr pd : Nat → Nat) (ln sts td ac : Nat) (w : Int32) (hM : mOk S) : gM l y_Mo_count c_Mo_count 2 (some .int) 3 65 0 0 G [.ref o, .int w] (fun H => MAt G o S sp bf sv iz rr pd ln sts td ac H) (rd (.int (mCount S ln sts w))) noF := by
  refine g_enter "GaleNamesModel" (by decide +kernel) rfl (Nat.le_of_ble_eq_true rfl) ?_
  intro p e s m args below meth c C0 hlk hr hnm hP hK ls hl
  have hx := C0.1
  have hb := C0.2.1
  have hl : lv_has ls 2 [(0, .ref o), (1, .int w)] := hl
  have hn40 := hM.n
  have hg16 := hM.g
  have hk10 := hM.k
  refine lv_iload_n hx hb d_Mo_count_0 rfl (lv_at hl 1 rfl) ?_
  rcases inR_or w 14 with ht | ⟨it, hit, hit31, het⟩
  · refine lv_tableOut (tgt := 152) hx hb d_Mo_count_1 (inR_out ht (by decide)) (by decide) ?_
    refine lv_bipush (v := -2) hx hb d_Mo_count_152 (by decide +kernel) ?_
    refine g_iret C0 hlk hr d_Mo_count_154 (t_nil (free := noF)) ?_
    exact ⟨rdI (by rw [mCount, ht]; rfl), rfl⟩
  · have hd : it = 0 ∨ it = 1 ∨ it = 2 ∨ it = 3 ∨ it = 4 ∨ it = 5 ∨ it = 6 ∨ it = 7 ∨ it = 8 ∨ it = 9 ∨ it = 10 ∨ it = 11 ∨ it = 12 ∨ it = 13 := by omega
    rcases hd with rfl | rfl | rfl | rfl | rfl | rfl | rfl | rfl | rfl | rfl | rfl | rfl | rfl | rfl
    · subst het
      refine lv_tableIn (tgt := 72) hx hb d_Mo_count_1 (by decide +kernel) (by decide +kernel) (show _ = some _ from rfl) (by decide +kernel) ?_
      refine lv_aload_n hx hb d_Mo_count_72 rfl (lv_at hl 0 rfl) ?_
      refine g_get C0 hK il_Mo hP.1 rfl 0 (by decide) fl_Mo_7 rfl d_Mo_count_73 ?_
      refine lv_iconst (v := nI 3) hx hb d_Mo_count_76 (by decide +kernel) ?_
      refine g_iald C0 hK hP.2.1 (by omega) (by omega) d_Mo_count_77 ?_
      refine g_iret C0 hlk hr d_Mo_count_78 (t_nil (free := noF)) ?_
      exact ⟨rdI (by rw [mCount, inR_i (by decide) (by decide), if_pos rfl, nI_clamp (by decide)]; rfl), rfl⟩
    · subst het
      refine lv_tableIn (tgt := 79) hx hb d_Mo_count_1 (by decide +kernel) (by decide +kernel) (show _ = some _ from rfl) (by decide +kernel) ?_
      refine lv_aload_n hx hb d_Mo_count_79 rfl (lv_at hl 0 rfl) ?_
      refine g_get C0 hK il_Mo hP.1 rfl 0 (by decide) fl_Mo_7 rfl d_Mo_count_80 ?_
      refine lv_iconst (v := nI 4) hx hb d_Mo_count_83 (by decide +kernel) ?_
      refine g_iald C0 hK hP.2.1 (by omega) (by omega) d_Mo_count_84 ?_
      refine g_iret C0 hlk hr d_Mo_count_85 (t_nil (free := noF)) ?_
      exact ⟨rdI (by rw [mCount, inR_i (by decide) (by decide), if_pos rfl, nI_clamp (by decide)]; rfl), rfl⟩
    · subst het
      refine lv_tableIn (tgt := 86) hx hb d_Mo_count_1 (by decide +kernel) (by decide +kernel) (show _ = some _ from rfl) (by decide +kernel) ?_
      refine lv_aload_n hx hb d_Mo_count_86 rfl (lv_at hl 0 rfl) ?_
      refine g_V C0 (k_Mo_retired l G o S sp bf sv iz rr pd ln sts td ac hM) co_Mo_retired im_Mo_retired se_Mo_retired in_Mo gc_Mo_retired ml_Mo_154 ⟨Nat.le_of_ble_eq_true rfl, Nat.le_of_ble_eq_true rfl⟩ hK hP.1 rfl ⟨hP.1, hP.2.1, hP.2.2.1, hP.2.2.2.1, hP.2.2.2.2.1, hP.2.2.2.2.2.1, hP.2.2.2.2.2.2.1, hP.2.2.2.2.2.2.2⟩ rfl hl.1 rfl (Nat.le_of_ble_eq_true rfl) d_Mo_count_87 ⟨Nat.le_of_ble_eq_true rfl, Nat.le_of_ble_eq_true rfl⟩ (g_r rfl ?_)
      refine g_iret C0 hlk hr d_Mo_count_90 (t_nil (free := noF)) ?_
      exact ⟨rdI (by rw [mCount, inR_i (by decide) (by decide), if_pos rfl, nI_clamp (by decide)]; rfl), rfl⟩
    · subst het
      refine lv_tableIn (tgt := 91) hx hb d_Mo_count_1 (by decide +kernel) (by decide +kernel) (show _ = some _ from rfl) (by decide +kernel) ?_
      refine lv_aload_n hx hb d_Mo_count_91 rfl (lv_at hl 0 rfl) ?_
      refine g_get C0 hK il_Mo hP.1 rfl 0 (by decide) fl_Mo_7 rfl d_Mo_count_92 ?_
      refine lv_iconst (v := nI 5) hx hb d_Mo_count_95 (by decide +kernel) ?_
      refine g_iald C0 hK hP.2.1 (by omega) (by omega) d_Mo_count_96 ?_
      refine g_iret C0 hlk hr d_Mo_count_97 (t_nil (free := noF)) ?_
      exact ⟨rdI (by rw [mCount, inR_i (by decide) (by decide), if_pos rfl, nI_clamp (by decide)]; rfl), rfl⟩
    · subst het
      refine lv_tableIn (tgt := 98) hx hb d_Mo_count_1 (by decide +kernel) (by decide +kernel) (show _ = some _ from rfl) (by decide +kernel) ?_
      refine lv_aload_n hx hb d_Mo_count_98 rfl (lv_at hl 0 rfl) ?_
      refine g_get C0 hK il_Mo hP.1 rfl 0 (by decide) fl_Mo_7 rfl d_Mo_count_99 ?_
      refine lv_bipush (v := nI 6) hx hb d_Mo_count_102 (by decide +kernel) ?_
      refine g_iald C0 hK hP.2.1 (by omega) (by omega) d_Mo_count_104 ?_
      refine g_iret C0 hlk hr d_Mo_count_105 (t_nil (free := noF)) ?_
      exact ⟨rdI (by rw [mCount, inR_i (by decide) (by decide), if_pos rfl, nI_clamp (by decide)]; rfl), rfl⟩
    · subst het
      refine lv_tableIn (tgt := 106) hx hb d_Mo_count_1 (by decide +kernel) (by decide +kernel) (show _ = some _ from rfl) (by decide +kernel) ?_
      refine lv_aload_n hx hb d_Mo_count_106 rfl (lv_at hl 0 rfl) ?_
      refine g_V C0 (k_Mo_twins l G o S sp bf sv iz rr pd ln sts td ac hM) co_Mo_twins im_Mo_twins se_Mo_twins in_Mo gc_Mo_twins ml_Mo_157 ⟨Nat.le_of_ble_eq_true rfl, Nat.le_of_ble_eq_true rfl⟩ hK hP.1 rfl ⟨hP.1, hP.2.1, hP.2.2.1, hP.2.2.2.1, hP.2.2.2.2.1, hP.2.2.2.2.2.1, hP.2.2.2.2.2.2.1, hP.2.2.2.2.2.2.2⟩ rfl hl.1 rfl (Nat.le_of_ble_eq_true rfl) d_Mo_count_107 ⟨Nat.le_of_ble_eq_true rfl, Nat.le_of_ble_eq_true rfl⟩ (g_r rfl ?_)
      refine g_iret C0 hlk hr d_Mo_count_110 (t_nil (free := noF)) ?_
      exact ⟨rdI (by rw [mCount, inR_i (by decide) (by decide), if_pos rfl, nI_clamp (by decide)]; rfl), rfl⟩
    · subst het
      refine lv_tableIn (tgt := 111) hx hb d_Mo_count_1 (by decide +kernel) (by decide +kernel) (show _ = some _ from rfl) (by decide +kernel) ?_
      refine lv_aload_n hx hb d_Mo_count_111 rfl (lv_at hl 0 rfl) ?_
      refine g_get C0 hK il_Mo hP.1 rfl 0 (by decide) fl_Mo_7 rfl d_Mo_count_112 ?_
      refine lv_bipush (v := nI 7) hx hb d_Mo_count_115 (by decide +kernel) ?_
      refine g_iald C0 hK hP.2.1 (by omega) (by omega) d_Mo_count_117 ?_
      refine g_iret C0 hlk hr d_Mo_count_118 (t_nil (free := noF)) ?_
      exact ⟨rdI (by rw [mCount, inR_i (by decide) (by decide), if_pos rfl, nI_clamp (by decide)]; rfl), rfl⟩
    · subst het
      refine lv_tableIn (tgt := 119) hx hb d_Mo_count_1 (by decide +kernel) (by decide +kernel) (show _ = some _ from rfl) (by decide +kernel) ?_
      refine lv_aload_n hx hb d_Mo_count_119 rfl (lv_at hl 0 rfl) ?_
      refine g_V C0 (k_Mo_owed l G o S sp bf sv iz rr pd ln sts td ac hM) co_Mo_owed im_Mo_owed se_Mo_owed in_Mo gc_Mo_owed ml_Mo_160 ⟨Nat.le_of_ble_eq_true rfl, Nat.le_of_ble_eq_true rfl⟩ hK hP.1 rfl ⟨hP.1, hP.2.1, hP.2.2.1, hP.2.2.2.1, hP.2.2.2.2.1, hP.2.2.2.2.2.1, hP.2.2.2.2.2.2.1, hP.2.2.2.2.2.2.2⟩ rfl hl.1 rfl (Nat.le_of_ble_eq_true rfl) d_Mo_count_120 ⟨Nat.le_of_ble_eq_true rfl, Nat.le_of_ble_eq_true rfl⟩ (g_r rfl ?_)
      refine g_iret C0 hlk hr d_Mo_count_123 (t_nil (free := noF)) ?_
      exact ⟨rdI (by rw [mCount, inR_i (by decide) (by decide), if_pos rfl, nI_clamp (by decide)]; rfl), rfl⟩
    · subst het
      refine lv_tableIn (tgt := 124) hx hb d_Mo_count_1 (by decide +kernel) (by decide +kernel) (show _ = some _ from rfl) (by decide +kernel) ?_
      refine lv_aload_n hx hb d_Mo_count_124 rfl (lv_at hl 0 rfl) ?_
      refine g_get C0 hK il_Mo hP.1 rfl 0 (by decide) fl_Mo_7 rfl d_Mo_count_125 ?_
      refine lv_bipush (v := nI 8) hx hb d_Mo_count_128 (by decide +kernel) ?_
      refine g_iald C0 hK hP.2.1 (by omega) (by omega) d_Mo_count_130 ?_
      refine g_iret C0 hlk hr d_Mo_count_131 (t_nil (free := noF)) ?_
      exact ⟨rdI (by rw [mCount, inR_i (by decide) (by decide), if_pos rfl, nI_clamp (by decide)]; rfl), rfl⟩
    · subst het
      refine lv_tableIn (tgt := 132) hx hb d_Mo_count_1 (by decide +kernel) (by decide +kernel) (show _ = some _ from rfl) (by decide +kernel) ?_
      refine lv_aload_n hx hb d_Mo_count_132 rfl (lv_at hl 0 rfl) ?_
      refine g_get C0 hK il_Mo hP.1 rfl 0 (by decide) fl_Mo_7 rfl d_Mo_count_133 ?_
      refine lv_iload_n hx hb d_Mo_count_136 rfl (lv_at hl 1 rfl) ?_
      refine lv_bipush (v := nI 9) hx hb d_Mo_count_137 (by decide +kernel) ?_
      refine g_isub C0 (z := 0) d_Mo_count_139 (by omega) ?_
      refine g_iald C0 hK hP.2.1 (by omega) (by omega) d_Mo_count_140 ?_
      refine g_iret C0 hlk hr d_Mo_count_141 (t_nil (free := noF)) ?_
      exact ⟨rdI (by rw [mCount, inR_i (by decide) (by decide), if_pos rfl, nI_clamp (by decide)]; rfl), rfl⟩
    · subst het
      refine lv_tableIn (tgt := 132) hx hb d_Mo_count_1 (by decide +kernel) (by decide +kernel) (show _ = some _ from rfl) (by decide +kernel) ?_
      refine lv_aload_n hx hb d_Mo_count_132 rfl (lv_at hl 0 rfl) ?_
      refine g_get C0 hK il_Mo hP.1 rfl 0 (by decide) fl_Mo_7 rfl d_Mo_count_133 ?_
      refine lv_iload_n hx hb d_Mo_count_136 rfl (lv_at hl 1 rfl) ?_
      refine lv_bipush (v := nI 9) hx hb d_Mo_count_137 (by decide +kernel) ?_
      refine g_isub C0 (z := 1) d_Mo_count_139 (by omega) ?_
      refine g_iald C0 hK hP.2.1 (by omega) (by omega) d_Mo_count_140 ?_
      refine g_iret C0 hlk hr d_Mo_count_141 (t_nil (free := noF)) ?_
      exact ⟨rdI (by rw [mCount, inR_i (by decide) (by decide), if_pos rfl, nI_clamp (by decide)]; rfl), rfl⟩
    · subst het
      refine lv_tableIn (tgt := 132) hx hb d_Mo_count_1 (by decide +kernel) (by decide +kernel) (show _ = some _ from rfl) (by decide +kernel) ?_
      refine lv_aload_n hx hb d_Mo_count_132 rfl (lv_at hl 0 rfl) ?_
      refine g_get C0 hK il_Mo hP.1 rfl 0 (by decide) fl_Mo_7 rfl d_Mo_count_133 ?_
      refine lv_iload_n hx hb d_Mo_count_136 rfl (lv_at hl 1 rfl) ?_
      refine lv_bipush (v := nI 9) hx hb d_Mo_count_137 (by decide +kernel) ?_
      refine g_isub C0 (z := 2) d_Mo_count_139 (by omega) ?_
      refine g_iald C0 hK hP.2.1 (by omega) (by omega) d_Mo_count_140 ?_
      refine g_iret C0 hlk hr d_Mo_count_141 (t_nil (free := noF)) ?_
      exact ⟨rdI (by rw [mCount, inR_i (by decide) (by decide), if_pos rfl, nI_clamp (by decide)]; rfl), rfl⟩
    · subst het
      refine lv_tableIn (tgt := 142) hx hb d_Mo_count_1 (by decide +kernel) (by decide +kernel) (show _ = some _ from rfl) (by decide +kernel) ?_
      refine lv_aload_n hx hb d_Mo_count_142 rfl (lv_at hl 0 rfl) ?_
      refine g_get C0 hK il_Mo hP.1 rfl 7 (by decide) fl_Mo_44 rfl d_Mo_count_143 ?_
      refine g_iret C0 hlk hr d_Mo_count_146 (t_nil (free := noF)) ?_
      exact ⟨rdI (by rw [mCount, inR_i (by decide) (by decide), if_pos rfl, nI_clamp (by decide)]; rfl), rfl⟩
    · subst het
      refine lv_tableIn (tgt := 147) hx hb d_Mo_count_1 (by decide +kernel) (by decide +kernel) (show _ = some _ from rfl) (by decide +kernel) ?_
      refine lv_aload_n hx hb d_Mo_count_147 rfl (lv_at hl 0 rfl) ?_
      refine g_get C0 hK il_Mo hP.1 rfl 8 (by decide) fl_Mo_37 rfl d_Mo_count_148 ?_
      refine g_iret C0 hlk hr d_Mo_count_151 (t_nil (free := noF)) ?_
      exact ⟨rdI (by rw [mCount, inR_i (by decide) (by decide), if_pos rfl, nI_clamp (by decide)]; rfl), rfl⟩

set_option maxHeartbeats 4000000 in
set_option maxRecDepth 100000 in
theorem k_Mo_next (l : Launch) (G : gT) (o : Nat) (S sp bf sv iz rr pd : Nat → Nat) (ln sts td ac : Nat) (a : Int32) (hM : mOk S) : gM l y_Mo_next c_Mo_next 2 (some .int) 3 68 0 0 G [.ref o, .int a] (fun H => MAt G o S sp bf sv iz rr pd ln sts td ac H) (rd (.int (mNext S a))) noF := by
  refine g_enter "GaleNamesModel" (by decide +kernel) rfl (Nat.le_of_ble_eq_true rfl) ?_
  intro p e s m args below meth c C0 hlk hr hnm hP hK ls hl
  have hx := C0.1
  have hb := C0.2.1
  have hl : lv_has ls 2 [(0, .ref o), (1, .int a)] := hl
  have hn40 := hM.n
  have hg16 := hM.g
  have hk10 := hM.k
  refine lv_iload_n hx hb d_Mo_next_0 rfl (lv_at hl 1 rfl) ?_
  refine lv_iconst (v := nI 0) hx hb d_Mo_next_1 (by decide +kernel) ?_
  refine lv_iconst (v := nI 1) hx hb d_Mo_next_2 (by decide +kernel) ?_
  refine g_S C0 (k_Mo_in l G a (nI 0) (nI 1)) co_Mo_in sm_Mo_in in_Mo gc_Mo_in ml_Mo_33 ⟨Nat.le_of_ble_eq_true rfl, Nat.le_of_ble_eq_true rfl⟩ hK trivial rfl hl.1 rfl (Nat.le_of_ble_eq_true rfl) d_Mo_next_3 ⟨Nat.le_of_ble_eq_true rfl, Nat.le_of_ble_eq_true rfl⟩ (g_r rfl ?_)
  refine g_zeq (tgt := 17) C0 d_Mo_next_6 (by decide) (fun c_6 => ?_) (fun c_6 => ?_)
  · skip
    have c_6 : inR a 2 = false := (inD_c (h := 1) (by decide)).symm.trans c_6
    refine lv_iconst (v := -1) hx hb d_Mo_next_17 (by decide +kernel) ?_
    refine g_iret C0 hlk hr d_Mo_next_18 (t_nil (free := noF)) ?_
    exact ⟨rdI (by rw [mNext, c_6] <;> rfl), rfl⟩
  · skip
    have c_6 : inR a 2 = true := (inD_c (h := 1) (by decide)).symm.trans c_6
    obtain ⟨i, hi, hi31, rfl⟩ := inR_t c_6
    refine lv_aload_n hx hb d_Mo_next_9 rfl (lv_at hl 0 rfl) ?_
    refine lv_iload_n hx hb d_Mo_next_10 rfl (lv_at hl 1 rfl) ?_
    refine g_V C0 (k_Mo_nextOf l G o S sp bf sv iz rr pd ln sts td ac i (by omega) hM) co_Mo_nextOf im_Mo_nextOf se_Mo_nextOf in_Mo gc_Mo_nextOf ml_Mo_119 ⟨Nat.le_of_ble_eq_true rfl, Nat.le_of_ble_eq_true rfl⟩ hK hP.1 rfl ⟨hP.1, hP.2.1, hP.2.2.1, hP.2.2.2.1, hP.2.2.2.2.1, hP.2.2.2.2.2.1, hP.2.2.2.2.2.2.1, hP.2.2.2.2.2.2.2⟩ rfl hl.1 rfl (Nat.le_of_ble_eq_true rfl) d_Mo_next_11 ⟨Nat.le_of_ble_eq_true rfl, Nat.le_of_ble_eq_true rfl⟩ (g_r rfl ?_)
    refine lv_goto (tgt := 18) hx hb d_Mo_next_14 (by decide) ?_
    refine g_iret C0 hlk hr d_Mo_next_18 (t_nil (free := noF)) ?_
    exact ⟨rdI (by rw [mNext, c_6, if_pos rfl, nI_clamp hi31] <;> rfl), rfl⟩

set_option maxHeartbeats 4000000 in
set_option maxRecDepth 100000 in
theorem k_Mo_left (l : Launch) (G : gT) (o : Nat) (S sp bf sv iz rr pd : Nat → Nat) (ln sts td ac : Nat) (a w : Int32) (hM : mOk S) : gM l y_Mo_left c_Mo_left 6 (some .int) 2 44 0 0 G [.ref o, .int a, .int w] (fun H => MAt G o S sp bf sv iz rr pd ln sts td ac H) (rd (.int (mLeft S a w))) noF := by
  refine g_enter "GaleNamesModel" (by decide +kernel) rfl (Nat.le_of_ble_eq_true rfl) ?_
  intro p e s m args below meth c C0 hlk hr hnm hP hK ls hl
  have hx := C0.1
  have hb := C0.2.1
  have hl : lv_has ls 6 [(0, .ref o), (1, .int a), (2, .int w)] := hl
  have hn40 := hM.n
  have hg16 := hM.g
  have hk10 := hM.k
  have hy := hM.2.2.2.2.2.2.2 3 (by decide)
  refine lv_iload_n hx hb d_Mo_left_0 rfl (lv_at hl 1 rfl) ?_
  refine lv_iconst (v := nI 0) hx hb d_Mo_left_1 (by decide +kernel) ?_
  refine lv_iconst (v := nI 1) hx hb d_Mo_left_2 (by decide +kernel) ?_
  refine g_S C0 (k_Mo_in l G a (nI 0) (nI 1)) co_Mo_in sm_Mo_in in_Mo gc_Mo_in ml_Mo_33 ⟨Nat.le_of_ble_eq_true rfl, Nat.le_of_ble_eq_true rfl⟩ hK trivial rfl hl.1 rfl (Nat.le_of_ble_eq_true rfl) d_Mo_left_3 ⟨Nat.le_of_ble_eq_true rfl, Nat.le_of_ble_eq_true rfl⟩ (g_r rfl ?_)
  refine g_zne (tgt := 11) C0 d_Mo_left_6 (by decide) (fun c_6 => ?_) (fun c_6 => ?_)
  · skip
    have c_6 : inR a 2 = true := (inD_c (h := 1) (by decide)).symm.trans c_6
    obtain ⟨i, hi, hi31, rfl⟩ := inR_t c_6
    refine lv_iload_n hx hb d_Mo_left_11 rfl (lv_at hl 2 rfl) ?_
    refine lv_iconst (v := nI 0) hx hb d_Mo_left_12 (by decide +kernel) ?_
    refine lv_iconst (v := nI 2) hx hb d_Mo_left_13 (by decide +kernel) ?_
    refine g_S C0 (k_Mo_in l G w (nI 0) (nI 2)) co_Mo_in sm_Mo_in in_Mo gc_Mo_in ml_Mo_33 ⟨Nat.le_of_ble_eq_true rfl, Nat.le_of_ble_eq_true rfl⟩ hK trivial rfl hl.1 rfl (Nat.le_of_ble_eq_true rfl) d_Mo_left_14 ⟨Nat.le_of_ble_eq_true rfl, Nat.le_of_ble_eq_true rfl⟩ (g_r rfl ?_)
    refine g_zne (tgt := 23) C0 d_Mo_left_17 (by decide) (fun c_17 => ?_) (fun c_17 => ?_)
    · skip
      have c_17 : inR w 3 = true := (inD_c (h := 2) (by decide)).symm.trans c_17
      obtain ⟨j, hj, hj31, rfl⟩ := inR_t c_17
      refine lv_iload_n hx hb d_Mo_left_23 rfl (lv_at hl 1 rfl) ?_
      refine lv_aload_n hx hb d_Mo_left_24 rfl (lv_at hl 0 rfl) ?_
      refine g_get C0 hK il_Mo hP.1 rfl 0 (by decide) fl_Mo_7 rfl d_Mo_left_25 ?_
      refine lv_iconst (v := nI 3) hx hb d_Mo_left_28 (by decide +kernel) ?_
      refine g_iald C0 hK hP.2.1 (by omega) (by omega) d_Mo_left_29 ?_
      refine lv_iload_n hx hb d_Mo_left_30 rfl (lv_at hl 2 rfl) ?_
      refine g_iadd C0 (z := S 3 + j) d_Mo_left_31 rfl ?_
      refine lv_iconst (v := nI 3) hx hb d_Mo_left_32 (by decide +kernel) ?_
      refine g_irem C0 (z := (S 3 + j) % 3) d_Mo_left_33 (by omega) (by omega) (by omega) rfl ?_
      have hm3 : (S 3 + j) % 3 < 3 := Nat.mod_lt _ (by decide)
      have hl8 := hM.l hi hm3
      refine g_S C0 (k_Mo_l l G i ((S 3 + j) % 3)) co_Mo_l sm_Mo_l in_Mo gc_Mo_l ml_Mo_68 ⟨Nat.le_of_ble_eq_true rfl, Nat.le_of_ble_eq_true rfl⟩ hK trivial rfl hl.1 rfl (Nat.le_of_ble_eq_true rfl) d_Mo_left_34 ⟨Nat.le_of_ble_eq_true rfl, Nat.le_of_ble_eq_true rfl⟩ (g_r rfl ?_)
      refine lv_istore_n (lv' := [(3, .int (nI (409 + 27 * i + 9 * ((S 3 + j) % 3)))), (0, .ref o), (1, .int (nI i)), (2, .int (nI j))]) hx hb d_Mo_left_37 rfl hl (by decide) rfl (fun ls hl => ?_)
      refine lv_iconst (v := nI 0) hx hb d_Mo_left_38 (by decide +kernel) ?_
      refine lv_istore (lv' := [(4, .int (nI 0)), (3, .int (nI (409 + 27 * i + 9 * ((S 3 + j) % 3)))), (0, .ref o), (1, .int (nI i)), (2, .int (nI j))]) hx hb d_Mo_left_39 hl (by decide) rfl (fun ls hl => ?_)
      refine lv_iconst (v := nI 0) hx hb d_Mo_left_41 (by decide +kernel) ?_
      refine lv_istore (lv' := [(5, .int (nI 0)), (4, .int (nI 0)), (3, .int (nI (409 + 27 * i + 9 * ((S 3 + j) % 3)))), (0, .ref o), (1, .int (nI i)), (2, .int (nI j))]) hx hb d_Mo_left_42 hl (by decide) rfl (fun ls hl => ?_)
      have lp44 : ∀ (fu : Nat) (n : Nat) (q : Nat), (S (409 + 27 * i + 9 * ((S 3 + j) % 3)) - n) < fu → n ≤ S (409 + 27 * i + 9 * ((S 3 + j) % 3)) → q = cN (fun m => decide (0 < j) || !mGv S (S (409 + 27 * i + 9 * ((S 3 + j) % 3) + 1 + m)) i) n → ∀ ls : Array Slot, lv_has ls 6 [(5, .int (nI n)), (4, .int (nI q)), (3, .int (nI (409 + 27 * i + 9 * ((S 3 + j) % 3)))), (0, .ref o), (1, .int (nI i)), (2, .int (nI j))] → W p l e ({ frames := 2, cells := 0, slots := 0, locals := 44 } : Room) s m args below meth c s.heap [] 0 0 (MQ below (gQ (rd (.int (mLeft S (nI i) (nI j))))) args s 0 0 noF) (F0 m 44 ls []) := by
        intro fu
        induction fu with
        | zero => intro n q  hfu; exact absurd hfu (Nat.not_lt_zero _)
        | succ fu ih44 =>
          intro n q hfu hn hq2 ls hl
          refine lv_iload hx hb d_Mo_left_44 (lv_at hl 0 rfl) ?_
          refine lv_aload_n hx hb d_Mo_left_46 rfl (lv_at hl 3 rfl) ?_
          refine g_get C0 hK il_Mo hP.1 rfl 0 (by decide) fl_Mo_7 rfl d_Mo_left_47 ?_
          refine lv_iload_n hx hb d_Mo_left_50 rfl (lv_at hl 2 rfl) ?_
          refine g_iald C0 hK hP.2.1 (by omega) (by omega) d_Mo_left_51 ?_
          refine g_cge (tgt := 94) C0 d_Mo_left_52 (by decide) (by first | omega | exact hM.b (by omega) | exact hR.p (by omega)) (by first | omega | exact hM.b (by omega) | exact hR.p (by omega)) (fun c_52 => ?_) (fun c_52 => ?_)
          · skip
            refine lv_iload hx hb d_Mo_left_94 (lv_at hl 1 rfl) ?_
            refine g_iret C0 hlk hr d_Mo_left_96 (t_nil (free := noF)) ?_
            exact ⟨rdI (by rw [mLeft, c_6, if_pos rfl, c_17, if_pos rfl, nI_clamp hi31, nI_clamp hj31, hq2, show n = S (409 + 27 * i + 9 * ((S 3 + j) % 3)) by omega] <;> rfl), rfl⟩
          · skip
            refine lv_iload hx hb d_Mo_left_55 (lv_at hl 1 rfl) ?_
            refine lv_iload_n hx hb d_Mo_left_57 rfl (lv_at hl 5 rfl) ?_
            refine lv_if_gt (tgt := 80) hx hb d_Mo_left_58 (by decide) (fun c_58 => ?_) (fun c_58 => ?_)
            · skip
              have h0 : 0 < j := by
                rcases Nat.eq_zero_or_pos j with q | q
                · subst q; exact absurd c_58 (by decide)
                · exact q
              refine lv_iconst (v := nI 1) hx hb d_Mo_left_80 (by decide +kernel) ?_
              refine lv_goto (tgt := 85) hx hb d_Mo_left_81 (by decide) ?_
              refine g_iadd C0 (z := q + 1) d_Mo_left_85 rfl ?_
              refine lv_istore (lv' := [(4, .int (nI (q + 1))), (5, .int (nI n)), (3, .int (nI (409 + 27 * i + 9 * ((S 3 + j) % 3)))), (0, .ref o), (1, .int (nI i)), (2, .int (nI j))]) hx hb d_Mo_left_86 hl (by decide) rfl (fun ls hl => ?_)
              refine lv_iinc (v := (nI (n + 1))) (lv' := [(5, .int (nI (n + 1))), (4, .int (nI (q + 1))), (3, .int (nI (409 + 27 * i + 9 * ((S 3 + j) % 3)))), (0, .ref o), (1, .int (nI i)), (2, .int (nI j))]) hx hb d_Mo_left_88 hl (k := 1) rfl (gI_inc _) (by decide) rfl (fun ls hl => ?_)
              refine lv_goto (tgt := 44) hx hb d_Mo_left_91 (by decide) ?_
              exact ih44 (n + 1) (q + 1) (by omega) (by omega) (by rw [cN_s, ← hq2]; simp [h0]) ls (lv_sub hl [0, 1, 2, 3, 4, 5] rfl)
            · skip
              have h0 : j = 0 := by
                rcases (show j = 0 ∨ j = 1 ∨ j = 2 by omega) with q | q | q
                · exact q
                · subst q; exact absurd (by decide) c_58
                · subst q; exact absurd (by decide) c_58
              refine lv_aload_n hx hb d_Mo_left_61 rfl (lv_at hl 3 rfl) ?_
              refine lv_aload_n hx hb d_Mo_left_62 rfl (lv_at hl 3 rfl) ?_
              refine g_get C0 hK il_Mo hP.1 rfl 0 (by decide) fl_Mo_7 rfl d_Mo_left_63 ?_
              refine lv_iload_n hx hb d_Mo_left_66 rfl (lv_at hl 2 rfl) ?_
              refine lv_iconst (v := nI 1) hx hb d_Mo_left_67 (by decide +kernel) ?_
              refine g_iadd C0 (z := 409 + 27 * i + 9 * ((S 3 + j) % 3) + 1) d_Mo_left_68 rfl ?_
              refine lv_iload hx hb d_Mo_left_69 (lv_at hl 0 rfl) ?_
              refine g_iadd C0 (z := 409 + 27 * i + 9 * ((S 3 + j) % 3) + 1 + n) d_Mo_left_71 rfl ?_
              refine g_iald C0 hK hP.2.1 (by omega) (by omega) d_Mo_left_72 ?_
              refine lv_iload_n hx hb d_Mo_left_73 rfl (lv_at hl 4 rfl) ?_
              refine g_V C0 (k_Mo_isGiven l G o S sp bf sv iz rr pd ln sts td ac (S (409 + 27 * i + 9 * ((S 3 + j) % 3) + 1 + n)) i (hM.b (by omega)) (by omega) hM) co_Mo_isGiven im_Mo_isGiven se_Mo_isGiven in_Mo gc_Mo_isGiven ml_Mo_77 ⟨Nat.le_of_ble_eq_true rfl, Nat.le_of_ble_eq_true rfl⟩ hK hP.1 rfl ⟨hP.1, hP.2.1, hP.2.2.1, hP.2.2.2.1, hP.2.2.2.2.1, hP.2.2.2.2.2.1, hP.2.2.2.2.2.2.1, hP.2.2.2.2.2.2.2⟩ rfl hl.1 rfl (Nat.le_of_ble_eq_true rfl) d_Mo_left_74 ⟨Nat.le_of_ble_eq_true rfl, Nat.le_of_ble_eq_true rfl⟩ (g_r rfl ?_)
              refine g_zne (tgt := 84) C0 d_Mo_left_77 (by decide) (fun c_77 => ?_) (fun c_77 => ?_)
              · skip
                refine lv_iconst (v := nI 0) hx hb d_Mo_left_84 (by decide +kernel) ?_
                refine g_iadd C0 (z := q) d_Mo_left_85 rfl ?_
                refine lv_istore (lv' := [(4, .int (nI q)), (5, .int (nI n)), (3, .int (nI (409 + 27 * i + 9 * ((S 3 + j) % 3)))), (0, .ref o), (1, .int (nI i)), (2, .int (nI j))]) hx hb d_Mo_left_86 hl (by decide) rfl (fun ls hl => ?_)
                refine lv_iinc (v := (nI (n + 1))) (lv' := [(5, .int (nI (n + 1))), (4, .int (nI q)), (3, .int (nI (409 + 27 * i + 9 * ((S 3 + j) % 3)))), (0, .ref o), (1, .int (nI i)), (2, .int (nI j))]) hx hb d_Mo_left_88 hl (k := 1) rfl (gI_inc _) (by decide) rfl (fun ls hl => ?_)
                refine lv_goto (tgt := 44) hx hb d_Mo_left_91 (by decide) ?_
                exact ih44 (n + 1) q (by omega) (by omega) (by rw [cN_s, ← hq2]; simp only [c_77]; simp [h0]) ls (lv_sub hl [0, 1, 2, 3, 4, 5] rfl)
              · skip
                refine lv_iconst (v := nI 1) hx hb d_Mo_left_80 (by decide +kernel) ?_
                refine lv_goto (tgt := 85) hx hb d_Mo_left_81 (by decide) ?_
                refine g_iadd C0 (z := q + 1) d_Mo_left_85 rfl ?_
                refine lv_istore (lv' := [(4, .int (nI (q + 1))), (5, .int (nI n)), (3, .int (nI (409 + 27 * i + 9 * ((S 3 + j) % 3)))), (0, .ref o), (1, .int (nI i)), (2, .int (nI j))]) hx hb d_Mo_left_86 hl (by decide) rfl (fun ls hl => ?_)
                refine lv_iinc (v := (nI (n + 1))) (lv' := [(5, .int (nI (n + 1))), (4, .int (nI (q + 1))), (3, .int (nI (409 + 27 * i + 9 * ((S 3 + j) % 3)))), (0, .ref o), (1, .int (nI i)), (2, .int (nI j))]) hx hb d_Mo_left_88 hl (k := 1) rfl (gI_inc _) (by decide) rfl (fun ls hl => ?_)
                refine lv_goto (tgt := 44) hx hb d_Mo_left_91 (by decide) ?_
                exact ih44 (n + 1) (q + 1) (by omega) (by omega) (by rw [cN_s, ← hq2]; simp only [c_77]; simp [h0]) ls (lv_sub hl [0, 1, 2, 3, 4, 5] rfl)
      exact lp44 ((S (409 + 27 * i + 9 * ((S 3 + j) % 3)) - 0) + 1) 0 0 (by omega) (by omega) rfl ls (lv_sub hl [0, 1, 2, 3, 4, 5] rfl)
    · skip
      have c_17 : inR w 3 = false := (inD_c (h := 2) (by decide)).symm.trans c_17
      refine lv_bipush (v := -2) hx hb d_Mo_left_20 (by decide +kernel) ?_
      refine g_iret C0 hlk hr d_Mo_left_22 (t_nil (free := noF)) ?_
      exact ⟨rdI (by rw [mLeft, c_6, if_pos rfl, c_17] <;> rfl), rfl⟩
  · skip
    have c_6 : inR a 2 = false := (inD_c (h := 1) (by decide)).symm.trans c_6
    refine lv_iconst (v := -1) hx hb d_Mo_left_9 (by decide +kernel) ?_
    refine g_iret C0 hlk hr d_Mo_left_10 (t_nil (free := noF)) ?_
    exact ⟨rdI (by rw [mLeft, c_6] <;> rfl), rfl⟩

set_option maxHeartbeats 4000000 in
set_option maxRecDepth 100000 in
theorem k_Mo_ifRetired (l : Launch) (G : gT) (o : Nat) (S sp bf sv iz rr pd : Nat → Nat) (ln sts td ac : Nat) (a : Int32) (hM : mOk S) : gM l y_Mo_ifRetired c_Mo_ifRetired 4 (some .int) 2 43 0 0 G [.ref o, .int a] (fun H => MAt G o S sp bf sv iz rr pd ln sts td ac H) (rd (.int (mIfR S a))) noF := by
  refine g_enter "GaleNamesModel" (by decide +kernel) rfl (Nat.le_of_ble_eq_true rfl) ?_
  intro p e s m args below meth c C0 hlk hr hnm hP hK ls hl
  have hx := C0.1
  have hb := C0.2.1
  have hl : lv_has ls 4 [(0, .ref o), (1, .int a)] := hl
  have hn40 := hM.n
  have hg16 := hM.g
  have hk10 := hM.k
  refine lv_iload_n hx hb d_Mo_ifRetired_0 rfl (lv_at hl 1 rfl) ?_
  refine lv_iconst (v := nI 1) hx hb d_Mo_ifRetired_1 (by decide +kernel) ?_
  refine lv_bipush (v := nI 99) hx hb d_Mo_ifRetired_2 (by decide +kernel) ?_
  refine g_S C0 (k_Mo_in l G a (nI 1) (nI 99)) co_Mo_in sm_Mo_in in_Mo gc_Mo_in ml_Mo_33 ⟨Nat.le_of_ble_eq_true rfl, Nat.le_of_ble_eq_true rfl⟩ hK trivial rfl hl.1 rfl (Nat.le_of_ble_eq_true rfl) d_Mo_ifRetired_4 ⟨Nat.le_of_ble_eq_true rfl, Nat.le_of_ble_eq_true rfl⟩ (g_r rfl ?_)
  refine g_zne (tgt := 13) C0 d_Mo_ifRetired_7 (by decide) (fun c_7 => ?_) (fun c_7 => ?_)
  · skip
    have c_7 : inD a (nI 1) (nI 99) = true := c_7
    obtain ⟨r, hr1, hr99, rfl⟩ : ∃ r, 1 ≤ r ∧ r ≤ 99 ∧ a = nI r := by
      have q := c_7
      unfold inD at q
      have q := of_decide_eq_true q
      exact inD_ex (by rw [Int32.lt_iff_toInt_lt]; have := Int32.le_iff_toInt_le.mp q.1; omega) q.2 (by decide) (by decide)
    refine lv_iconst (v := nI 0) hx hb d_Mo_ifRetired_13 (by decide +kernel) ?_
    refine lv_istore_n (lv' := [(2, .int (nI 0)), (0, .ref o), (1, .int (nI r))]) hx hb d_Mo_ifRetired_14 rfl hl (by decide) rfl (fun ls hl => ?_)
    refine lv_iconst (v := nI 0) hx hb d_Mo_ifRetired_15 (by decide +kernel) ?_
    refine lv_istore_n (lv' := [(3, .int (nI 0)), (2, .int (nI 0)), (0, .ref o), (1, .int (nI r))]) hx hb d_Mo_ifRetired_16 rfl hl (by decide) rfl (fun ls hl => ?_)
    have lp17 : ∀ (fu : Nat) (i : Nat) (q : Nat), (S 4 - i) < fu → i ≤ S 4 → q = cN (fun n => decide (r ≤ mHm S n)) i → ∀ ls : Array Slot, lv_has ls 4 [(3, .int (nI i)), (2, .int (nI q)), (0, .ref o), (1, .int (nI r))] → W p l e ({ frames := 2, cells := 0, slots := 0, locals := 43 } : Room) s m args below meth c s.heap [] 0 0 (MQ below (gQ (rd (.int (mIfR S (nI r))))) args s 0 0 noF) (F0 m 17 ls []) := by
      intro fu
      induction fu with
      | zero => intro i q  hfu; exact absurd hfu (Nat.not_lt_zero _)
      | succ fu ih17 =>
        intro i q hfu hi hq2 ls hl
        refine lv_iload_n hx hb d_Mo_ifRetired_17 rfl (lv_at hl 0 rfl) ?_
        refine lv_aload_n hx hb d_Mo_ifRetired_18 rfl (lv_at hl 2 rfl) ?_
        refine g_get C0 hK il_Mo hP.1 rfl 0 (by decide) fl_Mo_7 rfl d_Mo_ifRetired_19 ?_
        refine lv_iconst (v := nI 4) hx hb d_Mo_ifRetired_22 (by decide +kernel) ?_
        refine g_iald C0 hK hP.2.1 (by omega) (by omega) d_Mo_ifRetired_23 ?_
        refine g_cge (tgt := 50) C0 d_Mo_ifRetired_24 (by decide) (by first | omega | exact hM.b (by omega) | exact hR.p (by omega)) (by first | omega | exact hM.b (by omega) | exact hR.p (by omega)) (fun c_24 => ?_) (fun c_24 => ?_)
        · skip
          refine lv_iload_n hx hb d_Mo_ifRetired_50 rfl (lv_at hl 1 rfl) ?_
          refine g_iret C0 hlk hr d_Mo_ifRetired_51 (t_nil (free := noF)) ?_
          exact ⟨rdI (by rw [mIfR, c_7, if_pos rfl, nI_clamp (by omega), hq2, show i = S 4 by omega] <;> rfl), rfl⟩
        · skip
          refine lv_iload_n hx hb d_Mo_ifRetired_27 rfl (lv_at hl 1 rfl) ?_
          refine lv_aload_n hx hb d_Mo_ifRetired_28 rfl (lv_at hl 2 rfl) ?_
          refine lv_iload_n hx hb d_Mo_ifRetired_29 rfl (lv_at hl 0 rfl) ?_
          refine g_V C0 (k_Mo_harmOf l G o S sp bf sv iz rr pd ln sts td ac i (by omega) hM) co_Mo_harmOf im_Mo_harmOf se_Mo_harmOf in_Mo gc_Mo_harmOf ml_Mo_129 ⟨Nat.le_of_ble_eq_true rfl, Nat.le_of_ble_eq_true rfl⟩ hK hP.1 rfl ⟨hP.1, hP.2.1, hP.2.2.1, hP.2.2.2.1, hP.2.2.2.2.1, hP.2.2.2.2.2.1, hP.2.2.2.2.2.2.1, hP.2.2.2.2.2.2.2⟩ rfl hl.1 rfl (Nat.le_of_ble_eq_true rfl) d_Mo_ifRetired_30 ⟨Nat.le_of_ble_eq_true rfl, Nat.le_of_ble_eq_true rfl⟩ (g_r rfl ?_)
          refine lv_iload_n hx hb d_Mo_ifRetired_33 rfl (lv_at hl 3 rfl) ?_
          refine g_clt (tgt := 41) C0 d_Mo_ifRetired_34 (by decide) (mHm_lt hM i) (by first | omega | exact hM.b (by omega) | exact hR.p (by omega)) (fun c_34 => ?_) (fun c_34 => ?_)
          · skip
            have h0 : ¬ r ≤ mHm S i := by omega
            refine lv_iconst (v := nI 0) hx hb d_Mo_ifRetired_41 (by decide +kernel) ?_
            refine g_iadd C0 (z := q) d_Mo_ifRetired_42 rfl ?_
            refine lv_istore_n (lv' := [(2, .int (nI q)), (3, .int (nI i)), (0, .ref o), (1, .int (nI r))]) hx hb d_Mo_ifRetired_43 rfl hl (by decide) rfl (fun ls hl => ?_)
            refine lv_iinc (v := (nI (i + 1))) (lv' := [(3, .int (nI (i + 1))), (2, .int (nI q)), (0, .ref o), (1, .int (nI r))]) hx hb d_Mo_ifRetired_44 hl (k := 1) rfl (gI_inc _) (by decide) rfl (fun ls hl => ?_)
            refine lv_goto (tgt := 17) hx hb d_Mo_ifRetired_47 (by decide) ?_
            exact ih17 (i + 1) q (by omega) (by omega) (by rw [cN_s, ← hq2]; simp [h0]) ls (lv_sub hl [0, 1, 2, 3] rfl)
          · skip
            have h0 : r ≤ mHm S i := by omega
            refine lv_iconst (v := nI 1) hx hb d_Mo_ifRetired_37 (by decide +kernel) ?_
            refine lv_goto (tgt := 42) hx hb d_Mo_ifRetired_38 (by decide) ?_
            refine g_iadd C0 (z := q + 1) d_Mo_ifRetired_42 rfl ?_
            refine lv_istore_n (lv' := [(2, .int (nI (q + 1))), (3, .int (nI i)), (0, .ref o), (1, .int (nI r))]) hx hb d_Mo_ifRetired_43 rfl hl (by decide) rfl (fun ls hl => ?_)
            refine lv_iinc (v := (nI (i + 1))) (lv' := [(3, .int (nI (i + 1))), (2, .int (nI (q + 1))), (0, .ref o), (1, .int (nI r))]) hx hb d_Mo_ifRetired_44 hl (k := 1) rfl (gI_inc _) (by decide) rfl (fun ls hl => ?_)
            refine lv_goto (tgt := 17) hx hb d_Mo_ifRetired_47 (by decide) ?_
            exact ih17 (i + 1) (q + 1) (by omega) (by omega) (by rw [cN_s, ← hq2]; simp [h0]) ls (lv_sub hl [0, 1, 2, 3] rfl)
    exact lp17 ((S 4 - 0) + 1) 0 0 (by omega) (by omega) rfl ls (lv_sub hl [0, 1, 2, 3] rfl)
  · skip
    refine lv_bipush (v := -2) hx hb d_Mo_ifRetired_10 (by decide +kernel) ?_
    refine g_iret C0 hlk hr d_Mo_ifRetired_12 (t_nil (free := noF)) ?_
    exact ⟨rdI (by rw [mIfR, c_7] <;> rfl), rfl⟩

set_option maxHeartbeats 4000000 in
set_option maxRecDepth 100000 in
theorem k_Mo_same (l : Launch) (G : gT) (o : Nat) (S sp bf sv iz rr pd : Nat → Nat) (ln sts td ac : Nat) (a b : Int32) (hM : mOk S) : gM l y_Mo_same c_Mo_same 3 (some .int) 2 43 0 0 G [.ref o, .int a, .int b] (fun H => MAt G o S sp bf sv iz rr pd ln sts td ac H) (rd (.int (mSame S a b))) noF := by
  refine g_enter "GaleNamesModel" (by decide +kernel) rfl (Nat.le_of_ble_eq_true rfl) ?_
  intro p e s m args below meth c C0 hlk hr hnm hP hK ls hl
  have hx := C0.1
  have hb := C0.2.1
  have hl : lv_has ls 3 [(0, .ref o), (1, .int a), (2, .int b)] := hl
  have hn40 := hM.n
  have hg16 := hM.g
  have hk10 := hM.k
  refine lv_aload_n hx hb d_Mo_same_0 rfl (lv_at hl 0 rfl) ?_
  refine lv_iload_n hx hb d_Mo_same_1 rfl (lv_at hl 1 rfl) ?_
  refine g_V C0 (k_Mo_isName l G o S sp bf sv iz rr pd ln sts td ac a hM) co_Mo_isName im_Mo_isName se_Mo_isName in_Mo gc_Mo_isName ml_Mo_142 ⟨Nat.le_of_ble_eq_true rfl, Nat.le_of_ble_eq_true rfl⟩ hK hP.1 rfl ⟨hP.1, hP.2.1, hP.2.2.1, hP.2.2.2.1, hP.2.2.2.2.1, hP.2.2.2.2.2.1, hP.2.2.2.2.2.2.1, hP.2.2.2.2.2.2.2⟩ rfl hl.1 rfl (Nat.le_of_ble_eq_true rfl) d_Mo_same_2 ⟨Nat.le_of_ble_eq_true rfl, Nat.le_of_ble_eq_true rfl⟩ (g_r rfl ?_)
  refine g_zeq (tgt := 25) C0 d_Mo_same_5 (by decide) (fun c_5 => ?_) (fun c_5 => ?_)
  · skip
    refine lv_iconst (v := -1) hx hb d_Mo_same_25 (by decide +kernel) ?_
    refine g_iret C0 hlk hr d_Mo_same_26 (t_nil (free := noF)) ?_
    exact ⟨rdI (by rw [mSame, c_5] <;> rfl), rfl⟩
  · skip
    obtain ⟨i, hi, hi31, rfl⟩ := inR_t c_5
    refine lv_aload_n hx hb d_Mo_same_8 rfl (lv_at hl 0 rfl) ?_
    refine lv_iload_n hx hb d_Mo_same_9 rfl (lv_at hl 2 rfl) ?_
    refine g_V C0 (k_Mo_isName l G o S sp bf sv iz rr pd ln sts td ac b hM) co_Mo_isName im_Mo_isName se_Mo_isName in_Mo gc_Mo_isName ml_Mo_142 ⟨Nat.le_of_ble_eq_true rfl, Nat.le_of_ble_eq_true rfl⟩ hK hP.1 rfl ⟨hP.1, hP.2.1, hP.2.2.1, hP.2.2.2.1, hP.2.2.2.2.1, hP.2.2.2.2.2.1, hP.2.2.2.2.2.2.1, hP.2.2.2.2.2.2.2⟩ rfl hl.1 rfl (Nat.le_of_ble_eq_true rfl) d_Mo_same_10 ⟨Nat.le_of_ble_eq_true rfl, Nat.le_of_ble_eq_true rfl⟩ (g_r rfl ?_)
    refine g_zeq (tgt := 25) C0 d_Mo_same_13 (by decide) (fun c_13 => ?_) (fun c_13 => ?_)
    · skip
      refine lv_iconst (v := -1) hx hb d_Mo_same_25 (by decide +kernel) ?_
      refine g_iret C0 hlk hr d_Mo_same_26 (t_nil (free := noF)) ?_
      exact ⟨rdI (by rw [mSame, c_5, c_13] <;> rfl), rfl⟩
    · skip
      obtain ⟨j, hj, hj31, rfl⟩ := inR_t c_13
      refine lv_aload_n hx hb d_Mo_same_16 rfl (lv_at hl 0 rfl) ?_
      refine lv_iload_n hx hb d_Mo_same_17 rfl (lv_at hl 1 rfl) ?_
      refine lv_iload_n hx hb d_Mo_same_18 rfl (lv_at hl 2 rfl) ?_
      refine g_V C0 (k_Mo_prefix l G o S sp bf sv iz rr pd ln sts td ac i j (by omega) (by omega) hM) co_Mo_prefix im_Mo_prefix se_Mo_prefix in_Mo gc_Mo_prefix ml_Mo_64 ⟨Nat.le_of_ble_eq_true rfl, Nat.le_of_ble_eq_true rfl⟩ hK hP.1 rfl ⟨hP.1, hP.2.1, hP.2.2.1, hP.2.2.2.1, hP.2.2.2.2.1, hP.2.2.2.2.2.1, hP.2.2.2.2.2.2.1, hP.2.2.2.2.2.2.2⟩ rfl hl.1 rfl (Nat.le_of_ble_eq_true rfl) d_Mo_same_19 ⟨Nat.le_of_ble_eq_true rfl, Nat.le_of_ble_eq_true rfl⟩ (g_r rfl ?_)
      refine lv_goto (tgt := 26) hx hb d_Mo_same_22 (by decide) ?_
      refine g_iret C0 hlk hr d_Mo_same_26 (t_nil (free := noF)) ?_
      exact ⟨rdI (by rw [mSame, c_5, c_13, nI_clamp hi31, nI_clamp hj31] <;> rfl), rfl⟩
