theorem g_sav {l : Launch} {y : MethodName} {cc : ByteArray} {nL fr lo mc ms x : Nat} {ret : Option FieldType} {G : gT} {av : List Value} {P : Heap → Prop} {free : Addr → Prop} {r : Int32 × XS} {v' : Int32} {X' : XS} (h : gM l y cc nL ret fr lo mc ms G av P (wi (.int r.1) (fun H H1 => XAt G x r.2 H1 ∧ gFA x H H1)) free) (e : r = (v', X')) : gM l y cc nL ret fr lo mc ms G av P (wi (.int v') (fun H H1 => XAt G x X' H1 ∧ gFA x H H1)) free := by
  subst e; exact h

theorem law_fin {p : Program} {l : Launch} {e : Env} {s : State} {m : MethodId} {below : List Frame} {meth : Method} {c : Code} {b x : Nat} {H : Heap} {locs : List Loc} {ls : Array Slot} (C0 : CallFix p m c code 5 s #[.ref b] lw_g "GaleNamesLaw") (hxs : x = s.heap.size) (hr : meth.sig.returnType = ret) (hlk : meth.locks = false) (hg : gGr x s.heap H) (hL : ∀ q ∈ locs, x ≤ q.base) : W p l e room_1 s m #[.ref b] below meth c H locs 298 2864 (lw_Z below #[.ref b] s) (F0 m 274 ls [.int (nI 1)]) := by
  refine va_forget (fun q hq => by rw [← hxs]; exact hL q hq) ?_
  refine W.widen (k := 600000) (n := 7302250) (by omega) (by omega) ?_
  exact lw_ret C0.1 C0.2.1 hr hlk d_La_law_274

set_option maxHeartbeats 8000000 in
set_option maxRecDepth 100000 in
theorem law_end (l : Launch) (G : gT) {p : Program} {e : Env} {s : State} {m : MethodId} {below : List Frame} {meth : Method} {c : Code} {b x : Nat} {H : Heap} {locs : List Loc} {X1 : XS} (C0 : CallFix p m c code 5 s #[.ref b] lw_g "GaleNamesLaw") (hxs : x = s.heap.size) (hr : meth.sig.returnType = ret) (hlk : meth.locks = false) (hK : gK G s) (hJ1 : IX 44 X1) (hP : XAt G x X1 H) (hF : gGr x s.heap H) (hL : ∀ q ∈ locs, x ≤ q.base) (ls : Array Slot) (hl : lv_has ls 5 [(2, .int (nI 1)), (1, .ref x), (0, .ref b)]) : W p l e room_1 s m #[.ref b] below meth c H locs 262 2522 (lw_Z below #[.ref b] s) (F0 m 139 ls []) := by
  have hO1 := hJ1.ok (by decide)
  have hx := C0.1
  have hb := C0.2.1
  refine lv_aload_n hx hb d_La_law_139 rfl (lv_at hl 1 rfl) ?_
  refine lv_iconst (v := nI 1) hx hb d_La_law_140 (by decide +kernel) ?_
  obtain ⟨Xs, hXS⟩ : ∃ Z, Z = cSv X1 1 H.size := ⟨_, rfl⟩
  obtain ⟨hs1, hs2, ⟨us, hs3⟩, As, hs4⟩ := sv_ok X1 H.size
  rw [← hXS] at hs1 hs2 hs3 hs4
  have hJS : IX 44 Xs := ⟨by rw [hs1]; exact hJ1.1, by rw [hs2]; exact hJ1.2⟩
  have hOS := hJS.ok (by decide)
  refine g_V C0 (g_sav (v' := nI (Xs.1.2 1).1) (X' := Xs) (k_Ga_save l G x X1 (nI 1) H.size hO1) (by rw [show (Xs.1.2 1).1 = (X1.1.2 1).1 by rw [hs1], hXS]; exact save_v _)) co_Ga_save im_Ga_save se_Ga_save in_Ga gc_Ga_save ml_La_127 ⟨Nat.le_of_ble_eq_true rfl, Nat.le_of_ble_eq_true rfl⟩ hK hP.1 rfl ⟨hP, rfl, hP.sz⟩ rfl hl.1 rfl (Nat.le_of_ble_eq_true rfl) d_La_law_141 ⟨Nat.le_of_ble_eq_true rfl, Nat.le_of_ble_eq_true rfl⟩ (g_wx (free := fun q => x ≤ q) hL (fun q h => (by have h2 : (x ≤ q ∧ q < x + 262) ∨ x + 262 ≤ q := h; show x ≤ q; omega)) (fun H_1 locs hL ⟨hRS, hf_2⟩ => ?_))
  refine W.widen (k := 298) (n := 2864) (by omega) (by omega) ?_
  refine lv_istore_n (lv' := [(3, .int (nI ((Xs.1.2 1).1))), (2, .int (nI 1)), (1, .ref x), (0, .ref b)]) hx hb d_La_law_144 rfl hl (by decide) rfl (fun ls hl => ?_)
  refine lv_aload_n hx hb d_La_law_145 rfl (lv_at hl 2 rfl) ?_
  refine lv_iconst (v := nI 4) hx hb d_La_law_146 (by decide +kernel) ?_
  refine g_V C0 (g_val (v' := (nI (sN (Xs.1.2 3).2 (Xs.1.2 3).1))) (k_Ga_count l G x Xs (nI 4) hOS) cnt_4) co_Ga_count im_Ga_count se_Ga_count in_Ga gc_Ga_count ml_La_22 ⟨Nat.le_of_ble_eq_true rfl, Nat.le_of_ble_eq_true rfl⟩ hK hRS.1 rfl hRS rfl hl.1 rfl (Nat.le_of_ble_eq_true rfl) d_La_law_147 ⟨Nat.le_of_ble_eq_true rfl, Nat.le_of_ble_eq_true rfl⟩ (g_r rfl ?_)
  refine lv_istore (lv' := [(4, .int (nI (sN (Xs.1.2 3).2 (Xs.1.2 3).1))), (3, .int (nI ((Xs.1.2 1).1))), (2, .int (nI 1)), (1, .ref x), (0, .ref b)]) hx hb d_La_law_150 hl (by decide) rfl (fun ls hl => ?_)
  refine lv_iload_n hx hb d_La_law_152 rfl (lv_at hl 2 rfl) ?_
  refine lv_if_eq (tgt := 229) hx hb d_La_law_153 (by decide) (fun c_153 => ?_) (fun c_153 => ?_)
  · first | exact absurd c_153 (by decide) | exact absurd rfl c_153
  · skip
    refine lv_iload_n hx hb d_La_law_156 rfl (lv_at hl 1 rfl) ?_
    refine lv_aload_n hx hb d_La_law_157 rfl (lv_at hl 3 rfl) ?_
    refine lv_iconst (v := nI 1) hx hb d_La_law_158 (by decide +kernel) ?_
    refine g_V C0 (g_val (v' := (nI ((Xs.1.2 1).1))) (k_Ga_count l G x Xs (nI 1) hOS) cnt_1) co_Ga_count im_Ga_count se_Ga_count in_Ga gc_Ga_count ml_La_22 ⟨Nat.le_of_ble_eq_true rfl, Nat.le_of_ble_eq_true rfl⟩ hK hRS.1 rfl hRS rfl hl.1 rfl (Nat.le_of_ble_eq_true rfl) d_La_law_159 ⟨Nat.le_of_ble_eq_true rfl, Nat.le_of_ble_eq_true rfl⟩ (g_r rfl ?_)
    refine lv_icmp_ne (tgt := 229) hx hb d_La_law_162 (by decide) (fun c_162 => ?_) (fun c_162 => ?_)
    · exact absurd rfl c_162
    · skip
      refine lv_aload_n hx hb d_La_law_165 rfl (lv_at hl 3 rfl) ?_
      refine g_S C0 (k_La_areNames l G x Xs _ hJS.1 hOS) co_La_areNames sm_La_areNames in_La gc_La_areNames ml_La_130 ⟨Nat.le_of_ble_eq_true rfl, Nat.le_of_ble_eq_true rfl⟩ hK hRS rfl hl.1 rfl (Nat.le_of_ble_eq_true rfl) d_La_law_166 ⟨Nat.le_of_ble_eq_true rfl, Nat.le_of_ble_eq_true rfl⟩ (g_r rfl ?_)
      refine g_zeq (tgt := 229) C0 d_La_law_169 (by decide) (fun c_169 => ?_) (fun c_169 => ?_)
      · cases c_169
      · skip
        refine lv_aload_n hx hb d_La_law_172 rfl (lv_at hl 3 rfl) ?_
        refine g_S C0 (k_La_areLists l G x Xs _ hJS.1 hOS) co_La_areLists sm_La_areLists in_La gc_La_areLists ml_La_120 ⟨Nat.le_of_ble_eq_true rfl, Nat.le_of_ble_eq_true rfl⟩ hK hRS rfl hl.1 rfl (Nat.le_of_ble_eq_true rfl) d_La_law_173 ⟨Nat.le_of_ble_eq_true rfl, Nat.le_of_ble_eq_true rfl⟩ (g_r rfl ?_)
        refine g_zeq (tgt := 229) C0 d_La_law_176 (by decide) (fun c_176 => ?_) (fun c_176 => ?_)
        · cases c_176
        · skip
          refine lv_aload_n hx hb d_La_law_179 rfl (lv_at hl 3 rfl) ?_
          refine g_S C0 (k_La_areSakes l G x Xs _ hJS.1 hOS) co_La_areSakes sm_La_areSakes in_La gc_La_areSakes ml_La_124 ⟨Nat.le_of_ble_eq_true rfl, Nat.le_of_ble_eq_true rfl⟩ hK hRS rfl hl.1 rfl (Nat.le_of_ble_eq_true rfl) d_La_law_180 ⟨Nat.le_of_ble_eq_true rfl, Nat.le_of_ble_eq_true rfl⟩ (g_r rfl ?_)
          refine g_zeq (tgt := 229) C0 d_La_law_183 (by decide) (fun c_183 => ?_) (fun c_183 => ?_)
          · cases c_183
          · skip
            refine lv_aload_n hx hb d_La_law_186 rfl (lv_at hl 3 rfl) ?_
            refine lv_iconst (v := nI 0) hx hb d_La_law_187 (by decide +kernel) ?_
            refine lv_iconst (v := nI 0) hx hb d_La_law_188 (by decide +kernel) ?_
            refine g_S C0 (k_La_isWritten l G x Xs 44 (by decide) 0 0 (by decide) (by decide) hJS.1 hOS) co_La_isWritten sm_La_isWritten in_La gc_La_isWritten ml_La_133 ⟨Nat.le_of_ble_eq_true rfl, Nat.le_of_ble_eq_true rfl⟩ hK hRS rfl hl.1 rfl (Nat.le_of_ble_eq_true rfl) d_La_law_189 ⟨Nat.le_of_ble_eq_true rfl, Nat.le_of_ble_eq_true rfl⟩ (g_wi (free := fun q => x ≤ q) hL (fun _ h => h.1) (fun H_3 locs hL ⟨W1, hW1, hJW1, hsW1, hrW1, hf_4⟩ => ?_))
            have hOW1 := hJW1.ok (by decide)
            refine g_zeq (tgt := 229) C0 d_La_law_192 (by decide) (fun c_192 => ?_) (fun c_192 => ?_)
            · cases c_192
            · skip
              refine lv_aload_n hx hb d_La_law_195 rfl (lv_at hl 3 rfl) ?_
              refine lv_iconst (v := nI 1) hx hb d_La_law_196 (by decide +kernel) ?_
              refine lv_iconst (v := nI 2) hx hb d_La_law_197 (by decide +kernel) ?_
              refine g_S C0 (k_La_isWritten l G x W1 44 (by decide) 1 2 (by decide) (by decide) hJW1.1 hOW1) co_La_isWritten sm_La_isWritten in_La gc_La_isWritten ml_La_133 ⟨Nat.le_of_ble_eq_true rfl, Nat.le_of_ble_eq_true rfl⟩ hK hW1 rfl hl.1 rfl (Nat.le_of_ble_eq_true rfl) d_La_law_198 ⟨Nat.le_of_ble_eq_true rfl, Nat.le_of_ble_eq_true rfl⟩ (g_wi (free := fun q => x ≤ q) hL (fun _ h => h.1) (fun H_5 locs hL ⟨W2, hW2, hJW2, hsW2, hrW2, hf_6⟩ => ?_))
              have hOW2 := hJW2.ok (by decide)
              refine g_zeq (tgt := 229) C0 d_La_law_201 (by decide) (fun c_201 => ?_) (fun c_201 => ?_)
              · cases c_201
              · skip
                refine lv_aload_n hx hb d_La_law_204 rfl (lv_at hl 3 rfl) ?_
                have hend := end_w hJW2 (by decide)
                obtain ⟨XE, hXE⟩ : ∃ Z, Z = xRc W2 (eyS W2.1) := ⟨_, rfl⟩
                have hJE : IX 45 XE := by rw [hXE]; exact hend.2.1
                have hOE := hJE.ok (by decide)
                have hE11 : (XE.1.2 11).1 = 0 := by rw [hXE]; exact hend.2.2
                have hEs : XE.2.2.2 = Xs.2.2.2 := by rw [hXE]; show W2.2.2.2 = _; rw [hrW2, hrW1]
                have hhd := hd_le hJW2 ((W2.1.2 0).2 0)
                refine g_V C0 (g_valw (v' := (nI (hdB W2.1 ((W2.1.2 0).2 0)))) (X' := XE) (k_Ga_endYear l G x W2  hOW2) (by rw [hXE]; exact hend.1)) co_Ga_endYear im_Ga_endYear se_Ga_endYear in_Ga gc_Ga_endYear ml_La_79 ⟨Nat.le_of_ble_eq_true rfl, Nat.le_of_ble_eq_true rfl⟩ hK hW2.1 rfl hW2 rfl hl.1 rfl (Nat.le_of_ble_eq_true rfl) d_La_law_205 ⟨Nat.le_of_ble_eq_true rfl, Nat.le_of_ble_eq_true rfl⟩ (g_wi (free := fun q => x ≤ q) hL (fun _ h => h.1) (fun H_7 locs hL ⟨hR_8, hf_9⟩ => ?_))
                refine lv_if_lt (tgt := 229) hx hb d_La_law_208 (by decide) (fun c_208 => ?_) (fun c_208 => ?_)
                · exact absurd c_208 (nI_pos (by omega))
                · skip
                  refine lv_aload_n hx hb d_La_law_211 rfl (lv_at hl 3 rfl) ?_
                  refine g_S C0 (k_La_areLists l G x XE _ hJE.1 hOE) co_La_areLists sm_La_areLists in_La gc_La_areLists ml_La_120 ⟨Nat.le_of_ble_eq_true rfl, Nat.le_of_ble_eq_true rfl⟩ hK hR_8 rfl hl.1 rfl (Nat.le_of_ble_eq_true rfl) d_La_law_212 ⟨Nat.le_of_ble_eq_true rfl, Nat.le_of_ble_eq_true rfl⟩ (g_r rfl ?_)
                  refine g_zeq (tgt := 229) C0 d_La_law_215 (by decide) (fun c_215 => ?_) (fun c_215 => ?_)
                  · cases c_215
                  · skip
                    refine lv_aload_n hx hb d_La_law_218 rfl (lv_at hl 3 rfl) ?_
                    refine g_S C0 (k_La_areNames l G x XE _ hJE.1 hOE) co_La_areNames sm_La_areNames in_La gc_La_areNames ml_La_130 ⟨Nat.le_of_ble_eq_true rfl, Nat.le_of_ble_eq_true rfl⟩ hK hR_8 rfl hl.1 rfl (Nat.le_of_ble_eq_true rfl) d_La_law_219 ⟨Nat.le_of_ble_eq_true rfl, Nat.le_of_ble_eq_true rfl⟩ (g_r rfl ?_)
                    refine g_zeq (tgt := 229) C0 d_La_law_222 (by decide) (fun c_222 => ?_) (fun c_222 => ?_)
                    · cases c_222
                    · skip
                      refine lv_iconst (v := nI 1) hx hb d_La_law_225 (by decide +kernel) ?_
                      refine lv_goto (tgt := 230) hx hb d_La_law_226 (by decide) ?_
                      refine lv_istore_n (lv' := [(2, .int (nI 1)), (4, .int (nI (sN (Xs.1.2 3).2 (Xs.1.2 3).1))), (3, .int (nI ((Xs.1.2 1).1))), (1, .ref x), (0, .ref b)]) hx hb d_La_law_230 rfl hl (by decide) rfl (fun ls hl => ?_)
                      refine lv_iload_n hx hb d_La_law_231 rfl (lv_at hl 0 rfl) ?_
                      refine lv_if_eq (tgt := 273) hx hb d_La_law_232 (by decide) (fun c_232 => ?_) (fun c_232 => ?_)
                      · first | exact absurd c_232 (by decide) | exact absurd rfl c_232
                      · skip
                        refine lv_aload_n hx hb d_La_law_235 rfl (lv_at hl 3 rfl) ?_
                        refine lv_iconst (v := nI 1) hx hb d_La_law_236 (by decide +kernel) ?_
                        obtain ⟨XR, hXR⟩ : ∃ Z, Z = xRc XE (cpL XE.1 (cpL As X1.1 17) 17) := ⟨_, rfl⟩
                        have hOR : XOk XR := by rw [hXR]; exact ⟨SOk_cp (SOk_cp hO1.1), hJE.2, rB_cp (by decide) (rB_cp (by decide) hO1.2.2)⟩
                        have hnR : ((cpL XE.1 (cpL As X1.1 17) 17).2 1).1 = (Xs.1.2 1).1 := by rw [n_cp (by decide), n_cp (by decide), hs1]
                        have h4R : sN (XR.1.2 3).2 (XR.1.2 3).1 = sN (Xs.1.2 3).2 (Xs.1.2 3).1 := by rw [hXR]; show sN ((cpL XE.1 (cpL As X1.1 17) 17).2 3).2 ((cpL XE.1 (cpL As X1.1 17) 17).2 3).1 = _; rw [sN_cp (by decide), sN_cp (by decide), hs1]
                        refine g_V C0 (g_valw (v' := (nI ((Xs.1.2 1).1))) (X' := XR) (k_Ga_restore l G x XE (nI 1) hOE) (by rw [hXR, ← hnR]; exact res_v (by rw [hEs]; exact hs3) (by rw [hEs]; exact hs4))) co_Ga_restore im_Ga_restore se_Ga_restore in_Ga gc_Ga_restore ml_La_110 ⟨Nat.le_of_ble_eq_true rfl, Nat.le_of_ble_eq_true rfl⟩ hK hR_8.1 rfl hR_8 rfl hl.1 rfl (Nat.le_of_ble_eq_true rfl) d_La_law_237 ⟨Nat.le_of_ble_eq_true rfl, Nat.le_of_ble_eq_true rfl⟩ (g_wi (free := fun q => x ≤ q) hL (fun _ h => h.1) (fun H_10 locs hL ⟨hR_11, hf_12⟩ => ?_))
                        refine lv_iload_n hx hb d_La_law_240 rfl (lv_at hl 2 rfl) ?_
                        refine lv_icmp_ne (tgt := 273) hx hb d_La_law_241 (by decide) (fun c_241 => ?_) (fun c_241 => ?_)
                        · exact absurd rfl c_241
                        · skip
                          refine lv_aload_n hx hb d_La_law_244 rfl (lv_at hl 3 rfl) ?_
                          refine lv_iconst (v := nI 4) hx hb d_La_law_245 (by decide +kernel) ?_
                          refine g_V C0 (g_val (v' := (nI (sN (XR.1.2 3).2 (XR.1.2 3).1))) (k_Ga_count l G x XR (nI 4) hOR) cnt_4) co_Ga_count im_Ga_count se_Ga_count in_Ga gc_Ga_count ml_La_22 ⟨Nat.le_of_ble_eq_true rfl, Nat.le_of_ble_eq_true rfl⟩ hK hR_11.1 rfl hR_11 rfl hl.1 rfl (Nat.le_of_ble_eq_true rfl) d_La_law_246 ⟨Nat.le_of_ble_eq_true rfl, Nat.le_of_ble_eq_true rfl⟩ (g_r rfl ?_)
                          refine lv_iload hx hb d_La_law_249 (lv_at hl 1 rfl) ?_
                          refine lv_icmp_ne (tgt := 273) hx hb d_La_law_251 (by decide) (fun c_251 => ?_) (fun c_251 => ?_)
                          · exact absurd (by rw [h4R]) c_251
                          · skip
                            refine lv_aload_n hx hb d_La_law_254 rfl (lv_at hl 3 rfl) ?_
                            obtain ⟨q, A, B, huv, hq5⟩ := und_v XE (cpL XE.1 (cpL As X1.1 17) 17)
                            obtain ⟨XU, hXU⟩ : ∃ Z, Z = ((cpL A (cpL B XE.1 17) 17, XE.2.1, (q, (xRc XE (cpL XE.1 (cpL As X1.1 17) 17)).2.2.1.2), XE.2.2.2) : XS) := ⟨_, rfl⟩
                            have hOU : XOk XU := by rw [hXU]; exact ⟨SOk_cp (SOk_cp hOE.1), hJE.2, rB_cp (by decide) (rB_cp (by decide) hOE.2.2)⟩
                            have h11U : (XU.1.2 11).1 = 0 := by rw [hXU]; show ((cpL A (cpL B XE.1 17) 17).2 11).1 = 0; rw [n_cp (by decide), n_cp (by decide), hE11]
                            refine g_V C0 (g_valw (v' := (nI q)) (X' := XU) (k_Ga_undo l G x XR  hOR) (by rw [hXU, hXR]; exact huv)) co_Ga_undo im_Ga_undo se_Ga_undo in_Ga gc_Ga_undo ml_La_107 ⟨Nat.le_of_ble_eq_true rfl, Nat.le_of_ble_eq_true rfl⟩ hK hR_11.1 rfl hR_11 rfl hl.1 rfl (Nat.le_of_ble_eq_true rfl) d_La_law_255 ⟨Nat.le_of_ble_eq_true rfl, Nat.le_of_ble_eq_true rfl⟩ (g_wi (free := fun q => x ≤ q) hL (fun _ h => h.1) (fun H_13 locs hL ⟨hR_14, hf_15⟩ => ?_))
                            refine lv_if_lt (tgt := 273) hx hb d_La_law_258 (by decide) (fun c_258 => ?_) (fun c_258 => ?_)
                            · exact absurd c_258 (nI_pos (by omega))
                            · skip
                              refine lv_aload_n hx hb d_La_law_261 rfl (lv_at hl 3 rfl) ?_
                              refine lv_iconst (v := nI 3) hx hb d_La_law_262 (by decide +kernel) ?_
                              refine g_V C0 (g_val (v' := (nI ((XU.1.2 11).1))) (k_Ga_count l G x XU (nI 3) hOU) cnt_3) co_Ga_count im_Ga_count se_Ga_count in_Ga gc_Ga_count ml_La_22 ⟨Nat.le_of_ble_eq_true rfl, Nat.le_of_ble_eq_true rfl⟩ hK hR_14.1 rfl hR_14 rfl hl.1 rfl (Nat.le_of_ble_eq_true rfl) d_La_law_263 ⟨Nat.le_of_ble_eq_true rfl, Nat.le_of_ble_eq_true rfl⟩ (g_r rfl ?_)
                              refine lv_if_ne (tgt := 273) hx hb d_La_law_266 (by decide) (fun c_266 => ?_) (fun c_266 => ?_)
                              · exact absurd (by rw [h11U]; rfl) c_266
                              · skip
                                refine lv_iconst (v := nI 1) hx hb d_La_law_269 (by decide +kernel) ?_
                                refine lv_goto (tgt := 274) hx hb d_La_law_270 (by decide) ?_
                                exact law_fin C0 hxs hr hlk ((((((hF.tr (gGr.fa hf_2 (by have := hP.sz; omega))).tr (gGr.fr hf_4 (Nat.le_refl _))).tr (gGr.fr hf_6 (Nat.le_refl _))).tr (gGr.fr hf_9 (Nat.le_refl _))).tr (gGr.fr hf_12 (Nat.le_refl _))).tr (gGr.fr hf_15 (Nat.le_refl _))) hL

set_option maxHeartbeats 8000000 in
set_option maxRecDepth 100000 in
theorem law_start (l : Launch) (G : gT) {p : Program} {e : Env} {s : State} {m : MethodId} {below : List Frame} {meth : Method} {c : Code} {b x : Nat} {H : Heap} {locs : List Loc} {L : Nat} {xs : Nat → Int32} (hL2 : L ≤ 260) (hX0 : va_X b L xs s s.heap) (hbl : b < s.heap.size) (C0 : CallFix p m c code 5 s #[.ref b] lw_g "GaleNamesLaw") (hxs : x = s.heap.size) (hr : meth.sig.returnType = ret) (hlk : meth.locks = false) (hK : gK G s) (hP : XAt G x inX H) (hF : gGr x s.heap H) (hL : ∀ q ∈ locs, x ≤ q.base) (ls : Array Slot) (hl : lv_has ls 5 [(1, .ref x), (0, .ref b)]) : W p l e room_1 s m #[.ref b] below meth c H locs 262 2522 (lw_Z below #[.ref b] s) (F0 m 8 ls []) := by
  obtain ⟨XA, hXA⟩ : ∃ Z, Z = xTd inX := ⟨_, rfl⟩
  obtain ⟨XB, hXB⟩ : ∃ Z, Z = xTd (xTd inX) := ⟨_, rfl⟩
  have hO0 : XOk inX := IX_0.ok (by decide)
  have hJA : IX 0 XA := by rw [hXA]; exact IX_0
  have hJB : IX 0 XB := by rw [hXB]; exact IX_0
  have hOA := hJA.ok (by decide)
  have hOB := hJB.ok (by decide)
  have hx := C0.1
  have hb := C0.2.1
  refine lv_aload_n hx hb d_La_law_8 rfl (lv_at hl 0 rfl) ?_
  refine g_V C0 (g_valw (v' := (-5)) (X' := inX) (k_Ga_undo l G x inX  hO0) s_undo) co_Ga_undo im_Ga_undo se_Ga_undo in_Ga gc_Ga_undo ml_La_107 ⟨Nat.le_of_ble_eq_true rfl, Nat.le_of_ble_eq_true rfl⟩ hK hP.1 rfl hP rfl hl.1 rfl (Nat.le_of_ble_eq_true rfl) d_La_law_9 ⟨Nat.le_of_ble_eq_true rfl, Nat.le_of_ble_eq_true rfl⟩ (g_wi (free := fun q => x ≤ q) hL (fun _ h => h.1) (fun H_1 locs hL ⟨hR_2, hf_3⟩ => ?_))
  refine lv_bipush (v := -5) hx hb d_La_law_12 (by decide +kernel) ?_
  refine lv_icmp_ne (tgt := 80) hx hb d_La_law_14 (by decide) (fun c_14 => ?_) (fun c_14 => ?_)
  · exact absurd rfl c_14
  · skip
    refine lv_aload_n hx hb d_La_law_17 rfl (lv_at hl 0 rfl) ?_
    refine lv_iconst (v := nI 0) hx hb d_La_law_18 (by decide +kernel) ?_
    refine g_V C0 (g_valw (v' := (-5)) (X' := inX) (k_Ga_restore l G x inX (nI 0) hO0) s_rest) co_Ga_restore im_Ga_restore se_Ga_restore in_Ga gc_Ga_restore ml_La_110 ⟨Nat.le_of_ble_eq_true rfl, Nat.le_of_ble_eq_true rfl⟩ hK hR_2.1 rfl hR_2 rfl hl.1 rfl (Nat.le_of_ble_eq_true rfl) d_La_law_19 ⟨Nat.le_of_ble_eq_true rfl, Nat.le_of_ble_eq_true rfl⟩ (g_wi (free := fun q => x ≤ q) hL (fun _ h => h.1) (fun H_4 locs hL ⟨hR_5, hf_6⟩ => ?_))
    refine lv_bipush (v := -5) hx hb d_La_law_22 (by decide +kernel) ?_
    refine lv_icmp_ne (tgt := 80) hx hb d_La_law_24 (by decide) (fun c_24 => ?_) (fun c_24 => ?_)
    · exact absurd rfl c_24
    · skip
      refine lv_aload_n hx hb d_La_law_27 rfl (lv_at hl 0 rfl) ?_
      refine lv_iconst (v := nI 0) hx hb d_La_law_28 (by decide +kernel) ?_
      refine g_V C0 (g_valw (v' := (-5)) (X' := inX) (k_Ga_storm l G x inX (nI 0) hO0) s_storm) co_Ga_storm im_Ga_storm se_Ga_storm in_Ga gc_Ga_storm ml_La_70 ⟨Nat.le_of_ble_eq_true rfl, Nat.le_of_ble_eq_true rfl⟩ hK hR_5.1 rfl hR_5 rfl hl.1 rfl (Nat.le_of_ble_eq_true rfl) d_La_law_29 ⟨Nat.le_of_ble_eq_true rfl, Nat.le_of_ble_eq_true rfl⟩ (g_wi (free := fun q => x ≤ q) hL (fun _ h => h.1) (fun H_7 locs hL ⟨hR_8, hf_9⟩ => ?_))
      refine lv_bipush (v := -5) hx hb d_La_law_32 (by decide +kernel) ?_
      refine lv_icmp_ne (tgt := 80) hx hb d_La_law_34 (by decide) (fun c_34 => ?_) (fun c_34 => ?_)
      · exact absurd rfl c_34
      · skip
        refine lv_aload_n hx hb d_La_law_37 rfl (lv_at hl 0 rfl) ?_
        refine lv_iconst (v := nI 0) hx hb d_La_law_38 (by decide +kernel) ?_
        refine lv_iconst (v := nI 0) hx hb d_La_law_39 (by decide +kernel) ?_
        refine g_V C0 (g_valw (v' := (-3)) (X' := XA) (k_Ga_fill l G x inX (nI 0) (nI 0) hO0) (by rw [hXA]; exact s_fill)) co_Ga_fill im_Ga_fill se_Ga_fill in_Ga gc_Ga_fill ml_La_64 ⟨Nat.le_of_ble_eq_true rfl, Nat.le_of_ble_eq_true rfl⟩ hK hR_8.1 rfl hR_8 rfl hl.1 rfl (Nat.le_of_ble_eq_true rfl) d_La_law_40 ⟨Nat.le_of_ble_eq_true rfl, Nat.le_of_ble_eq_true rfl⟩ (g_wi (free := fun q => x ≤ q) hL (fun _ h => h.1) (fun H_10 locs hL ⟨hR_11, hf_12⟩ => ?_))
        refine lv_bipush (v := -3) hx hb d_La_law_43 (by decide +kernel) ?_
        refine lv_icmp_ne (tgt := 80) hx hb d_La_law_45 (by decide) (fun c_45 => ?_) (fun c_45 => ?_)
        · exact absurd rfl c_45
        · skip
          refine lv_aload_n hx hb d_La_law_48 rfl (lv_at hl 0 rfl) ?_
          refine g_V C0 (g_valw (v' := (-3)) (X' := XB) (k_Ga_namesake l G x XA  hOA) (by rw [hXB, hXA]; exact s_nmk)) co_Ga_namesake im_Ga_namesake se_Ga_namesake in_Ga gc_Ga_namesake ml_La_82 ⟨Nat.le_of_ble_eq_true rfl, Nat.le_of_ble_eq_true rfl⟩ hK hR_11.1 rfl hR_11 rfl hl.1 rfl (Nat.le_of_ble_eq_true rfl) d_La_law_49 ⟨Nat.le_of_ble_eq_true rfl, Nat.le_of_ble_eq_true rfl⟩ (g_wi (free := fun q => x ≤ q) hL (fun _ h => h.1) (fun H_13 locs hL ⟨hR_14, hf_15⟩ => ?_))
          refine lv_bipush (v := -3) hx hb d_La_law_52 (by decide +kernel) ?_
          refine lv_icmp_ne (tgt := 80) hx hb d_La_law_54 (by decide) (fun c_54 => ?_) (fun c_54 => ?_)
          · exact absurd rfl c_54
          · skip
            refine lv_aload_n hx hb d_La_law_57 rfl (lv_at hl 0 rfl) ?_
            refine lv_iconst (v := nI 1) hx hb d_La_law_58 (by decide +kernel) ?_
            refine g_V C0 (g_val (v' := (-6)) (k_Ga_next l G x XB (nI 1) hOB) (by rw [hXB]; exact s_next)) co_Ga_next im_Ga_next se_Ga_next in_Ga gc_Ga_next ml_La_48 ⟨Nat.le_of_ble_eq_true rfl, Nat.le_of_ble_eq_true rfl⟩ hK hR_14.1 rfl hR_14 rfl hl.1 rfl (Nat.le_of_ble_eq_true rfl) d_La_law_59 ⟨Nat.le_of_ble_eq_true rfl, Nat.le_of_ble_eq_true rfl⟩ (g_r rfl ?_)
            refine lv_bipush (v := -6) hx hb d_La_law_62 (by decide +kernel) ?_
            refine lv_icmp_ne (tgt := 80) hx hb d_La_law_64 (by decide) (fun c_64 => ?_) (fun c_64 => ?_)
            · exact absurd rfl c_64
            · skip
              refine lv_aload_n hx hb d_La_law_67 rfl (lv_at hl 0 rfl) ?_
              refine lv_iconst (v := nI 0) hx hb d_La_law_68 (by decide +kernel) ?_
              refine lv_iconst (v := nI 0) hx hb d_La_law_69 (by decide +kernel) ?_
              refine g_V C0 (g_val (v' := (nI 0)) (k_Ga_left l G x XB (nI 0) (nI 0) hOB) (by rw [hXB]; exact s_left)) co_Ga_left im_Ga_left se_Ga_left in_Ga gc_Ga_left ml_La_45 ⟨Nat.le_of_ble_eq_true rfl, Nat.le_of_ble_eq_true rfl⟩ hK hR_14.1 rfl hR_14 rfl hl.1 rfl (Nat.le_of_ble_eq_true rfl) d_La_law_70 ⟨Nat.le_of_ble_eq_true rfl, Nat.le_of_ble_eq_true rfl⟩ (g_r rfl ?_)
              refine lv_if_ne (tgt := 80) hx hb d_La_law_73 (by decide) (fun c_73 => ?_) (fun c_73 => ?_)
              · first | exact absurd c_73 (by decide) | exact absurd rfl c_73
              · skip
                refine lv_iconst (v := nI 1) hx hb d_La_law_76 (by decide +kernel) ?_
                refine lv_goto (tgt := 81) hx hb d_La_law_77 (by decide) ?_
                refine lv_istore_n (lv' := [(2, .int (nI 1)), (1, .ref x), (0, .ref b)]) hx hb d_La_law_81 rfl hl (by decide) rfl (fun ls hl => ?_)
                refine lv_iconst (v := nI 0) hx hb d_La_law_82 (by decide +kernel) ?_
                refine lv_istore_n (lv' := [(3, .int (nI 0)), (2, .int (nI 1)), (1, .ref x), (0, .ref b)]) hx hb d_La_law_83 rfl hl (by decide) rfl (fun ls hl => ?_)
                have lp84 : ∀ (fu : Nat) (k : Nat) (X1 : XS) (H : Heap) (locs : List Loc), (44 - k) < fu → k ≤ 44 → IX k X1 → (∀ qq ∈ locs, (fun q => x ≤ q) qq.base) → XAt G x X1 H → gGr x s.heap H → ∀ ls : Array Slot, lv_has ls 5 [(3, .int (nI k)), (2, .int (nI 1)), (1, .ref x), (0, .ref b)] → W p l e room_1 s m #[.ref b] below meth c H locs 262 2522 (lw_Z below #[.ref b] s) (F0 m 84 ls []) := by
                  intro fu
                  induction fu with
                  | zero => intro k X1 H locs hfu; exact absurd hfu (Nat.not_lt_zero _)
                  | succ fu ih84 =>
                    intro k X1 H locs hfu hk hJ1 hL hP hF ls hl
                    have hO1 := hJ1.ok (by omega)
                    refine lv_iload_n hx hb d_La_law_84 rfl (lv_at hl 0 rfl) ?_
                    refine lv_bipush (v := nI 44) hx hb d_La_law_85 (by decide +kernel) ?_
                    refine g_cge (tgt := 139) C0 d_La_law_87 (by decide) (by omega) (by omega) (fun c_87 => ?_) (fun c_87 => ?_)
                    · skip
                      exact law_end l G C0 hxs hr hlk hK (show IX 44 X1 from (show k = 44 by omega) ▸ hJ1) hP hF hL ls (lv_sub hl [1, 2, 3] rfl)
                    · skip
                      refine lv_iload_n hx hb d_La_law_90 rfl (lv_at hl 1 rfl) ?_
                      refine lv_if_eq (tgt := 139) hx hb d_La_law_91 (by decide) (fun c_91 => ?_) (fun c_91 => ?_)
                      · first | exact absurd c_91 (by decide) | exact absurd rfl c_91
                      · skip
                        refine lv_aload_n hx hb d_La_law_94 rfl (lv_at hl 2 rfl) ?_
                        refine lv_aload_n hx hb d_La_law_95 rfl (lv_at hl 3 rfl) ?_
                        refine lv_iload_n hx hb d_La_law_96 rfl (lv_at hl 0 rfl) ?_
                        refine g_Sc C0 (k := k) (by omega) hL2 ml_La_113 ⟨Nat.le_of_ble_eq_true rfl, Nat.le_of_ble_eq_true rfl⟩ hK (va_X.kept hX0 (hF.2 b (by omega))) hl.1 (Nat.le_of_ble_eq_true rfl) d_La_law_97 ⟨Nat.le_of_ble_eq_true rfl, Nat.le_of_ble_eq_true rfl⟩ (fun r hr1 => ?_)
                        refine g_S C0 (k_La_acts l G x X1 k (by omega) r hr1 hJ1.1 hO1) co_La_acts sm_La_acts in_La gc_La_acts ml_La_117 ⟨Nat.le_of_ble_eq_true rfl, Nat.le_of_ble_eq_true rfl⟩ hK hP rfl hl.1 rfl (Nat.le_of_ble_eq_true rfl) d_La_law_100 ⟨Nat.le_of_ble_eq_true rfl, Nat.le_of_ble_eq_true rfl⟩ (g_wi (free := fun q => x ≤ q) hL (fun _ h => h.1) (fun H_16 locs hL ⟨Z, hZ, hJZ, hf_17⟩ => ?_))
                        have hOZ := hJZ.ok (by omega)
                        refine g_zeq (tgt := 131) C0 d_La_law_103 (by decide) (fun c_103 => ?_) (fun c_103 => ?_)
                        · cases c_103
                        · skip
                          refine lv_iload_n hx hb d_La_law_106 rfl (lv_at hl 0 rfl) ?_
                          refine lv_bipush (v := nI 11) hx hb d_La_law_107 (by decide +kernel) ?_
                          refine g_irem C0 (z := k % 11) d_La_law_109 (by omega) (by omega) (by omega) rfl ?_
                          refine lv_if_gt (tgt := 127) hx hb d_La_law_110 (by decide) (fun c_110 => ?_) (fun c_110 => ?_)
                          · skip
                            refine lv_iconst (v := nI 1) hx hb d_La_law_127 (by decide +kernel) ?_
                            refine lv_goto (tgt := 132) hx hb d_La_law_128 (by decide) ?_
                            refine lv_istore_n (lv' := [(2, .int (nI 1)), (3, .int (nI k)), (1, .ref x), (0, .ref b)]) hx hb d_La_law_132 rfl hl (by decide) rfl (fun ls hl => ?_)
                            refine lv_iinc (v := (nI (k + 1))) (lv' := [(3, .int (nI (k + 1))), (2, .int (nI 1)), (1, .ref x), (0, .ref b)]) hx hb d_La_law_133 hl (k := 1) rfl (gI_inc _) (by decide) rfl (fun ls hl => ?_)
                            refine lv_goto (tgt := 84) hx hb d_La_law_136 (by decide) ?_
                            exact ih84 (k + 1) Z H_16 locs (by omega) (by omega) hJZ hL hZ (hF.tr (gGr.fr hf_17 (Nat.le_refl _))) ls (lv_sub hl [0, 1, 2, 3] rfl)
                          · skip
                            refine lv_aload_n hx hb d_La_law_113 rfl (lv_at hl 2 rfl) ?_
                            refine g_S C0 (k_La_areLists l G x Z _ hJZ.1 hOZ) co_La_areLists sm_La_areLists in_La gc_La_areLists ml_La_120 ⟨Nat.le_of_ble_eq_true rfl, Nat.le_of_ble_eq_true rfl⟩ hK hZ rfl hl.1 rfl (Nat.le_of_ble_eq_true rfl) d_La_law_114 ⟨Nat.le_of_ble_eq_true rfl, Nat.le_of_ble_eq_true rfl⟩ (g_r rfl ?_)
                            refine g_zeq (tgt := 131) C0 d_La_law_117 (by decide) (fun c_117 => ?_) (fun c_117 => ?_)
                            · cases c_117
                            · skip
                              refine lv_aload_n hx hb d_La_law_120 rfl (lv_at hl 2 rfl) ?_
                              refine g_S C0 (k_La_areSakes l G x Z _ hJZ.1 hOZ) co_La_areSakes sm_La_areSakes in_La gc_La_areSakes ml_La_124 ⟨Nat.le_of_ble_eq_true rfl, Nat.le_of_ble_eq_true rfl⟩ hK hZ rfl hl.1 rfl (Nat.le_of_ble_eq_true rfl) d_La_law_121 ⟨Nat.le_of_ble_eq_true rfl, Nat.le_of_ble_eq_true rfl⟩ (g_r rfl ?_)
                              refine g_zeq (tgt := 131) C0 d_La_law_124 (by decide) (fun c_124 => ?_) (fun c_124 => ?_)
                              · cases c_124
                              · skip
                                refine lv_iconst (v := nI 1) hx hb d_La_law_127 (by decide +kernel) ?_
                                refine lv_goto (tgt := 132) hx hb d_La_law_128 (by decide) ?_
                                refine lv_istore_n (lv' := [(2, .int (nI 1)), (3, .int (nI k)), (1, .ref x), (0, .ref b)]) hx hb d_La_law_132 rfl hl (by decide) rfl (fun ls hl => ?_)
                                refine lv_iinc (v := (nI (k + 1))) (lv' := [(3, .int (nI (k + 1))), (2, .int (nI 1)), (1, .ref x), (0, .ref b)]) hx hb d_La_law_133 hl (k := 1) rfl (gI_inc _) (by decide) rfl (fun ls hl => ?_)
                                refine lv_goto (tgt := 84) hx hb d_La_law_136 (by decide) ?_
                                exact ih84 (k + 1) Z H_16 locs (by omega) (by omega) hJZ hL hZ (hF.tr (gGr.fr hf_17 (Nat.le_refl _))) ls (lv_sub hl [0, 1, 2, 3] rfl)
                exact lp84 ((44 - 0) + 1) 0 XB H_13 locs (by omega) (by omega) hJB hL hR_14 (((((hF.tr (gGr.fr hf_3 (Nat.le_refl _))).tr (gGr.fr hf_6 (Nat.le_refl _))).tr (gGr.fr hf_9 (Nat.le_refl _))).tr (gGr.fr hf_12 (Nat.le_refl _))).tr (gGr.fr hf_15 (Nat.le_refl _))) ls (lv_sub hl [0, 1, 2, 3] rfl)
