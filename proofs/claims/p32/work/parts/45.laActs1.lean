set_option maxHeartbeats 8000000 in
set_option maxRecDepth 100000 in
theorem la_acts_80 (l : Launch) (G : gT) (x : Nat) (X : XS) (t : Nat) (ht9 : t ≤ 900) (cz : Nat) (hcz : cz < 2 ^ 31) (hI : IY t X.1) (hX : XOk X) (co li : Nat) (hco : co = cz / 2 ^ 4 % 2) (hli : li = cz / 2 ^ 5 % 3) (hc : co < 2) (hk : li < 3) (hlx : lix co li < 6) (hl8 : (X.1.2 (5 + lix co li)).1 ≤ 8) {p : Program} {e : Env} {s : State} {m : MethodId} {args : Array Value} {below : List Frame} {meth : Method} {c : Code} (C0 : CallFix p m c c_La_acts 30 s args lw_g "GaleNamesLaw") (hlk : meth.locks = false) (hr : meth.sig.returnType = (some .boolean)) (hP : XAt G x X s.heap) (hK : gK G s) (ls : Array Slot) (hl : lv_has ls 30 [(4, .int (nI ((X.1.2 11).1))), (3, .int (nI li)), (2, .int (nI co)), (0, .ref x), (1, .int (nI cz))]) : W p l e ({ frames := 10, cells := 0, slots := 0, locals := 330 } : Room) s m args below meth c s.heap [] 0 0 (MQ below (gQ (wi (.int (bI true)) (fun H H1 => ∃ Z : XS, XAt G x Z H1 ∧ IX (t + 1) Z ∧ gFr x (x + 262) H H1))) args s 0 0 (gRg x (x + 262))) (F0 m 80 ls []) := by
  have hx := C0.1
  have hb := C0.2.1
  have hJ : IX t X := ⟨hI, hX.2.1⟩
  have h40 := hI.n40
  have h16 := hI.g16
  have h10 := hI.s10
  have hp80 := hP.p80
  have e12 := hI.gk (k := 12) (by decide) (by decide)
  have e13 := hI.gk (k := 13) (by decide) (by decide)
  have e15 := hI.sk (k := 15) (by decide) (by decide)
  have hset := hI.set3 (i := 0) (by decide)
  refine lv_aload_n hx hb d_La_acts_80 rfl (lv_at hl 3 rfl) ?_
  refine lv_iconst (v := nI 1) hx hb d_La_acts_81 (by decide +kernel) ?_
  refine g_V C0 (g_val (v' := (nI ((X.1.2 1).1))) (k_Ga_count l G x X (nI 1) hX) cnt_1) co_Ga_count im_Ga_count se_Ga_count in_Ga gc_Ga_count ml_La_22 ⟨Nat.le_of_ble_eq_true rfl, Nat.le_of_ble_eq_true rfl⟩ hK hP.1 rfl hP rfl hl.1 rfl (Nat.le_of_ble_eq_true rfl) d_La_acts_82 ⟨Nat.le_of_ble_eq_true rfl, Nat.le_of_ble_eq_true rfl⟩ (g_r rfl ?_)
  refine lv_istore (lv' := [(5, .int (nI ((X.1.2 1).1))), (4, .int (nI ((X.1.2 11).1))), (3, .int (nI li)), (2, .int (nI co)), (0, .ref x), (1, .int (nI cz))]) hx hb d_La_acts_85 hl (by decide) rfl (fun ls hl => ?_)
  refine lv_aload_n hx hb d_La_acts_87 rfl (lv_at hl 4 rfl) ?_
  obtain ⟨X1, hX1⟩ : ∃ Z, Z = xPd X (0, X.2.1.1.2) X.2.1.2 := ⟨_, rfl⟩
  have hJX1 : IX t X1 := by rw [hX1]; exact ⟨hI, rB_0⟩
  have hOX1 := hJX1.ok (by omega)
  have hp1 : X1.2.1.1.1 = 0 := by rw [hX1]; rfl
  have hs1 : X1.1 = X.1 := by rw [hX1]; rfl
  have hB1 := BS_0 hp1
  refine g_V C0 (g_valw (v' := (nI X.2.1.1.1)) (X' := X1) (k_Ga_wipe l G x X  hX) (by rw [hX1]; rfl)) co_Ga_wipe im_Ga_wipe se_Ga_wipe in_Ga gc_Ga_wipe ml_La_54 ⟨Nat.le_of_ble_eq_true rfl, Nat.le_of_ble_eq_true rfl⟩ hK hP.1 rfl hP rfl hl.1 rfl (Nat.le_of_ble_eq_true rfl) d_La_acts_88 ⟨Nat.le_of_ble_eq_true rfl, Nat.le_of_ble_eq_true rfl⟩ (g_wi (free := gRg x (x + 262)) (t_nil (free := gRg x (x + 262))) (fun _ h => h) (fun H_1 locs hL ⟨hR_2, hf_3⟩ => ?_))
  refine lv_if_lt (tgt := 140) hx hb d_La_acts_91 (by decide) (fun c_91 => ?_) (fun c_91 => ?_)
  · exact absurd c_91 (nI_pos (by omega))
  · skip
    refine lv_aload_n hx hb d_La_acts_94 rfl (lv_at hl 4 rfl) ?_
    refine lv_iload_n hx hb d_La_acts_95 rfl (lv_at hl 5 rfl) ?_
    refine lv_iconst (v := nI 4) hx hb d_La_acts_96 (by decide +kernel) ?_
    refine g_ishr C0 (z := cz / 2 ^ 4) d_La_acts_97 (by omega) (by omega) rfl ?_
    obtain ⟨X2, hX2⟩ : ∃ Z, Z = xPd X1 (chR X1.2.1.1 (cz / 2 ^ 4) (2 + (cz / 2 ^ 4) % 5)) X1.2.1.2 := ⟨_, rfl⟩
    have hJX2 : IX t X2 := by rw [hX2]; exact ⟨hJX1.1, chR_B hJX1.2 _⟩
    have hOX2 := hJX2.ok (by omega)
    have hp2 : X2.2.1.1.1 = X1.2.1.1.1 + (2 + (cz / 2 ^ 4) % 5) := by rw [hX2]; exact (chR_ok (by omega)).1
    have hs2 : X2.1 = X.1 := by rw [hX2]; exact hs1
    have hQ2 : QS X2 0 := by rw [hX2]; exact QS_puts hB1 (by omega)
    refine g_S C0 (k_La_puts l G x X1 t (cz / 2 ^ 4) (by omega) (by omega) hJX1.1 hOX1) co_La_puts sm_La_puts in_La gc_La_puts ml_La_58 ⟨Nat.le_of_ble_eq_true rfl, Nat.le_of_ble_eq_true rfl⟩ hK hR_2 rfl hl.1 rfl (Nat.le_of_ble_eq_true rfl) d_La_acts_98 ⟨Nat.le_of_ble_eq_true rfl, Nat.le_of_ble_eq_true rfl⟩ (g_wi (free := gRg x (x + 262)) hL (fun _ h => h) (fun H_4 locs hL ⟨hR_5, hf_6⟩ => ?_))
    rw [← hX2] at hR_5
    refine g_zeq (tgt := 140) C0 d_La_acts_101 (by decide) (fun c_101 => ?_) (fun c_101 => ?_)
    · cases c_101
    · skip
      refine lv_iload_n hx hb d_La_acts_104 rfl (lv_at hl 5 rfl) ?_
      refine lv_iconst (v := nI 3) hx hb d_La_acts_105 (by decide +kernel) ?_
      refine g_ishr C0 (z := cz / 2 ^ 3) d_La_acts_106 (by omega) (by omega) rfl ?_
      refine lv_iconst (v := nI 3) hx hb d_La_acts_107 (by decide +kernel) ?_
      refine g_irem C0 (z := (cz / 2 ^ 3) % 3) d_La_acts_108 (by omega) (by omega) (by omega) rfl ?_
      refine lv_if_eq (tgt := 136) hx hb d_La_acts_109 (by decide) (fun c_109 => ?_) (fun c_109 => ?_)
      · skip
        refine lv_iconst (v := nI 1) hx hb d_La_acts_136 (by decide +kernel) ?_
        refine lv_goto (tgt := 141) hx hb d_La_acts_137 (by decide) ?_
        refine lv_istore (lv' := [(6, .int (nI 1)), (5, .int (nI ((X.1.2 1).1))), (4, .int (nI ((X.1.2 11).1))), (3, .int (nI li)), (2, .int (nI co)), (0, .ref x), (1, .int (nI cz))]) hx hb d_La_acts_141 hl (by decide) rfl (fun ls hl => ?_)
        obtain ⟨T, hxT, hT1, hTk⟩ := QS_end hQ2 (by decide)
        refine lv_aload_n hx hb d_La_acts_143 rfl (lv_at hl 5 rfl) ?_
        refine lv_bipush (v := nI 12) hx hb d_La_acts_144 (by decide +kernel) ?_
        refine g_V C0 (g_val (v' := (nI X2.2.1.1.1)) (k_Ga_count l G x X2 (nI 12) hOX2) cnt_12) co_Ga_count im_Ga_count se_Ga_count in_Ga gc_Ga_count ml_La_22 ⟨Nat.le_of_ble_eq_true rfl, Nat.le_of_ble_eq_true rfl⟩ hK hR_5.1 rfl hR_5 rfl hl.1 rfl (Nat.le_of_ble_eq_true rfl) d_La_acts_146 ⟨Nat.le_of_ble_eq_true rfl, Nat.le_of_ble_eq_true rfl⟩ (g_r rfl ?_)
        refine lv_istore (lv' := [(7, .int (nI X2.2.1.1.1)), (6, .int (nI 1)), (5, .int (nI ((X.1.2 1).1))), (4, .int (nI ((X.1.2 11).1))), (3, .int (nI li)), (2, .int (nI co)), (0, .ref x), (1, .int (nI cz))]) hx hb d_La_acts_149 hl (by decide) rfl (fun ls hl => ?_)
        rcases fil_v hJX2 hc hk hxT (by rw [hT1]; exact hTk) (by omega) with hfl | hfl | ⟨q, Z, hfl, hJZ, hq1, hq8, hqz, hZp, hZn⟩
        · skip
          refine lv_aload_n hx hb d_La_acts_151 rfl (lv_at hl 6 rfl) ?_
          refine lv_iload_n hx hb d_La_acts_152 rfl (lv_at hl 5 rfl) ?_
          refine lv_iload_n hx hb d_La_acts_153 rfl (lv_at hl 4 rfl) ?_
          obtain ⟨X5, hX5⟩ : ∃ Z, Z = xTd X2 := ⟨_, rfl⟩
          have hJX5 : IX t X5 := by rw [hX5]; exact hJX2
          have hOX5 := hJX5.ok (by omega)
          have hs5 : X5.1 = X.1 := by rw [hX5]; exact hs2
          have hp5 : X5.2.1.1 = X2.2.1.1 := by rw [hX5]; rfl
          refine g_V C0 (g_valw (v' := (-5)) (X' := X5) (k_Ga_fill l G x X2 (nI co) (nI li) hOX2) (by rw [hX5]; exact hfl)) co_Ga_fill im_Ga_fill se_Ga_fill in_Ga gc_Ga_fill ml_La_64 ⟨Nat.le_of_ble_eq_true rfl, Nat.le_of_ble_eq_true rfl⟩ hK hR_5.1 rfl hR_5 rfl hl.1 rfl (Nat.le_of_ble_eq_true rfl) d_La_acts_154 ⟨Nat.le_of_ble_eq_true rfl, Nat.le_of_ble_eq_true rfl⟩ (g_wi (free := gRg x (x + 262)) hL (fun _ h => h) (fun H_7 locs hL ⟨hR_8, hf_9⟩ => ?_))
          refine lv_istore (lv' := [(8, .int (-5)), (7, .int (nI X2.2.1.1.1)), (6, .int (nI 1)), (5, .int (nI ((X.1.2 1).1))), (4, .int (nI ((X.1.2 11).1))), (3, .int (nI li)), (2, .int (nI co)), (0, .ref x), (1, .int (nI cz))]) hx hb d_La_acts_157 hl (by decide) rfl (fun ls hl => ?_)
          refine lv_iload hx hb d_La_acts_159 (lv_at hl 2 rfl) ?_
          refine lv_if_eq (tgt := 255) hx hb d_La_acts_161 (by decide) (fun c_161 => ?_) (fun c_161 => ?_)
          · first | exact absurd c_161 (by decide) | exact absurd rfl c_161
          · skip
            refine lv_iload hx hb d_La_acts_164 (lv_at hl 0 rfl) ?_
            refine lv_if_ge (tgt := 207) hx hb d_La_acts_166 (by decide) (fun c_166 => ?_) (fun c_166 => ?_)
            · exact absurd c_166 (by decide)
            · skip
              refine lv_iload hx hb d_La_acts_169 (lv_at hl 0 rfl) ?_
              refine lv_bipush (v := -5) hx hb d_La_acts_171 (by decide +kernel) ?_
              refine lv_icmp_eq (tgt := 183) hx hb d_La_acts_173 (by decide) (fun c_173 => ?_) (fun c_173 => ?_)
              · skip
                refine lv_aload_n hx hb d_La_acts_183 rfl (lv_at hl 7 rfl) ?_
                refine lv_bipush (v := nI 12) hx hb d_La_acts_184 (by decide +kernel) ?_
                refine g_V C0 (g_val (v' := (nI X5.2.1.1.1)) (k_Ga_count l G x X5 (nI 12) hOX5) cnt_12) co_Ga_count im_Ga_count se_Ga_count in_Ga gc_Ga_count ml_La_22 ⟨Nat.le_of_ble_eq_true rfl, Nat.le_of_ble_eq_true rfl⟩ hK hR_8.1 rfl hR_8 rfl hl.1 rfl (Nat.le_of_ble_eq_true rfl) d_La_acts_186 ⟨Nat.le_of_ble_eq_true rfl, Nat.le_of_ble_eq_true rfl⟩ (g_r rfl ?_)
                refine lv_iload hx hb d_La_acts_189 (lv_at hl 1 rfl) ?_
                refine lv_icmp_ne (tgt := 255) hx hb d_La_acts_191 (by decide) (fun c_191 => ?_) (fun c_191 => ?_)
                · exact absurd (by rw [hp5]) c_191
                · skip
                  refine lv_aload_n hx hb d_La_acts_194 rfl (lv_at hl 7 rfl) ?_
                  refine lv_iconst (v := nI 1) hx hb d_La_acts_195 (by decide +kernel) ?_
                  refine g_V C0 (g_val (v' := (nI ((X5.1.2 1).1))) (k_Ga_count l G x X5 (nI 1) hOX5) cnt_1) co_Ga_count im_Ga_count se_Ga_count in_Ga gc_Ga_count ml_La_22 ⟨Nat.le_of_ble_eq_true rfl, Nat.le_of_ble_eq_true rfl⟩ hK hR_8.1 rfl hR_8 rfl hl.1 rfl (Nat.le_of_ble_eq_true rfl) d_La_acts_196 ⟨Nat.le_of_ble_eq_true rfl, Nat.le_of_ble_eq_true rfl⟩ (g_r rfl ?_)
                  refine lv_iload hx hb d_La_acts_199 (lv_at hl 3 rfl) ?_
                  refine lv_icmp_ne (tgt := 255) hx hb d_La_acts_201 (by decide) (fun c_201 => ?_) (fun c_201 => ?_)
                  · exact absurd (by rw [hs5]) c_201
                  · skip
                    refine lv_goto (tgt := 251) hx hb d_La_acts_204 (by decide) ?_
                    refine lv_iconst (v := nI 1) hx hb d_La_acts_251 (by decide +kernel) ?_
                    refine lv_goto (tgt := 256) hx hb d_La_acts_252 (by decide) ?_
                    refine g_zret (b := true) C0 hlk hr d_La_acts_256 hL ?_
                    exact ⟨rfl, X5, hR_8, hJX5.mono (by omega), (((gFr.rf.tr hf_3).tr hf_6).tr hf_9)⟩
              · exact absurd rfl c_173
        · skip
          refine lv_aload_n hx hb d_La_acts_151 rfl (lv_at hl 6 rfl) ?_
          refine lv_iload_n hx hb d_La_acts_152 rfl (lv_at hl 5 rfl) ?_
          refine lv_iload_n hx hb d_La_acts_153 rfl (lv_at hl 4 rfl) ?_
          obtain ⟨X5, hX5⟩ : ∃ Z, Z = xTd X2 := ⟨_, rfl⟩
          have hJX5 : IX t X5 := by rw [hX5]; exact hJX2
          have hOX5 := hJX5.ok (by omega)
          have hs5 : X5.1 = X.1 := by rw [hX5]; exact hs2
          have hp5 : X5.2.1.1 = X2.2.1.1 := by rw [hX5]; rfl
          refine g_V C0 (g_valw (v' := (-4)) (X' := X5) (k_Ga_fill l G x X2 (nI co) (nI li) hOX2) (by rw [hX5]; exact hfl)) co_Ga_fill im_Ga_fill se_Ga_fill in_Ga gc_Ga_fill ml_La_64 ⟨Nat.le_of_ble_eq_true rfl, Nat.le_of_ble_eq_true rfl⟩ hK hR_5.1 rfl hR_5 rfl hl.1 rfl (Nat.le_of_ble_eq_true rfl) d_La_acts_154 ⟨Nat.le_of_ble_eq_true rfl, Nat.le_of_ble_eq_true rfl⟩ (g_wi (free := gRg x (x + 262)) hL (fun _ h => h) (fun H_10 locs hL ⟨hR_11, hf_12⟩ => ?_))
          refine lv_istore (lv' := [(8, .int (-4)), (7, .int (nI X2.2.1.1.1)), (6, .int (nI 1)), (5, .int (nI ((X.1.2 1).1))), (4, .int (nI ((X.1.2 11).1))), (3, .int (nI li)), (2, .int (nI co)), (0, .ref x), (1, .int (nI cz))]) hx hb d_La_acts_157 hl (by decide) rfl (fun ls hl => ?_)
          refine lv_iload hx hb d_La_acts_159 (lv_at hl 2 rfl) ?_
          refine lv_if_eq (tgt := 255) hx hb d_La_acts_161 (by decide) (fun c_161 => ?_) (fun c_161 => ?_)
          · first | exact absurd c_161 (by decide) | exact absurd rfl c_161
          · skip
            refine lv_iload hx hb d_La_acts_164 (lv_at hl 0 rfl) ?_
            refine lv_if_ge (tgt := 207) hx hb d_La_acts_166 (by decide) (fun c_166 => ?_) (fun c_166 => ?_)
            · exact absurd c_166 (by decide)
            · skip
              refine lv_iload hx hb d_La_acts_169 (lv_at hl 0 rfl) ?_
              refine lv_bipush (v := -5) hx hb d_La_acts_171 (by decide +kernel) ?_
              refine lv_icmp_eq (tgt := 183) hx hb d_La_acts_173 (by decide) (fun c_173 => ?_) (fun c_173 => ?_)
              · exact absurd c_173 (by decide)
              · skip
                refine lv_iload hx hb d_La_acts_176 (lv_at hl 0 rfl) ?_
                refine lv_bipush (v := -4) hx hb d_La_acts_178 (by decide +kernel) ?_
                refine lv_icmp_ne (tgt := 255) hx hb d_La_acts_180 (by decide) (fun c_180 => ?_) (fun c_180 => ?_)
                · exact absurd rfl c_180
                · skip
                  refine lv_aload_n hx hb d_La_acts_183 rfl (lv_at hl 7 rfl) ?_
                  refine lv_bipush (v := nI 12) hx hb d_La_acts_184 (by decide +kernel) ?_
                  refine g_V C0 (g_val (v' := (nI X5.2.1.1.1)) (k_Ga_count l G x X5 (nI 12) hOX5) cnt_12) co_Ga_count im_Ga_count se_Ga_count in_Ga gc_Ga_count ml_La_22 ⟨Nat.le_of_ble_eq_true rfl, Nat.le_of_ble_eq_true rfl⟩ hK hR_11.1 rfl hR_11 rfl hl.1 rfl (Nat.le_of_ble_eq_true rfl) d_La_acts_186 ⟨Nat.le_of_ble_eq_true rfl, Nat.le_of_ble_eq_true rfl⟩ (g_r rfl ?_)
                  refine lv_iload hx hb d_La_acts_189 (lv_at hl 1 rfl) ?_
                  refine lv_icmp_ne (tgt := 255) hx hb d_La_acts_191 (by decide) (fun c_191 => ?_) (fun c_191 => ?_)
                  · exact absurd (by rw [hp5]) c_191
                  · skip
                    refine lv_aload_n hx hb d_La_acts_194 rfl (lv_at hl 7 rfl) ?_
                    refine lv_iconst (v := nI 1) hx hb d_La_acts_195 (by decide +kernel) ?_
                    refine g_V C0 (g_val (v' := (nI ((X5.1.2 1).1))) (k_Ga_count l G x X5 (nI 1) hOX5) cnt_1) co_Ga_count im_Ga_count se_Ga_count in_Ga gc_Ga_count ml_La_22 ⟨Nat.le_of_ble_eq_true rfl, Nat.le_of_ble_eq_true rfl⟩ hK hR_11.1 rfl hR_11 rfl hl.1 rfl (Nat.le_of_ble_eq_true rfl) d_La_acts_196 ⟨Nat.le_of_ble_eq_true rfl, Nat.le_of_ble_eq_true rfl⟩ (g_r rfl ?_)
                    refine lv_iload hx hb d_La_acts_199 (lv_at hl 3 rfl) ?_
                    refine lv_icmp_ne (tgt := 255) hx hb d_La_acts_201 (by decide) (fun c_201 => ?_) (fun c_201 => ?_)
                    · exact absurd (by rw [hs5]) c_201
                    · skip
                      refine lv_goto (tgt := 251) hx hb d_La_acts_204 (by decide) ?_
                      refine lv_iconst (v := nI 1) hx hb d_La_acts_251 (by decide +kernel) ?_
                      refine lv_goto (tgt := 256) hx hb d_La_acts_252 (by decide) ?_
                      refine g_zret (b := true) C0 hlk hr d_La_acts_256 hL ?_
                      exact ⟨rfl, X5, hR_11, hJX5.mono (by omega), (((gFr.rf.tr hf_3).tr hf_6).tr hf_12)⟩
        · skip
          rw [hs2] at hZn
          have h40Z := hJZ.1.n40
          refine lv_aload_n hx hb d_La_acts_151 rfl (lv_at hl 6 rfl) ?_
          refine lv_iload_n hx hb d_La_acts_152 rfl (lv_at hl 5 rfl) ?_
          refine lv_iload_n hx hb d_La_acts_153 rfl (lv_at hl 4 rfl) ?_
          have hOZ := hJZ.ok (by omega)
          refine g_V C0 (g_valw (v' := (nI q)) (X' := Z) (k_Ga_fill l G x X2 (nI co) (nI li) hOX2) hfl) co_Ga_fill im_Ga_fill se_Ga_fill in_Ga gc_Ga_fill ml_La_64 ⟨Nat.le_of_ble_eq_true rfl, Nat.le_of_ble_eq_true rfl⟩ hK hR_5.1 rfl hR_5 rfl hl.1 rfl (Nat.le_of_ble_eq_true rfl) d_La_acts_154 ⟨Nat.le_of_ble_eq_true rfl, Nat.le_of_ble_eq_true rfl⟩ (g_wi (free := gRg x (x + 262)) hL (fun _ h => h) (fun H_13 locs hL ⟨hR_14, hf_15⟩ => ?_))
          refine lv_istore (lv' := [(8, .int (nI q)), (7, .int (nI X2.2.1.1.1)), (6, .int (nI 1)), (5, .int (nI ((X.1.2 1).1))), (4, .int (nI ((X.1.2 11).1))), (3, .int (nI li)), (2, .int (nI co)), (0, .ref x), (1, .int (nI cz))]) hx hb d_La_acts_157 hl (by decide) rfl (fun ls hl => ?_)
          refine lv_iload hx hb d_La_acts_159 (lv_at hl 2 rfl) ?_
          refine lv_if_eq (tgt := 255) hx hb d_La_acts_161 (by decide) (fun c_161 => ?_) (fun c_161 => ?_)
          · first | exact absurd c_161 (by decide) | exact absurd rfl c_161
          · skip
            refine lv_iload hx hb d_La_acts_164 (lv_at hl 0 rfl) ?_
            refine lv_if_ge (tgt := 207) hx hb d_La_acts_166 (by decide) (fun c_166 => ?_) (fun c_166 => ?_)
            · skip
              refine lv_aload_n hx hb d_La_acts_207 rfl (lv_at hl 7 rfl) ?_
              refine lv_bipush (v := nI 12) hx hb d_La_acts_208 (by decide +kernel) ?_
              refine g_V C0 (g_val (v' := (nI Z.2.1.1.1)) (k_Ga_count l G x Z (nI 12) hOZ) cnt_12) co_Ga_count im_Ga_count se_Ga_count in_Ga gc_Ga_count ml_La_22 ⟨Nat.le_of_ble_eq_true rfl, Nat.le_of_ble_eq_true rfl⟩ hK hR_14.1 rfl hR_14 rfl hl.1 rfl (Nat.le_of_ble_eq_true rfl) d_La_acts_210 ⟨Nat.le_of_ble_eq_true rfl, Nat.le_of_ble_eq_true rfl⟩ (g_r rfl ?_)
              refine lv_if_ne (tgt := 255) hx hb d_La_acts_213 (by decide) (fun c_213 => ?_) (fun c_213 => ?_)
              · exact absurd (by rw [hZp]; rfl) c_213
              · skip
                refine lv_aload_n hx hb d_La_acts_216 rfl (lv_at hl 7 rfl) ?_
                refine lv_iconst (v := nI 1) hx hb d_La_acts_217 (by decide +kernel) ?_
                refine g_V C0 (g_val (v' := (nI ((Z.1.2 1).1))) (k_Ga_count l G x Z (nI 1) hOZ) cnt_1) co_Ga_count im_Ga_count se_Ga_count in_Ga gc_Ga_count ml_La_22 ⟨Nat.le_of_ble_eq_true rfl, Nat.le_of_ble_eq_true rfl⟩ hK hR_14.1 rfl hR_14 rfl hl.1 rfl (Nat.le_of_ble_eq_true rfl) d_La_acts_218 ⟨Nat.le_of_ble_eq_true rfl, Nat.le_of_ble_eq_true rfl⟩ (g_r rfl ?_)
                refine lv_iload hx hb d_La_acts_221 (lv_at hl 3 rfl) ?_
                refine g_clt (tgt := 255) C0 d_La_acts_223 (by decide) (by omega) (by omega) (fun c_223 => ?_) (fun c_223 => ?_)
                · exact absurd c_223 (by omega)
                · skip
                  refine lv_aload_n hx hb d_La_acts_226 rfl (lv_at hl 7 rfl) ?_
                  refine lv_iload_n hx hb d_La_acts_227 rfl (lv_at hl 6 rfl) ?_
                  refine lv_iload_n hx hb d_La_acts_228 rfl (lv_at hl 5 rfl) ?_
                  refine lv_iload hx hb d_La_acts_229 (lv_at hl 0 rfl) ?_
                  refine lv_iconst (v := nI 1) hx hb d_La_acts_231 (by decide +kernel) ?_
                  refine g_isub C0 (z := q - 1) d_La_acts_232 (by omega) ?_
                  refine g_V C0 (g_val (v' := (nI ((Z.1.2 (5 + lix co li)).2 (q - 1)))) (k_Ga_listed l G x Z (nI co) (nI li) (nI (q - 1)) hOZ) (ls_v hJZ.1 hc hk (by omega))) co_Ga_listed im_Ga_listed se_Ga_listed in_Ga gc_Ga_listed ml_La_38 ⟨Nat.le_of_ble_eq_true rfl, Nat.le_of_ble_eq_true rfl⟩ hK hR_14.1 rfl hR_14 rfl hl.1 rfl (Nat.le_of_ble_eq_true rfl) d_La_acts_233 ⟨Nat.le_of_ble_eq_true rfl, Nat.le_of_ble_eq_true rfl⟩ (g_r rfl ?_)
                  refine lv_if_lt (tgt := 255) hx hb d_La_acts_236 (by decide) (fun c_236 => ?_) (fun c_236 => ?_)
                  · exact absurd c_236 (nI_pos (by have := ((hJZ.1.2.2.1 _ hlx).2 (q - 1) (by omega)).1; omega))
                  · skip
                    refine lv_aload_n hx hb d_La_acts_239 rfl (lv_at hl 7 rfl) ?_
                    refine lv_iload_n hx hb d_La_acts_240 rfl (lv_at hl 6 rfl) ?_
                    refine lv_iload_n hx hb d_La_acts_241 rfl (lv_at hl 5 rfl) ?_
                    refine lv_iload hx hb d_La_acts_242 (lv_at hl 0 rfl) ?_
                    refine g_V C0 (g_val (v' := (-1)) (k_Ga_listed l G x Z (nI co) (nI li) (nI q) hOZ) (ls_n hc hk (by omega) (by omega))) co_Ga_listed im_Ga_listed se_Ga_listed in_Ga gc_Ga_listed ml_La_38 ⟨Nat.le_of_ble_eq_true rfl, Nat.le_of_ble_eq_true rfl⟩ hK hR_14.1 rfl hR_14 rfl hl.1 rfl (Nat.le_of_ble_eq_true rfl) d_La_acts_244 ⟨Nat.le_of_ble_eq_true rfl, Nat.le_of_ble_eq_true rfl⟩ (g_r rfl ?_)
                    refine lv_iconst (v := -1) hx hb d_La_acts_247 (by decide +kernel) ?_
                    refine lv_icmp_ne (tgt := 255) hx hb d_La_acts_248 (by decide) (fun c_248 => ?_) (fun c_248 => ?_)
                    · exact absurd rfl c_248
                    · skip
                      refine lv_iconst (v := nI 1) hx hb d_La_acts_251 (by decide +kernel) ?_
                      refine lv_goto (tgt := 256) hx hb d_La_acts_252 (by decide) ?_
                      refine g_zret (b := true) C0 hlk hr d_La_acts_256 hL ?_
                      exact ⟨rfl, Z, hR_14, hJZ.mono (by omega), (((gFr.rf.tr hf_3).tr hf_6).tr hf_15)⟩
            · exact absurd (nI_ge0 (by omega)) c_166
      · skip
        refine lv_aload_n hx hb d_La_acts_112 rfl (lv_at hl 4 rfl) ?_
        refine g_ldc2 (v := lN 44) C0 kl_La_62 d_La_acts_113 ?_
        obtain ⟨X3, hX3⟩ : ∃ Z, Z = xPd X2 (rAdd 80 X2.2.1.1 44) X2.2.1.2 := ⟨_, rfl⟩
        have hJX3 : IX t X3 := by rw [hX3]; exact ⟨hJX2.1, rB_add hJX2.2 (by decide)⟩
        have hOX3 := hJX3.ok (by omega)
        have hp3 : X3.2.1.1.1 = X2.2.1.1.1 + 1 := by rw [hX3]; show (rAdd 80 X2.2.1.1 44).1 = _; rw [rAdd_in (by omega)]
        have hs3 : X3.1 = X.1 := by rw [hX3]; exact hs2
        have hB3 : BS X3 1 := by rw [hX3]; exact BS_comma hQ2 (by omega) (by decide)
        refine g_V C0 (g_valw (v' := (nI (X2.2.1.1.1 + 1))) (X' := X3) (k_Ga_put l G x X2 44 (by omega) hOX2) (by rw [hX3]; exact put_1 (by decide) (by decide) (by omega))) co_Ga_put im_Ga_put se_Ga_put in_Ga gc_Ga_put ml_La_9 ⟨Nat.le_of_ble_eq_true rfl, Nat.le_of_ble_eq_true rfl⟩ hK hR_5.1 rfl hR_5 rfl hl.1 rfl (Nat.le_of_ble_eq_true rfl) d_La_acts_116 ⟨Nat.le_of_ble_eq_true rfl, Nat.le_of_ble_eq_true rfl⟩ (g_wi (free := gRg x (x + 262)) hL (fun _ h => h) (fun H_16 locs hL ⟨hR_17, hf_18⟩ => ?_))
        refine lv_if_le (tgt := 140) hx hb d_La_acts_119 (by decide) (fun c_119 => ?_) (fun c_119 => ?_)
        · exact absurd c_119 (nI_posn (by omega) (by omega))
        · skip
          refine lv_aload_n hx hb d_La_acts_122 rfl (lv_at hl 4 rfl) ?_
          refine lv_iload_n hx hb d_La_acts_123 rfl (lv_at hl 5 rfl) ?_
          refine lv_bipush (v := nI 9) hx hb d_La_acts_124 (by decide +kernel) ?_
          refine g_ishr C0 (z := cz / 2 ^ 9) d_La_acts_126 (by omega) (by omega) rfl ?_
          refine lv_bipush (v := nI 77) hx hb d_La_acts_127 (by decide +kernel) ?_
          refine g_iadd C0 (z := cz / 2 ^ 9 + 77) d_La_acts_129 rfl ?_
          obtain ⟨X4, hX4⟩ : ∃ Z, Z = xPd X3 (chR X3.2.1.1 (cz / 2 ^ 9 + 77) (2 + (cz / 2 ^ 9 + 77) % 5)) X3.2.1.2 := ⟨_, rfl⟩
          have hJX4 : IX t X4 := by rw [hX4]; exact ⟨hJX3.1, chR_B hJX3.2 _⟩
          have hOX4 := hJX4.ok (by omega)
          have hp4 : X4.2.1.1.1 = X3.2.1.1.1 + (2 + (cz / 2 ^ 9 + 77) % 5) := by rw [hX4]; exact (chR_ok (by omega)).1
          have hs4 : X4.1 = X.1 := by rw [hX4]; exact hs3
          have hQ4 : QS X4 1 := by rw [hX4]; exact QS_puts hB3 (by omega)
          refine g_S C0 (k_La_puts l G x X3 t (cz / 2 ^ 9 + 77) (by omega) (by omega) hJX3.1 hOX3) co_La_puts sm_La_puts in_La gc_La_puts ml_La_58 ⟨Nat.le_of_ble_eq_true rfl, Nat.le_of_ble_eq_true rfl⟩ hK hR_17 rfl hl.1 rfl (Nat.le_of_ble_eq_true rfl) d_La_acts_130 ⟨Nat.le_of_ble_eq_true rfl, Nat.le_of_ble_eq_true rfl⟩ (g_wi (free := gRg x (x + 262)) hL (fun _ h => h) (fun H_19 locs hL ⟨hR_20, hf_21⟩ => ?_))
          rw [← hX4] at hR_20
          refine g_zeq (tgt := 140) C0 d_La_acts_133 (by decide) (fun c_133 => ?_) (fun c_133 => ?_)
          · cases c_133
          · skip
            refine lv_iconst (v := nI 1) hx hb d_La_acts_136 (by decide +kernel) ?_
            refine lv_goto (tgt := 141) hx hb d_La_acts_137 (by decide) ?_
            refine lv_istore (lv' := [(6, .int (nI 1)), (5, .int (nI ((X.1.2 1).1))), (4, .int (nI ((X.1.2 11).1))), (3, .int (nI li)), (2, .int (nI co)), (0, .ref x), (1, .int (nI cz))]) hx hb d_La_acts_141 hl (by decide) rfl (fun ls hl => ?_)
            obtain ⟨T, hxT, hT1, hTk⟩ := QS_end hQ4 (by decide)
            refine lv_aload_n hx hb d_La_acts_143 rfl (lv_at hl 5 rfl) ?_
            refine lv_bipush (v := nI 12) hx hb d_La_acts_144 (by decide +kernel) ?_
            refine g_V C0 (g_val (v' := (nI X4.2.1.1.1)) (k_Ga_count l G x X4 (nI 12) hOX4) cnt_12) co_Ga_count im_Ga_count se_Ga_count in_Ga gc_Ga_count ml_La_22 ⟨Nat.le_of_ble_eq_true rfl, Nat.le_of_ble_eq_true rfl⟩ hK hR_20.1 rfl hR_20 rfl hl.1 rfl (Nat.le_of_ble_eq_true rfl) d_La_acts_146 ⟨Nat.le_of_ble_eq_true rfl, Nat.le_of_ble_eq_true rfl⟩ (g_r rfl ?_)
            refine lv_istore (lv' := [(7, .int (nI X4.2.1.1.1)), (6, .int (nI 1)), (5, .int (nI ((X.1.2 1).1))), (4, .int (nI ((X.1.2 11).1))), (3, .int (nI li)), (2, .int (nI co)), (0, .ref x), (1, .int (nI cz))]) hx hb d_La_acts_149 hl (by decide) rfl (fun ls hl => ?_)
            rcases fil_v hJX4 hc hk hxT (by rw [hT1]; exact hTk) (by omega) with hfl | hfl | ⟨q, Z, hfl, hJZ, hq1, hq8, hqz, hZp, hZn⟩
            · skip
              refine lv_aload_n hx hb d_La_acts_151 rfl (lv_at hl 6 rfl) ?_
              refine lv_iload_n hx hb d_La_acts_152 rfl (lv_at hl 5 rfl) ?_
              refine lv_iload_n hx hb d_La_acts_153 rfl (lv_at hl 4 rfl) ?_
              obtain ⟨X5, hX5⟩ : ∃ Z, Z = xTd X4 := ⟨_, rfl⟩
              have hJX5 : IX t X5 := by rw [hX5]; exact hJX4
              have hOX5 := hJX5.ok (by omega)
              have hs5 : X5.1 = X.1 := by rw [hX5]; exact hs4
              have hp5 : X5.2.1.1 = X4.2.1.1 := by rw [hX5]; rfl
              refine g_V C0 (g_valw (v' := (-5)) (X' := X5) (k_Ga_fill l G x X4 (nI co) (nI li) hOX4) (by rw [hX5]; exact hfl)) co_Ga_fill im_Ga_fill se_Ga_fill in_Ga gc_Ga_fill ml_La_64 ⟨Nat.le_of_ble_eq_true rfl, Nat.le_of_ble_eq_true rfl⟩ hK hR_20.1 rfl hR_20 rfl hl.1 rfl (Nat.le_of_ble_eq_true rfl) d_La_acts_154 ⟨Nat.le_of_ble_eq_true rfl, Nat.le_of_ble_eq_true rfl⟩ (g_wi (free := gRg x (x + 262)) hL (fun _ h => h) (fun H_22 locs hL ⟨hR_23, hf_24⟩ => ?_))
              refine lv_istore (lv' := [(8, .int (-5)), (7, .int (nI X4.2.1.1.1)), (6, .int (nI 1)), (5, .int (nI ((X.1.2 1).1))), (4, .int (nI ((X.1.2 11).1))), (3, .int (nI li)), (2, .int (nI co)), (0, .ref x), (1, .int (nI cz))]) hx hb d_La_acts_157 hl (by decide) rfl (fun ls hl => ?_)
              refine lv_iload hx hb d_La_acts_159 (lv_at hl 2 rfl) ?_
              refine lv_if_eq (tgt := 255) hx hb d_La_acts_161 (by decide) (fun c_161 => ?_) (fun c_161 => ?_)
              · first | exact absurd c_161 (by decide) | exact absurd rfl c_161
              · skip
                refine lv_iload hx hb d_La_acts_164 (lv_at hl 0 rfl) ?_
                refine lv_if_ge (tgt := 207) hx hb d_La_acts_166 (by decide) (fun c_166 => ?_) (fun c_166 => ?_)
                · exact absurd c_166 (by decide)
                · skip
                  refine lv_iload hx hb d_La_acts_169 (lv_at hl 0 rfl) ?_
                  refine lv_bipush (v := -5) hx hb d_La_acts_171 (by decide +kernel) ?_
                  refine lv_icmp_eq (tgt := 183) hx hb d_La_acts_173 (by decide) (fun c_173 => ?_) (fun c_173 => ?_)
                  · skip
                    refine lv_aload_n hx hb d_La_acts_183 rfl (lv_at hl 7 rfl) ?_
                    refine lv_bipush (v := nI 12) hx hb d_La_acts_184 (by decide +kernel) ?_
                    refine g_V C0 (g_val (v' := (nI X5.2.1.1.1)) (k_Ga_count l G x X5 (nI 12) hOX5) cnt_12) co_Ga_count im_Ga_count se_Ga_count in_Ga gc_Ga_count ml_La_22 ⟨Nat.le_of_ble_eq_true rfl, Nat.le_of_ble_eq_true rfl⟩ hK hR_23.1 rfl hR_23 rfl hl.1 rfl (Nat.le_of_ble_eq_true rfl) d_La_acts_186 ⟨Nat.le_of_ble_eq_true rfl, Nat.le_of_ble_eq_true rfl⟩ (g_r rfl ?_)
                    refine lv_iload hx hb d_La_acts_189 (lv_at hl 1 rfl) ?_
                    refine lv_icmp_ne (tgt := 255) hx hb d_La_acts_191 (by decide) (fun c_191 => ?_) (fun c_191 => ?_)
                    · exact absurd (by rw [hp5]) c_191
                    · skip
                      refine lv_aload_n hx hb d_La_acts_194 rfl (lv_at hl 7 rfl) ?_
                      refine lv_iconst (v := nI 1) hx hb d_La_acts_195 (by decide +kernel) ?_
                      refine g_V C0 (g_val (v' := (nI ((X5.1.2 1).1))) (k_Ga_count l G x X5 (nI 1) hOX5) cnt_1) co_Ga_count im_Ga_count se_Ga_count in_Ga gc_Ga_count ml_La_22 ⟨Nat.le_of_ble_eq_true rfl, Nat.le_of_ble_eq_true rfl⟩ hK hR_23.1 rfl hR_23 rfl hl.1 rfl (Nat.le_of_ble_eq_true rfl) d_La_acts_196 ⟨Nat.le_of_ble_eq_true rfl, Nat.le_of_ble_eq_true rfl⟩ (g_r rfl ?_)
                      refine lv_iload hx hb d_La_acts_199 (lv_at hl 3 rfl) ?_
                      refine lv_icmp_ne (tgt := 255) hx hb d_La_acts_201 (by decide) (fun c_201 => ?_) (fun c_201 => ?_)
                      · exact absurd (by rw [hs5]) c_201
                      · skip
                        refine lv_goto (tgt := 251) hx hb d_La_acts_204 (by decide) ?_
                        refine lv_iconst (v := nI 1) hx hb d_La_acts_251 (by decide +kernel) ?_
                        refine lv_goto (tgt := 256) hx hb d_La_acts_252 (by decide) ?_
                        refine g_zret (b := true) C0 hlk hr d_La_acts_256 hL ?_
                        exact ⟨rfl, X5, hR_23, hJX5.mono (by omega), (((((gFr.rf.tr hf_3).tr hf_6).tr hf_18).tr hf_21).tr hf_24)⟩
                  · exact absurd rfl c_173
            · skip
              refine lv_aload_n hx hb d_La_acts_151 rfl (lv_at hl 6 rfl) ?_
              refine lv_iload_n hx hb d_La_acts_152 rfl (lv_at hl 5 rfl) ?_
              refine lv_iload_n hx hb d_La_acts_153 rfl (lv_at hl 4 rfl) ?_
              obtain ⟨X5, hX5⟩ : ∃ Z, Z = xTd X4 := ⟨_, rfl⟩
              have hJX5 : IX t X5 := by rw [hX5]; exact hJX4
              have hOX5 := hJX5.ok (by omega)
              have hs5 : X5.1 = X.1 := by rw [hX5]; exact hs4
              have hp5 : X5.2.1.1 = X4.2.1.1 := by rw [hX5]; rfl
              refine g_V C0 (g_valw (v' := (-4)) (X' := X5) (k_Ga_fill l G x X4 (nI co) (nI li) hOX4) (by rw [hX5]; exact hfl)) co_Ga_fill im_Ga_fill se_Ga_fill in_Ga gc_Ga_fill ml_La_64 ⟨Nat.le_of_ble_eq_true rfl, Nat.le_of_ble_eq_true rfl⟩ hK hR_20.1 rfl hR_20 rfl hl.1 rfl (Nat.le_of_ble_eq_true rfl) d_La_acts_154 ⟨Nat.le_of_ble_eq_true rfl, Nat.le_of_ble_eq_true rfl⟩ (g_wi (free := gRg x (x + 262)) hL (fun _ h => h) (fun H_25 locs hL ⟨hR_26, hf_27⟩ => ?_))
              refine lv_istore (lv' := [(8, .int (-4)), (7, .int (nI X4.2.1.1.1)), (6, .int (nI 1)), (5, .int (nI ((X.1.2 1).1))), (4, .int (nI ((X.1.2 11).1))), (3, .int (nI li)), (2, .int (nI co)), (0, .ref x), (1, .int (nI cz))]) hx hb d_La_acts_157 hl (by decide) rfl (fun ls hl => ?_)
              refine lv_iload hx hb d_La_acts_159 (lv_at hl 2 rfl) ?_
              refine lv_if_eq (tgt := 255) hx hb d_La_acts_161 (by decide) (fun c_161 => ?_) (fun c_161 => ?_)
              · first | exact absurd c_161 (by decide) | exact absurd rfl c_161
              · skip
                refine lv_iload hx hb d_La_acts_164 (lv_at hl 0 rfl) ?_
                refine lv_if_ge (tgt := 207) hx hb d_La_acts_166 (by decide) (fun c_166 => ?_) (fun c_166 => ?_)
                · exact absurd c_166 (by decide)
                · skip
                  refine lv_iload hx hb d_La_acts_169 (lv_at hl 0 rfl) ?_
                  refine lv_bipush (v := -5) hx hb d_La_acts_171 (by decide +kernel) ?_
                  refine lv_icmp_eq (tgt := 183) hx hb d_La_acts_173 (by decide) (fun c_173 => ?_) (fun c_173 => ?_)
                  · exact absurd c_173 (by decide)
                  · skip
                    refine lv_iload hx hb d_La_acts_176 (lv_at hl 0 rfl) ?_
                    refine lv_bipush (v := -4) hx hb d_La_acts_178 (by decide +kernel) ?_
                    refine lv_icmp_ne (tgt := 255) hx hb d_La_acts_180 (by decide) (fun c_180 => ?_) (fun c_180 => ?_)
                    · exact absurd rfl c_180
                    · skip
                      refine lv_aload_n hx hb d_La_acts_183 rfl (lv_at hl 7 rfl) ?_
                      refine lv_bipush (v := nI 12) hx hb d_La_acts_184 (by decide +kernel) ?_
                      refine g_V C0 (g_val (v' := (nI X5.2.1.1.1)) (k_Ga_count l G x X5 (nI 12) hOX5) cnt_12) co_Ga_count im_Ga_count se_Ga_count in_Ga gc_Ga_count ml_La_22 ⟨Nat.le_of_ble_eq_true rfl, Nat.le_of_ble_eq_true rfl⟩ hK hR_26.1 rfl hR_26 rfl hl.1 rfl (Nat.le_of_ble_eq_true rfl) d_La_acts_186 ⟨Nat.le_of_ble_eq_true rfl, Nat.le_of_ble_eq_true rfl⟩ (g_r rfl ?_)
                      refine lv_iload hx hb d_La_acts_189 (lv_at hl 1 rfl) ?_
                      refine lv_icmp_ne (tgt := 255) hx hb d_La_acts_191 (by decide) (fun c_191 => ?_) (fun c_191 => ?_)
                      · exact absurd (by rw [hp5]) c_191
                      · skip
                        refine lv_aload_n hx hb d_La_acts_194 rfl (lv_at hl 7 rfl) ?_
                        refine lv_iconst (v := nI 1) hx hb d_La_acts_195 (by decide +kernel) ?_
                        refine g_V C0 (g_val (v' := (nI ((X5.1.2 1).1))) (k_Ga_count l G x X5 (nI 1) hOX5) cnt_1) co_Ga_count im_Ga_count se_Ga_count in_Ga gc_Ga_count ml_La_22 ⟨Nat.le_of_ble_eq_true rfl, Nat.le_of_ble_eq_true rfl⟩ hK hR_26.1 rfl hR_26 rfl hl.1 rfl (Nat.le_of_ble_eq_true rfl) d_La_acts_196 ⟨Nat.le_of_ble_eq_true rfl, Nat.le_of_ble_eq_true rfl⟩ (g_r rfl ?_)
                        refine lv_iload hx hb d_La_acts_199 (lv_at hl 3 rfl) ?_
                        refine lv_icmp_ne (tgt := 255) hx hb d_La_acts_201 (by decide) (fun c_201 => ?_) (fun c_201 => ?_)
                        · exact absurd (by rw [hs5]) c_201
                        · skip
                          refine lv_goto (tgt := 251) hx hb d_La_acts_204 (by decide) ?_
                          refine lv_iconst (v := nI 1) hx hb d_La_acts_251 (by decide +kernel) ?_
                          refine lv_goto (tgt := 256) hx hb d_La_acts_252 (by decide) ?_
                          refine g_zret (b := true) C0 hlk hr d_La_acts_256 hL ?_
                          exact ⟨rfl, X5, hR_26, hJX5.mono (by omega), (((((gFr.rf.tr hf_3).tr hf_6).tr hf_18).tr hf_21).tr hf_27)⟩
            · skip
              rw [hs4] at hZn
              have h40Z := hJZ.1.n40
              refine lv_aload_n hx hb d_La_acts_151 rfl (lv_at hl 6 rfl) ?_
              refine lv_iload_n hx hb d_La_acts_152 rfl (lv_at hl 5 rfl) ?_
              refine lv_iload_n hx hb d_La_acts_153 rfl (lv_at hl 4 rfl) ?_
              have hOZ := hJZ.ok (by omega)
              refine g_V C0 (g_valw (v' := (nI q)) (X' := Z) (k_Ga_fill l G x X4 (nI co) (nI li) hOX4) hfl) co_Ga_fill im_Ga_fill se_Ga_fill in_Ga gc_Ga_fill ml_La_64 ⟨Nat.le_of_ble_eq_true rfl, Nat.le_of_ble_eq_true rfl⟩ hK hR_20.1 rfl hR_20 rfl hl.1 rfl (Nat.le_of_ble_eq_true rfl) d_La_acts_154 ⟨Nat.le_of_ble_eq_true rfl, Nat.le_of_ble_eq_true rfl⟩ (g_wi (free := gRg x (x + 262)) hL (fun _ h => h) (fun H_28 locs hL ⟨hR_29, hf_30⟩ => ?_))
              refine lv_istore (lv' := [(8, .int (nI q)), (7, .int (nI X4.2.1.1.1)), (6, .int (nI 1)), (5, .int (nI ((X.1.2 1).1))), (4, .int (nI ((X.1.2 11).1))), (3, .int (nI li)), (2, .int (nI co)), (0, .ref x), (1, .int (nI cz))]) hx hb d_La_acts_157 hl (by decide) rfl (fun ls hl => ?_)
              refine lv_iload hx hb d_La_acts_159 (lv_at hl 2 rfl) ?_
              refine lv_if_eq (tgt := 255) hx hb d_La_acts_161 (by decide) (fun c_161 => ?_) (fun c_161 => ?_)
              · first | exact absurd c_161 (by decide) | exact absurd rfl c_161
              · skip
                refine lv_iload hx hb d_La_acts_164 (lv_at hl 0 rfl) ?_
                refine lv_if_ge (tgt := 207) hx hb d_La_acts_166 (by decide) (fun c_166 => ?_) (fun c_166 => ?_)
                · skip
                  refine lv_aload_n hx hb d_La_acts_207 rfl (lv_at hl 7 rfl) ?_
                  refine lv_bipush (v := nI 12) hx hb d_La_acts_208 (by decide +kernel) ?_
                  refine g_V C0 (g_val (v' := (nI Z.2.1.1.1)) (k_Ga_count l G x Z (nI 12) hOZ) cnt_12) co_Ga_count im_Ga_count se_Ga_count in_Ga gc_Ga_count ml_La_22 ⟨Nat.le_of_ble_eq_true rfl, Nat.le_of_ble_eq_true rfl⟩ hK hR_29.1 rfl hR_29 rfl hl.1 rfl (Nat.le_of_ble_eq_true rfl) d_La_acts_210 ⟨Nat.le_of_ble_eq_true rfl, Nat.le_of_ble_eq_true rfl⟩ (g_r rfl ?_)
                  refine lv_if_ne (tgt := 255) hx hb d_La_acts_213 (by decide) (fun c_213 => ?_) (fun c_213 => ?_)
                  · exact absurd (by rw [hZp]; rfl) c_213
                  · skip
                    refine lv_aload_n hx hb d_La_acts_216 rfl (lv_at hl 7 rfl) ?_
                    refine lv_iconst (v := nI 1) hx hb d_La_acts_217 (by decide +kernel) ?_
                    refine g_V C0 (g_val (v' := (nI ((Z.1.2 1).1))) (k_Ga_count l G x Z (nI 1) hOZ) cnt_1) co_Ga_count im_Ga_count se_Ga_count in_Ga gc_Ga_count ml_La_22 ⟨Nat.le_of_ble_eq_true rfl, Nat.le_of_ble_eq_true rfl⟩ hK hR_29.1 rfl hR_29 rfl hl.1 rfl (Nat.le_of_ble_eq_true rfl) d_La_acts_218 ⟨Nat.le_of_ble_eq_true rfl, Nat.le_of_ble_eq_true rfl⟩ (g_r rfl ?_)
                    refine lv_iload hx hb d_La_acts_221 (lv_at hl 3 rfl) ?_
                    refine g_clt (tgt := 255) C0 d_La_acts_223 (by decide) (by omega) (by omega) (fun c_223 => ?_) (fun c_223 => ?_)
                    · exact absurd c_223 (by omega)
                    · skip
                      refine lv_aload_n hx hb d_La_acts_226 rfl (lv_at hl 7 rfl) ?_
                      refine lv_iload_n hx hb d_La_acts_227 rfl (lv_at hl 6 rfl) ?_
                      refine lv_iload_n hx hb d_La_acts_228 rfl (lv_at hl 5 rfl) ?_
                      refine lv_iload hx hb d_La_acts_229 (lv_at hl 0 rfl) ?_
                      refine lv_iconst (v := nI 1) hx hb d_La_acts_231 (by decide +kernel) ?_
                      refine g_isub C0 (z := q - 1) d_La_acts_232 (by omega) ?_
                      refine g_V C0 (g_val (v' := (nI ((Z.1.2 (5 + lix co li)).2 (q - 1)))) (k_Ga_listed l G x Z (nI co) (nI li) (nI (q - 1)) hOZ) (ls_v hJZ.1 hc hk (by omega))) co_Ga_listed im_Ga_listed se_Ga_listed in_Ga gc_Ga_listed ml_La_38 ⟨Nat.le_of_ble_eq_true rfl, Nat.le_of_ble_eq_true rfl⟩ hK hR_29.1 rfl hR_29 rfl hl.1 rfl (Nat.le_of_ble_eq_true rfl) d_La_acts_233 ⟨Nat.le_of_ble_eq_true rfl, Nat.le_of_ble_eq_true rfl⟩ (g_r rfl ?_)
                      refine lv_if_lt (tgt := 255) hx hb d_La_acts_236 (by decide) (fun c_236 => ?_) (fun c_236 => ?_)
                      · exact absurd c_236 (nI_pos (by have := ((hJZ.1.2.2.1 _ hlx).2 (q - 1) (by omega)).1; omega))
                      · skip
                        refine lv_aload_n hx hb d_La_acts_239 rfl (lv_at hl 7 rfl) ?_
                        refine lv_iload_n hx hb d_La_acts_240 rfl (lv_at hl 6 rfl) ?_
                        refine lv_iload_n hx hb d_La_acts_241 rfl (lv_at hl 5 rfl) ?_
                        refine lv_iload hx hb d_La_acts_242 (lv_at hl 0 rfl) ?_
                        refine g_V C0 (g_val (v' := (-1)) (k_Ga_listed l G x Z (nI co) (nI li) (nI q) hOZ) (ls_n hc hk (by omega) (by omega))) co_Ga_listed im_Ga_listed se_Ga_listed in_Ga gc_Ga_listed ml_La_38 ⟨Nat.le_of_ble_eq_true rfl, Nat.le_of_ble_eq_true rfl⟩ hK hR_29.1 rfl hR_29 rfl hl.1 rfl (Nat.le_of_ble_eq_true rfl) d_La_acts_244 ⟨Nat.le_of_ble_eq_true rfl, Nat.le_of_ble_eq_true rfl⟩ (g_r rfl ?_)
                        refine lv_iconst (v := -1) hx hb d_La_acts_247 (by decide +kernel) ?_
                        refine lv_icmp_ne (tgt := 255) hx hb d_La_acts_248 (by decide) (fun c_248 => ?_) (fun c_248 => ?_)
                        · exact absurd rfl c_248
                        · skip
                          refine lv_iconst (v := nI 1) hx hb d_La_acts_251 (by decide +kernel) ?_
                          refine lv_goto (tgt := 256) hx hb d_La_acts_252 (by decide) ?_
                          refine g_zret (b := true) C0 hlk hr d_La_acts_256 hL ?_
                          exact ⟨rfl, Z, hR_29, hJZ.mono (by omega), (((((gFr.rf.tr hf_3).tr hf_6).tr hf_18).tr hf_21).tr hf_30)⟩
                · exact absurd (nI_ge0 (by omega)) c_166
