set_option maxHeartbeats 4000000 in
set_option maxRecDepth 100000 in
theorem k_La_acts (l : Launch) (G : gT) (x : Nat) (X : XS) (t : Nat) (ht9 : t ≤ 900) (cz : Nat) (hcz : cz < 2 ^ 31) (hI : IY t X.1) (hX : XOk X) : gM l y_La_acts c_La_acts 30 (some .boolean) 10 330 0 0 G [.ref x, .int (nI cz)] (fun H => XAt G x X H) (wi (.int (bI true)) (fun H H1 => ∃ Z : XS, XAt G x Z H1 ∧ IX (t + 1) Z ∧ gFr x (x + 262) H H1)) (gRg x (x + 262)) := by
  refine g_enter "GaleNamesLaw" (by decide +kernel) rfl (Nat.le_of_ble_eq_true rfl) ?_
  intro p e s m args below meth c C0 hlk hr hnm hP hK ls hl
  have hx := C0.1
  have hb := C0.2.1
  have hl : lv_has ls 30 [(0, .ref x), (1, .int (nI cz))] := hl
  have hJ : IX t X := ⟨hI, hX.2.1⟩
  have h40 := hI.n40
  have h16 := hI.g16
  have h10 := hI.s10
  have hp80 := hP.p80
  have e12 := hI.gk (k := 12) (by decide) (by decide)
  have e13 := hI.gk (k := 13) (by decide) (by decide)
  have e15 := hI.sk (k := 15) (by decide) (by decide)
  have hset := hI.set3 (i := 0) (by decide)
  refine lv_iload_n hx hb d_La_acts_0 rfl (lv_at hl 1 rfl) ?_
  refine lv_iconst (v := nI 4) hx hb d_La_acts_1 (by decide +kernel) ?_
  refine g_ishr C0 (z := cz / 2 ^ 4) d_La_acts_2 (by omega) (by omega) rfl ?_
  refine lv_iconst (v := nI 2) hx hb d_La_acts_3 (by decide +kernel) ?_
  refine g_irem C0 (z := (cz / 2 ^ 4) % 2) d_La_acts_4 (by omega) (by omega) (by omega) rfl ?_
  refine lv_istore_n (lv' := [(2, .int (nI ((cz / 2 ^ 4) % 2))), (0, .ref x), (1, .int (nI cz))]) hx hb d_La_acts_5 rfl hl (by decide) rfl (fun ls hl => ?_)
  obtain ⟨co, hco⟩ : ∃ z, z = (cz / 2 ^ 4) % 2 := ⟨_, rfl⟩
  rw [← hco] at hl
  have hc : co < 2 := by omega
  refine lv_iload_n hx hb d_La_acts_6 rfl (lv_at hl 2 rfl) ?_
  refine lv_iconst (v := nI 5) hx hb d_La_acts_7 (by decide +kernel) ?_
  refine g_ishr C0 (z := cz / 2 ^ 5) d_La_acts_8 (by omega) (by omega) rfl ?_
  refine lv_iconst (v := nI 3) hx hb d_La_acts_9 (by decide +kernel) ?_
  refine g_irem C0 (z := (cz / 2 ^ 5) % 3) d_La_acts_10 (by omega) (by omega) (by omega) rfl ?_
  refine lv_istore_n (lv' := [(3, .int (nI ((cz / 2 ^ 5) % 3))), (2, .int (nI co)), (0, .ref x), (1, .int (nI cz))]) hx hb d_La_acts_11 rfl hl (by decide) rfl (fun ls hl => ?_)
  obtain ⟨li, hli⟩ : ∃ z, z = (cz / 2 ^ 5) % 3 := ⟨_, rfl⟩
  rw [← hli] at hl
  have hk : li < 3 := by omega
  have hlx := lix_lt hc hk
  have hl8 : (X.1.2 (5 + lix co li)).1 ≤ 8 := hI.l8 hlx
  refine lv_aload_n hx hb d_La_acts_12 rfl (lv_at hl 2 rfl) ?_
  refine lv_iconst (v := nI 3) hx hb d_La_acts_13 (by decide +kernel) ?_
  refine g_V C0 (g_val (v' := (nI ((X.1.2 11).1))) (k_Ga_count l G x X (nI 3) hX) cnt_3) co_Ga_count im_Ga_count se_Ga_count in_Ga gc_Ga_count ml_La_22 ⟨Nat.le_of_ble_eq_true rfl, Nat.le_of_ble_eq_true rfl⟩ hK hP.1 rfl hP rfl hl.1 rfl (Nat.le_of_ble_eq_true rfl) d_La_acts_14 ⟨Nat.le_of_ble_eq_true rfl, Nat.le_of_ble_eq_true rfl⟩ (g_r rfl ?_)
  refine lv_istore (lv' := [(4, .int (nI ((X.1.2 11).1))), (3, .int (nI li)), (2, .int (nI co)), (0, .ref x), (1, .int (nI cz))]) hx hb d_La_acts_17 hl (by decide) rfl (fun ls hl => ?_)
  refine lv_iload_n hx hb d_La_acts_19 rfl (lv_at hl 4 rfl) ?_
  refine lv_bipush (v := nI 12) hx hb d_La_acts_20 (by decide +kernel) ?_
  refine g_irem C0 (z := cz % 12) d_La_acts_22 (by omega) (by omega) (by omega) rfl ?_
  rcases inR_or (nI (cz % 12)) 11 with ht | ⟨it, hit, hit31, het⟩
  · refine lv_tableOut (tgt := 739) hx hb d_La_acts_23 (inR_out ht (by decide)) (by decide) ?_
    exact la_acts_739 l G x X t ht9 cz hcz hI hX co li hco hli hc hk hlx hl8 C0 hlk hr hP hK ls hl
  · have hd : it = 0 ∨ it = 1 ∨ it = 2 ∨ it = 3 ∨ it = 4 ∨ it = 5 ∨ it = 6 ∨ it = 7 ∨ it = 8 ∨ it = 9 ∨ it = 10 := by omega
    rcases hd with rfl | rfl | rfl | rfl | rfl | rfl | rfl | rfl | rfl | rfl | rfl
    · rw [het]
      refine lv_tableIn (tgt := 80) hx hb d_La_acts_23 (by decide +kernel) (by decide +kernel) (show _ = some _ from rfl) (by decide +kernel) ?_
      exact la_acts_80 l G x X t ht9 cz hcz hI hX co li hco hli hc hk hlx hl8 C0 hlk hr hP hK ls hl
    · rw [het]
      refine lv_tableIn (tgt := 80) hx hb d_La_acts_23 (by decide +kernel) (by decide +kernel) (show _ = some _ from rfl) (by decide +kernel) ?_
      exact la_acts_80 l G x X t ht9 cz hcz hI hX co li hco hli hc hk hlx hl8 C0 hlk hr hP hK ls hl
    · rw [het]
      refine lv_tableIn (tgt := 80) hx hb d_La_acts_23 (by decide +kernel) (by decide +kernel) (show _ = some _ from rfl) (by decide +kernel) ?_
      exact la_acts_80 l G x X t ht9 cz hcz hI hX co li hco hli hc hk hlx hl8 C0 hlk hr hP hK ls hl
    · rw [het]
      refine lv_tableIn (tgt := 257) hx hb d_La_acts_23 (by decide +kernel) (by decide +kernel) (show _ = some _ from rfl) (by decide +kernel) ?_
      exact la_acts_257 l G x X t ht9 cz hcz hI hX co li hco hli hc hk hlx hl8 C0 hlk hr hP hK ls hl
    · rw [het]
      refine lv_tableIn (tgt := 339) hx hb d_La_acts_23 (by decide +kernel) (by decide +kernel) (show _ = some _ from rfl) (by decide +kernel) ?_
      rcases stm_or X co with hnx | ⟨v, hnx, h16e⟩ | ⟨v, hnx, h16e⟩
      · skip
        refine lv_aload_n hx hb d_La_acts_339 rfl (lv_at hl 3 rfl) ?_
        refine lv_iload_n hx hb d_La_acts_340 rfl (lv_at hl 2 rfl) ?_
        refine g_V C0 (g_val (v' := (-6)) (k_Ga_next l G x X (nI co) hX) (by rw [nx_v hc, hnx]; rfl)) co_Ga_next im_Ga_next se_Ga_next in_Ga gc_Ga_next ml_La_48 ⟨Nat.le_of_ble_eq_true rfl, Nat.le_of_ble_eq_true rfl⟩ hK hP.1 rfl hP rfl hl.1 rfl (Nat.le_of_ble_eq_true rfl) d_La_acts_341 ⟨Nat.le_of_ble_eq_true rfl, Nat.le_of_ble_eq_true rfl⟩ (g_r rfl ?_)
        refine lv_istore (lv' := [(12, .int (-6)), (4, .int (nI ((X.1.2 11).1))), (3, .int (nI li)), (2, .int (nI co)), (0, .ref x), (1, .int (nI cz))]) hx hb d_La_acts_344 hl (by decide) rfl (fun ls hl => ?_)
        refine lv_aload_n hx hb d_La_acts_346 rfl (lv_at hl 4 rfl) ?_
        refine lv_iload_n hx hb d_La_acts_347 rfl (lv_at hl 3 rfl) ?_
        refine g_V C0 (g_valw (v' := (-5)) (X' := X) (k_Ga_storm l G x X (nI co) hX) (stm_n hc hnx)) co_Ga_storm im_Ga_storm se_Ga_storm in_Ga gc_Ga_storm ml_La_70 ⟨Nat.le_of_ble_eq_true rfl, Nat.le_of_ble_eq_true rfl⟩ hK hP.1 rfl hP rfl hl.1 rfl (Nat.le_of_ble_eq_true rfl) d_La_acts_348 ⟨Nat.le_of_ble_eq_true rfl, Nat.le_of_ble_eq_true rfl⟩ (g_wi (free := gRg x (x + 262)) (t_nil (free := gRg x (x + 262))) (fun _ h => h) (fun H_1 locs hL ⟨hR_2, hf_3⟩ => ?_))
        refine lv_istore (lv' := [(13, .int (-5)), (12, .int (-6)), (4, .int (nI ((X.1.2 11).1))), (3, .int (nI li)), (2, .int (nI co)), (0, .ref x), (1, .int (nI cz))]) hx hb d_La_acts_351 hl (by decide) rfl (fun ls hl => ?_)
        refine lv_iload hx hb d_La_acts_353 (lv_at hl 1 rfl) ?_
        refine lv_if_ge (tgt := 373) hx hb d_La_acts_355 (by decide) (fun c_355 => ?_) (fun c_355 => ?_)
        · exact absurd c_355 (by decide)
        · skip
          refine lv_iload hx hb d_La_acts_358 (lv_at hl 0 rfl) ?_
          refine lv_bipush (v := -5) hx hb d_La_acts_360 (by decide +kernel) ?_
          refine lv_icmp_ne (tgt := 369) hx hb d_La_acts_362 (by decide) (fun c_362 => ?_) (fun c_362 => ?_)
          · exact absurd rfl c_362
          · skip
            refine lv_iconst (v := nI 1) hx hb d_La_acts_365 (by decide +kernel) ?_
            refine lv_goto (tgt := 440) hx hb d_La_acts_366 (by decide) ?_
            refine g_zret (b := true) C0 hlk hr d_La_acts_440 hL ?_
            exact ⟨rfl, X, hR_2, hJ.mono (by omega), (gFr.rf.tr hf_3)⟩
      · skip
        have hvn := (nxN_v hI hc hnx).1
        refine lv_aload_n hx hb d_La_acts_339 rfl (lv_at hl 3 rfl) ?_
        refine lv_iload_n hx hb d_La_acts_340 rfl (lv_at hl 2 rfl) ?_
        refine g_V C0 (g_val (v' := (nI v)) (k_Ga_next l G x X (nI co) hX) (by rw [nx_v hc, hnx]; rfl)) co_Ga_next im_Ga_next se_Ga_next in_Ga gc_Ga_next ml_La_48 ⟨Nat.le_of_ble_eq_true rfl, Nat.le_of_ble_eq_true rfl⟩ hK hP.1 rfl hP rfl hl.1 rfl (Nat.le_of_ble_eq_true rfl) d_La_acts_341 ⟨Nat.le_of_ble_eq_true rfl, Nat.le_of_ble_eq_true rfl⟩ (g_r rfl ?_)
        refine lv_istore (lv' := [(12, .int (nI v)), (4, .int (nI ((X.1.2 11).1))), (3, .int (nI li)), (2, .int (nI co)), (0, .ref x), (1, .int (nI cz))]) hx hb d_La_acts_344 hl (by decide) rfl (fun ls hl => ?_)
        refine lv_aload_n hx hb d_La_acts_346 rfl (lv_at hl 4 rfl) ?_
        refine lv_iload_n hx hb d_La_acts_347 rfl (lv_at hl 3 rfl) ?_
        refine g_V C0 (g_valw (v' := (-4)) (X' := X) (k_Ga_storm l G x X (nI co) hX) (stm_f hc hnx h16e)) co_Ga_storm im_Ga_storm se_Ga_storm in_Ga gc_Ga_storm ml_La_70 ⟨Nat.le_of_ble_eq_true rfl, Nat.le_of_ble_eq_true rfl⟩ hK hP.1 rfl hP rfl hl.1 rfl (Nat.le_of_ble_eq_true rfl) d_La_acts_348 ⟨Nat.le_of_ble_eq_true rfl, Nat.le_of_ble_eq_true rfl⟩ (g_wi (free := gRg x (x + 262)) (t_nil (free := gRg x (x + 262))) (fun _ h => h) (fun H_4 locs hL ⟨hR_5, hf_6⟩ => ?_))
        refine lv_istore (lv' := [(13, .int (-4)), (12, .int (nI v)), (4, .int (nI ((X.1.2 11).1))), (3, .int (nI li)), (2, .int (nI co)), (0, .ref x), (1, .int (nI cz))]) hx hb d_La_acts_351 hl (by decide) rfl (fun ls hl => ?_)
        refine lv_iload hx hb d_La_acts_353 (lv_at hl 1 rfl) ?_
        refine lv_if_ge (tgt := 373) hx hb d_La_acts_355 (by decide) (fun c_355 => ?_) (fun c_355 => ?_)
        · skip
          refine lv_iload hx hb d_La_acts_373 (lv_at hl 2 rfl) ?_
          refine lv_bipush (v := nI 16) hx hb d_La_acts_375 (by decide +kernel) ?_
          refine g_cne (tgt := 395) C0 d_La_acts_377 (by decide) (by omega) (by omega) (fun c_377 => ?_) (fun c_377 => ?_)
          · exact absurd h16e c_377
          · skip
            refine lv_iload hx hb d_La_acts_380 (lv_at hl 0 rfl) ?_
            refine lv_bipush (v := -4) hx hb d_La_acts_382 (by decide +kernel) ?_
            refine lv_icmp_ne (tgt := 391) hx hb d_La_acts_384 (by decide) (fun c_384 => ?_) (fun c_384 => ?_)
            · exact absurd rfl c_384
            · skip
              refine lv_iconst (v := nI 1) hx hb d_La_acts_387 (by decide +kernel) ?_
              refine lv_goto (tgt := 440) hx hb d_La_acts_388 (by decide) ?_
              refine g_zret (b := true) C0 hlk hr d_La_acts_440 hL ?_
              exact ⟨rfl, X, hR_5, hJ.mono (by omega), (gFr.rf.tr hf_6)⟩
        · exact absurd (nI_ge0 (by omega)) c_355
      · skip
        have hvn := (nxN_v hI hc hnx).1
        obtain ⟨Z, hz, hJZ, hzn, hz11, hz12, hz13⟩ := stm_s hJ hc hnx h16e
        refine lv_aload_n hx hb d_La_acts_339 rfl (lv_at hl 3 rfl) ?_
        refine lv_iload_n hx hb d_La_acts_340 rfl (lv_at hl 2 rfl) ?_
        refine g_V C0 (g_val (v' := (nI v)) (k_Ga_next l G x X (nI co) hX) (by rw [nx_v hc, hnx]; rfl)) co_Ga_next im_Ga_next se_Ga_next in_Ga gc_Ga_next ml_La_48 ⟨Nat.le_of_ble_eq_true rfl, Nat.le_of_ble_eq_true rfl⟩ hK hP.1 rfl hP rfl hl.1 rfl (Nat.le_of_ble_eq_true rfl) d_La_acts_341 ⟨Nat.le_of_ble_eq_true rfl, Nat.le_of_ble_eq_true rfl⟩ (g_r rfl ?_)
        refine lv_istore (lv' := [(12, .int (nI v)), (4, .int (nI ((X.1.2 11).1))), (3, .int (nI li)), (2, .int (nI co)), (0, .ref x), (1, .int (nI cz))]) hx hb d_La_acts_344 hl (by decide) rfl (fun ls hl => ?_)
        refine lv_aload_n hx hb d_La_acts_346 rfl (lv_at hl 4 rfl) ?_
        refine lv_iload_n hx hb d_La_acts_347 rfl (lv_at hl 3 rfl) ?_
        have hOZ := hJZ.ok (by omega)
        refine g_V C0 (g_valw (v' := (nI ((X.1.2 11).1))) (X' := Z) (k_Ga_storm l G x X (nI co) hX) hz) co_Ga_storm im_Ga_storm se_Ga_storm in_Ga gc_Ga_storm ml_La_70 ⟨Nat.le_of_ble_eq_true rfl, Nat.le_of_ble_eq_true rfl⟩ hK hP.1 rfl hP rfl hl.1 rfl (Nat.le_of_ble_eq_true rfl) d_La_acts_348 ⟨Nat.le_of_ble_eq_true rfl, Nat.le_of_ble_eq_true rfl⟩ (g_wi (free := gRg x (x + 262)) (t_nil (free := gRg x (x + 262))) (fun _ h => h) (fun H_7 locs hL ⟨hR_8, hf_9⟩ => ?_))
        refine lv_istore (lv' := [(13, .int (nI ((X.1.2 11).1))), (12, .int (nI v)), (4, .int (nI ((X.1.2 11).1))), (3, .int (nI li)), (2, .int (nI co)), (0, .ref x), (1, .int (nI cz))]) hx hb d_La_acts_351 hl (by decide) rfl (fun ls hl => ?_)
        refine lv_iload hx hb d_La_acts_353 (lv_at hl 1 rfl) ?_
        refine lv_if_ge (tgt := 373) hx hb d_La_acts_355 (by decide) (fun c_355 => ?_) (fun c_355 => ?_)
        · skip
          refine lv_iload hx hb d_La_acts_373 (lv_at hl 2 rfl) ?_
          refine lv_bipush (v := nI 16) hx hb d_La_acts_375 (by decide +kernel) ?_
          refine g_cne (tgt := 395) C0 d_La_acts_377 (by decide) (by omega) (by omega) (fun c_377 => ?_) (fun c_377 => ?_)
          · skip
            refine lv_iload hx hb d_La_acts_395 (lv_at hl 0 rfl) ?_
            refine lv_iload hx hb d_La_acts_397 (lv_at hl 2 rfl) ?_
            refine lv_icmp_ne (tgt := 439) hx hb d_La_acts_399 (by decide) (fun c_399 => ?_) (fun c_399 => ?_)
            · exact absurd rfl c_399
            · skip
              refine lv_aload_n hx hb d_La_acts_402 rfl (lv_at hl 5 rfl) ?_
              refine lv_iload hx hb d_La_acts_403 (lv_at hl 0 rfl) ?_
              refine lv_iconst (v := nI 0) hx hb d_La_acts_405 (by decide +kernel) ?_
              refine g_V C0 (g_val (v' := (nI v)) (k_Ga_ofStorm l G x Z (nI ((X.1.2 11).1)) (nI 0) hOZ) (by rw [st_0 hJZ.1 (by omega), hz11])) co_Ga_ofStorm im_Ga_ofStorm se_Ga_ofStorm in_Ga gc_Ga_ofStorm ml_La_42 ⟨Nat.le_of_ble_eq_true rfl, Nat.le_of_ble_eq_true rfl⟩ hK hR_8.1 rfl hR_8 rfl hl.1 rfl (Nat.le_of_ble_eq_true rfl) d_La_acts_406 ⟨Nat.le_of_ble_eq_true rfl, Nat.le_of_ble_eq_true rfl⟩ (g_r rfl ?_)
              refine lv_iload hx hb d_La_acts_409 (lv_at hl 1 rfl) ?_
              refine lv_icmp_ne (tgt := 439) hx hb d_La_acts_411 (by decide) (fun c_411 => ?_) (fun c_411 => ?_)
              · exact absurd rfl c_411
              · skip
                refine lv_aload_n hx hb d_La_acts_414 rfl (lv_at hl 5 rfl) ?_
                refine lv_iload hx hb d_La_acts_415 (lv_at hl 0 rfl) ?_
                refine lv_iconst (v := nI 1) hx hb d_La_acts_417 (by decide +kernel) ?_
                refine g_V C0 (g_val (v' := (nI co)) (k_Ga_ofStorm l G x Z (nI ((X.1.2 11).1)) (nI 1) hOZ) (by rw [st_1 hJZ.1 (by omega), hz12])) co_Ga_ofStorm im_Ga_ofStorm se_Ga_ofStorm in_Ga gc_Ga_ofStorm ml_La_42 ⟨Nat.le_of_ble_eq_true rfl, Nat.le_of_ble_eq_true rfl⟩ hK hR_8.1 rfl hR_8 rfl hl.1 rfl (Nat.le_of_ble_eq_true rfl) d_La_acts_418 ⟨Nat.le_of_ble_eq_true rfl, Nat.le_of_ble_eq_true rfl⟩ (g_r rfl ?_)
                refine lv_iload_n hx hb d_La_acts_421 rfl (lv_at hl 4 rfl) ?_
                refine lv_icmp_ne (tgt := 439) hx hb d_La_acts_422 (by decide) (fun c_422 => ?_) (fun c_422 => ?_)
                · exact absurd rfl c_422
                · skip
                  refine lv_aload_n hx hb d_La_acts_425 rfl (lv_at hl 5 rfl) ?_
                  refine lv_iload hx hb d_La_acts_426 (lv_at hl 0 rfl) ?_
                  refine lv_iconst (v := nI 2) hx hb d_La_acts_428 (by decide +kernel) ?_
                  refine g_V C0 (g_val (v' := (nI 0)) (k_Ga_ofStorm l G x Z (nI ((X.1.2 11).1)) (nI 2) hOZ) (by rw [st_2 hJZ.1 (by omega), hz13])) co_Ga_ofStorm im_Ga_ofStorm se_Ga_ofStorm in_Ga gc_Ga_ofStorm ml_La_42 ⟨Nat.le_of_ble_eq_true rfl, Nat.le_of_ble_eq_true rfl⟩ hK hR_8.1 rfl hR_8 rfl hl.1 rfl (Nat.le_of_ble_eq_true rfl) d_La_acts_429 ⟨Nat.le_of_ble_eq_true rfl, Nat.le_of_ble_eq_true rfl⟩ (g_r rfl ?_)
                  refine lv_if_ne (tgt := 439) hx hb d_La_acts_432 (by decide) (fun c_432 => ?_) (fun c_432 => ?_)
                  · first | exact absurd c_432 (by decide) | exact absurd rfl c_432
                  · skip
                    refine lv_iconst (v := nI 1) hx hb d_La_acts_435 (by decide +kernel) ?_
                    refine lv_goto (tgt := 440) hx hb d_La_acts_436 (by decide) ?_
                    refine g_zret (b := true) C0 hlk hr d_La_acts_440 hL ?_
                    exact ⟨rfl, Z, hR_8, hJZ.mono (by omega), (gFr.rf.tr hf_9)⟩
          · exact absurd c_377 h16e
        · exact absurd (nI_ge0 (by omega)) c_355
    · rw [het]
      refine lv_tableIn (tgt := 339) hx hb d_La_acts_23 (by decide +kernel) (by decide +kernel) (show _ = some _ from rfl) (by decide +kernel) ?_
      rcases stm_or X co with hnx | ⟨v, hnx, h16e⟩ | ⟨v, hnx, h16e⟩
      · skip
        refine lv_aload_n hx hb d_La_acts_339 rfl (lv_at hl 3 rfl) ?_
        refine lv_iload_n hx hb d_La_acts_340 rfl (lv_at hl 2 rfl) ?_
        refine g_V C0 (g_val (v' := (-6)) (k_Ga_next l G x X (nI co) hX) (by rw [nx_v hc, hnx]; rfl)) co_Ga_next im_Ga_next se_Ga_next in_Ga gc_Ga_next ml_La_48 ⟨Nat.le_of_ble_eq_true rfl, Nat.le_of_ble_eq_true rfl⟩ hK hP.1 rfl hP rfl hl.1 rfl (Nat.le_of_ble_eq_true rfl) d_La_acts_341 ⟨Nat.le_of_ble_eq_true rfl, Nat.le_of_ble_eq_true rfl⟩ (g_r rfl ?_)
        refine lv_istore (lv' := [(12, .int (-6)), (4, .int (nI ((X.1.2 11).1))), (3, .int (nI li)), (2, .int (nI co)), (0, .ref x), (1, .int (nI cz))]) hx hb d_La_acts_344 hl (by decide) rfl (fun ls hl => ?_)
        refine lv_aload_n hx hb d_La_acts_346 rfl (lv_at hl 4 rfl) ?_
        refine lv_iload_n hx hb d_La_acts_347 rfl (lv_at hl 3 rfl) ?_
        refine g_V C0 (g_valw (v' := (-5)) (X' := X) (k_Ga_storm l G x X (nI co) hX) (stm_n hc hnx)) co_Ga_storm im_Ga_storm se_Ga_storm in_Ga gc_Ga_storm ml_La_70 ⟨Nat.le_of_ble_eq_true rfl, Nat.le_of_ble_eq_true rfl⟩ hK hP.1 rfl hP rfl hl.1 rfl (Nat.le_of_ble_eq_true rfl) d_La_acts_348 ⟨Nat.le_of_ble_eq_true rfl, Nat.le_of_ble_eq_true rfl⟩ (g_wi (free := gRg x (x + 262)) (t_nil (free := gRg x (x + 262))) (fun _ h => h) (fun H_10 locs hL ⟨hR_11, hf_12⟩ => ?_))
        refine lv_istore (lv' := [(13, .int (-5)), (12, .int (-6)), (4, .int (nI ((X.1.2 11).1))), (3, .int (nI li)), (2, .int (nI co)), (0, .ref x), (1, .int (nI cz))]) hx hb d_La_acts_351 hl (by decide) rfl (fun ls hl => ?_)
        refine lv_iload hx hb d_La_acts_353 (lv_at hl 1 rfl) ?_
        refine lv_if_ge (tgt := 373) hx hb d_La_acts_355 (by decide) (fun c_355 => ?_) (fun c_355 => ?_)
        · exact absurd c_355 (by decide)
        · skip
          refine lv_iload hx hb d_La_acts_358 (lv_at hl 0 rfl) ?_
          refine lv_bipush (v := -5) hx hb d_La_acts_360 (by decide +kernel) ?_
          refine lv_icmp_ne (tgt := 369) hx hb d_La_acts_362 (by decide) (fun c_362 => ?_) (fun c_362 => ?_)
          · exact absurd rfl c_362
          · skip
            refine lv_iconst (v := nI 1) hx hb d_La_acts_365 (by decide +kernel) ?_
            refine lv_goto (tgt := 440) hx hb d_La_acts_366 (by decide) ?_
            refine g_zret (b := true) C0 hlk hr d_La_acts_440 hL ?_
            exact ⟨rfl, X, hR_11, hJ.mono (by omega), (gFr.rf.tr hf_12)⟩
      · skip
        have hvn := (nxN_v hI hc hnx).1
        refine lv_aload_n hx hb d_La_acts_339 rfl (lv_at hl 3 rfl) ?_
        refine lv_iload_n hx hb d_La_acts_340 rfl (lv_at hl 2 rfl) ?_
        refine g_V C0 (g_val (v' := (nI v)) (k_Ga_next l G x X (nI co) hX) (by rw [nx_v hc, hnx]; rfl)) co_Ga_next im_Ga_next se_Ga_next in_Ga gc_Ga_next ml_La_48 ⟨Nat.le_of_ble_eq_true rfl, Nat.le_of_ble_eq_true rfl⟩ hK hP.1 rfl hP rfl hl.1 rfl (Nat.le_of_ble_eq_true rfl) d_La_acts_341 ⟨Nat.le_of_ble_eq_true rfl, Nat.le_of_ble_eq_true rfl⟩ (g_r rfl ?_)
        refine lv_istore (lv' := [(12, .int (nI v)), (4, .int (nI ((X.1.2 11).1))), (3, .int (nI li)), (2, .int (nI co)), (0, .ref x), (1, .int (nI cz))]) hx hb d_La_acts_344 hl (by decide) rfl (fun ls hl => ?_)
        refine lv_aload_n hx hb d_La_acts_346 rfl (lv_at hl 4 rfl) ?_
        refine lv_iload_n hx hb d_La_acts_347 rfl (lv_at hl 3 rfl) ?_
        refine g_V C0 (g_valw (v' := (-4)) (X' := X) (k_Ga_storm l G x X (nI co) hX) (stm_f hc hnx h16e)) co_Ga_storm im_Ga_storm se_Ga_storm in_Ga gc_Ga_storm ml_La_70 ⟨Nat.le_of_ble_eq_true rfl, Nat.le_of_ble_eq_true rfl⟩ hK hP.1 rfl hP rfl hl.1 rfl (Nat.le_of_ble_eq_true rfl) d_La_acts_348 ⟨Nat.le_of_ble_eq_true rfl, Nat.le_of_ble_eq_true rfl⟩ (g_wi (free := gRg x (x + 262)) (t_nil (free := gRg x (x + 262))) (fun _ h => h) (fun H_13 locs hL ⟨hR_14, hf_15⟩ => ?_))
        refine lv_istore (lv' := [(13, .int (-4)), (12, .int (nI v)), (4, .int (nI ((X.1.2 11).1))), (3, .int (nI li)), (2, .int (nI co)), (0, .ref x), (1, .int (nI cz))]) hx hb d_La_acts_351 hl (by decide) rfl (fun ls hl => ?_)
        refine lv_iload hx hb d_La_acts_353 (lv_at hl 1 rfl) ?_
        refine lv_if_ge (tgt := 373) hx hb d_La_acts_355 (by decide) (fun c_355 => ?_) (fun c_355 => ?_)
        · skip
          refine lv_iload hx hb d_La_acts_373 (lv_at hl 2 rfl) ?_
          refine lv_bipush (v := nI 16) hx hb d_La_acts_375 (by decide +kernel) ?_
          refine g_cne (tgt := 395) C0 d_La_acts_377 (by decide) (by omega) (by omega) (fun c_377 => ?_) (fun c_377 => ?_)
          · exact absurd h16e c_377
          · skip
            refine lv_iload hx hb d_La_acts_380 (lv_at hl 0 rfl) ?_
            refine lv_bipush (v := -4) hx hb d_La_acts_382 (by decide +kernel) ?_
            refine lv_icmp_ne (tgt := 391) hx hb d_La_acts_384 (by decide) (fun c_384 => ?_) (fun c_384 => ?_)
            · exact absurd rfl c_384
            · skip
              refine lv_iconst (v := nI 1) hx hb d_La_acts_387 (by decide +kernel) ?_
              refine lv_goto (tgt := 440) hx hb d_La_acts_388 (by decide) ?_
              refine g_zret (b := true) C0 hlk hr d_La_acts_440 hL ?_
              exact ⟨rfl, X, hR_14, hJ.mono (by omega), (gFr.rf.tr hf_15)⟩
        · exact absurd (nI_ge0 (by omega)) c_355
      · skip
        have hvn := (nxN_v hI hc hnx).1
        obtain ⟨Z, hz, hJZ, hzn, hz11, hz12, hz13⟩ := stm_s hJ hc hnx h16e
        refine lv_aload_n hx hb d_La_acts_339 rfl (lv_at hl 3 rfl) ?_
        refine lv_iload_n hx hb d_La_acts_340 rfl (lv_at hl 2 rfl) ?_
        refine g_V C0 (g_val (v' := (nI v)) (k_Ga_next l G x X (nI co) hX) (by rw [nx_v hc, hnx]; rfl)) co_Ga_next im_Ga_next se_Ga_next in_Ga gc_Ga_next ml_La_48 ⟨Nat.le_of_ble_eq_true rfl, Nat.le_of_ble_eq_true rfl⟩ hK hP.1 rfl hP rfl hl.1 rfl (Nat.le_of_ble_eq_true rfl) d_La_acts_341 ⟨Nat.le_of_ble_eq_true rfl, Nat.le_of_ble_eq_true rfl⟩ (g_r rfl ?_)
        refine lv_istore (lv' := [(12, .int (nI v)), (4, .int (nI ((X.1.2 11).1))), (3, .int (nI li)), (2, .int (nI co)), (0, .ref x), (1, .int (nI cz))]) hx hb d_La_acts_344 hl (by decide) rfl (fun ls hl => ?_)
        refine lv_aload_n hx hb d_La_acts_346 rfl (lv_at hl 4 rfl) ?_
        refine lv_iload_n hx hb d_La_acts_347 rfl (lv_at hl 3 rfl) ?_
        have hOZ := hJZ.ok (by omega)
        refine g_V C0 (g_valw (v' := (nI ((X.1.2 11).1))) (X' := Z) (k_Ga_storm l G x X (nI co) hX) hz) co_Ga_storm im_Ga_storm se_Ga_storm in_Ga gc_Ga_storm ml_La_70 ⟨Nat.le_of_ble_eq_true rfl, Nat.le_of_ble_eq_true rfl⟩ hK hP.1 rfl hP rfl hl.1 rfl (Nat.le_of_ble_eq_true rfl) d_La_acts_348 ⟨Nat.le_of_ble_eq_true rfl, Nat.le_of_ble_eq_true rfl⟩ (g_wi (free := gRg x (x + 262)) (t_nil (free := gRg x (x + 262))) (fun _ h => h) (fun H_16 locs hL ⟨hR_17, hf_18⟩ => ?_))
        refine lv_istore (lv' := [(13, .int (nI ((X.1.2 11).1))), (12, .int (nI v)), (4, .int (nI ((X.1.2 11).1))), (3, .int (nI li)), (2, .int (nI co)), (0, .ref x), (1, .int (nI cz))]) hx hb d_La_acts_351 hl (by decide) rfl (fun ls hl => ?_)
        refine lv_iload hx hb d_La_acts_353 (lv_at hl 1 rfl) ?_
        refine lv_if_ge (tgt := 373) hx hb d_La_acts_355 (by decide) (fun c_355 => ?_) (fun c_355 => ?_)
        · skip
          refine lv_iload hx hb d_La_acts_373 (lv_at hl 2 rfl) ?_
          refine lv_bipush (v := nI 16) hx hb d_La_acts_375 (by decide +kernel) ?_
          refine g_cne (tgt := 395) C0 d_La_acts_377 (by decide) (by omega) (by omega) (fun c_377 => ?_) (fun c_377 => ?_)
          · skip
            refine lv_iload hx hb d_La_acts_395 (lv_at hl 0 rfl) ?_
            refine lv_iload hx hb d_La_acts_397 (lv_at hl 2 rfl) ?_
            refine lv_icmp_ne (tgt := 439) hx hb d_La_acts_399 (by decide) (fun c_399 => ?_) (fun c_399 => ?_)
            · exact absurd rfl c_399
            · skip
              refine lv_aload_n hx hb d_La_acts_402 rfl (lv_at hl 5 rfl) ?_
              refine lv_iload hx hb d_La_acts_403 (lv_at hl 0 rfl) ?_
              refine lv_iconst (v := nI 0) hx hb d_La_acts_405 (by decide +kernel) ?_
              refine g_V C0 (g_val (v' := (nI v)) (k_Ga_ofStorm l G x Z (nI ((X.1.2 11).1)) (nI 0) hOZ) (by rw [st_0 hJZ.1 (by omega), hz11])) co_Ga_ofStorm im_Ga_ofStorm se_Ga_ofStorm in_Ga gc_Ga_ofStorm ml_La_42 ⟨Nat.le_of_ble_eq_true rfl, Nat.le_of_ble_eq_true rfl⟩ hK hR_17.1 rfl hR_17 rfl hl.1 rfl (Nat.le_of_ble_eq_true rfl) d_La_acts_406 ⟨Nat.le_of_ble_eq_true rfl, Nat.le_of_ble_eq_true rfl⟩ (g_r rfl ?_)
              refine lv_iload hx hb d_La_acts_409 (lv_at hl 1 rfl) ?_
              refine lv_icmp_ne (tgt := 439) hx hb d_La_acts_411 (by decide) (fun c_411 => ?_) (fun c_411 => ?_)
              · exact absurd rfl c_411
              · skip
                refine lv_aload_n hx hb d_La_acts_414 rfl (lv_at hl 5 rfl) ?_
                refine lv_iload hx hb d_La_acts_415 (lv_at hl 0 rfl) ?_
                refine lv_iconst (v := nI 1) hx hb d_La_acts_417 (by decide +kernel) ?_
                refine g_V C0 (g_val (v' := (nI co)) (k_Ga_ofStorm l G x Z (nI ((X.1.2 11).1)) (nI 1) hOZ) (by rw [st_1 hJZ.1 (by omega), hz12])) co_Ga_ofStorm im_Ga_ofStorm se_Ga_ofStorm in_Ga gc_Ga_ofStorm ml_La_42 ⟨Nat.le_of_ble_eq_true rfl, Nat.le_of_ble_eq_true rfl⟩ hK hR_17.1 rfl hR_17 rfl hl.1 rfl (Nat.le_of_ble_eq_true rfl) d_La_acts_418 ⟨Nat.le_of_ble_eq_true rfl, Nat.le_of_ble_eq_true rfl⟩ (g_r rfl ?_)
                refine lv_iload_n hx hb d_La_acts_421 rfl (lv_at hl 4 rfl) ?_
                refine lv_icmp_ne (tgt := 439) hx hb d_La_acts_422 (by decide) (fun c_422 => ?_) (fun c_422 => ?_)
                · exact absurd rfl c_422
                · skip
                  refine lv_aload_n hx hb d_La_acts_425 rfl (lv_at hl 5 rfl) ?_
                  refine lv_iload hx hb d_La_acts_426 (lv_at hl 0 rfl) ?_
                  refine lv_iconst (v := nI 2) hx hb d_La_acts_428 (by decide +kernel) ?_
                  refine g_V C0 (g_val (v' := (nI 0)) (k_Ga_ofStorm l G x Z (nI ((X.1.2 11).1)) (nI 2) hOZ) (by rw [st_2 hJZ.1 (by omega), hz13])) co_Ga_ofStorm im_Ga_ofStorm se_Ga_ofStorm in_Ga gc_Ga_ofStorm ml_La_42 ⟨Nat.le_of_ble_eq_true rfl, Nat.le_of_ble_eq_true rfl⟩ hK hR_17.1 rfl hR_17 rfl hl.1 rfl (Nat.le_of_ble_eq_true rfl) d_La_acts_429 ⟨Nat.le_of_ble_eq_true rfl, Nat.le_of_ble_eq_true rfl⟩ (g_r rfl ?_)
                  refine lv_if_ne (tgt := 439) hx hb d_La_acts_432 (by decide) (fun c_432 => ?_) (fun c_432 => ?_)
                  · first | exact absurd c_432 (by decide) | exact absurd rfl c_432
                  · skip
                    refine lv_iconst (v := nI 1) hx hb d_La_acts_435 (by decide +kernel) ?_
                    refine lv_goto (tgt := 440) hx hb d_La_acts_436 (by decide) ?_
                    refine g_zret (b := true) C0 hlk hr d_La_acts_440 hL ?_
                    exact ⟨rfl, Z, hR_17, hJZ.mono (by omega), (gFr.rf.tr hf_18)⟩
          · exact absurd c_377 h16e
        · exact absurd (nI_ge0 (by omega)) c_355
    · rw [het]
      refine lv_tableIn (tgt := 339) hx hb d_La_acts_23 (by decide +kernel) (by decide +kernel) (show _ = some _ from rfl) (by decide +kernel) ?_
      rcases stm_or X co with hnx | ⟨v, hnx, h16e⟩ | ⟨v, hnx, h16e⟩
      · skip
        refine lv_aload_n hx hb d_La_acts_339 rfl (lv_at hl 3 rfl) ?_
        refine lv_iload_n hx hb d_La_acts_340 rfl (lv_at hl 2 rfl) ?_
        refine g_V C0 (g_val (v' := (-6)) (k_Ga_next l G x X (nI co) hX) (by rw [nx_v hc, hnx]; rfl)) co_Ga_next im_Ga_next se_Ga_next in_Ga gc_Ga_next ml_La_48 ⟨Nat.le_of_ble_eq_true rfl, Nat.le_of_ble_eq_true rfl⟩ hK hP.1 rfl hP rfl hl.1 rfl (Nat.le_of_ble_eq_true rfl) d_La_acts_341 ⟨Nat.le_of_ble_eq_true rfl, Nat.le_of_ble_eq_true rfl⟩ (g_r rfl ?_)
        refine lv_istore (lv' := [(12, .int (-6)), (4, .int (nI ((X.1.2 11).1))), (3, .int (nI li)), (2, .int (nI co)), (0, .ref x), (1, .int (nI cz))]) hx hb d_La_acts_344 hl (by decide) rfl (fun ls hl => ?_)
        refine lv_aload_n hx hb d_La_acts_346 rfl (lv_at hl 4 rfl) ?_
        refine lv_iload_n hx hb d_La_acts_347 rfl (lv_at hl 3 rfl) ?_
        refine g_V C0 (g_valw (v' := (-5)) (X' := X) (k_Ga_storm l G x X (nI co) hX) (stm_n hc hnx)) co_Ga_storm im_Ga_storm se_Ga_storm in_Ga gc_Ga_storm ml_La_70 ⟨Nat.le_of_ble_eq_true rfl, Nat.le_of_ble_eq_true rfl⟩ hK hP.1 rfl hP rfl hl.1 rfl (Nat.le_of_ble_eq_true rfl) d_La_acts_348 ⟨Nat.le_of_ble_eq_true rfl, Nat.le_of_ble_eq_true rfl⟩ (g_wi (free := gRg x (x + 262)) (t_nil (free := gRg x (x + 262))) (fun _ h => h) (fun H_19 locs hL ⟨hR_20, hf_21⟩ => ?_))
        refine lv_istore (lv' := [(13, .int (-5)), (12, .int (-6)), (4, .int (nI ((X.1.2 11).1))), (3, .int (nI li)), (2, .int (nI co)), (0, .ref x), (1, .int (nI cz))]) hx hb d_La_acts_351 hl (by decide) rfl (fun ls hl => ?_)
        refine lv_iload hx hb d_La_acts_353 (lv_at hl 1 rfl) ?_
        refine lv_if_ge (tgt := 373) hx hb d_La_acts_355 (by decide) (fun c_355 => ?_) (fun c_355 => ?_)
        · exact absurd c_355 (by decide)
        · skip
          refine lv_iload hx hb d_La_acts_358 (lv_at hl 0 rfl) ?_
          refine lv_bipush (v := -5) hx hb d_La_acts_360 (by decide +kernel) ?_
          refine lv_icmp_ne (tgt := 369) hx hb d_La_acts_362 (by decide) (fun c_362 => ?_) (fun c_362 => ?_)
          · exact absurd rfl c_362
          · skip
            refine lv_iconst (v := nI 1) hx hb d_La_acts_365 (by decide +kernel) ?_
            refine lv_goto (tgt := 440) hx hb d_La_acts_366 (by decide) ?_
            refine g_zret (b := true) C0 hlk hr d_La_acts_440 hL ?_
            exact ⟨rfl, X, hR_20, hJ.mono (by omega), (gFr.rf.tr hf_21)⟩
      · skip
        have hvn := (nxN_v hI hc hnx).1
        refine lv_aload_n hx hb d_La_acts_339 rfl (lv_at hl 3 rfl) ?_
        refine lv_iload_n hx hb d_La_acts_340 rfl (lv_at hl 2 rfl) ?_
        refine g_V C0 (g_val (v' := (nI v)) (k_Ga_next l G x X (nI co) hX) (by rw [nx_v hc, hnx]; rfl)) co_Ga_next im_Ga_next se_Ga_next in_Ga gc_Ga_next ml_La_48 ⟨Nat.le_of_ble_eq_true rfl, Nat.le_of_ble_eq_true rfl⟩ hK hP.1 rfl hP rfl hl.1 rfl (Nat.le_of_ble_eq_true rfl) d_La_acts_341 ⟨Nat.le_of_ble_eq_true rfl, Nat.le_of_ble_eq_true rfl⟩ (g_r rfl ?_)
        refine lv_istore (lv' := [(12, .int (nI v)), (4, .int (nI ((X.1.2 11).1))), (3, .int (nI li)), (2, .int (nI co)), (0, .ref x), (1, .int (nI cz))]) hx hb d_La_acts_344 hl (by decide) rfl (fun ls hl => ?_)
        refine lv_aload_n hx hb d_La_acts_346 rfl (lv_at hl 4 rfl) ?_
        refine lv_iload_n hx hb d_La_acts_347 rfl (lv_at hl 3 rfl) ?_
        refine g_V C0 (g_valw (v' := (-4)) (X' := X) (k_Ga_storm l G x X (nI co) hX) (stm_f hc hnx h16e)) co_Ga_storm im_Ga_storm se_Ga_storm in_Ga gc_Ga_storm ml_La_70 ⟨Nat.le_of_ble_eq_true rfl, Nat.le_of_ble_eq_true rfl⟩ hK hP.1 rfl hP rfl hl.1 rfl (Nat.le_of_ble_eq_true rfl) d_La_acts_348 ⟨Nat.le_of_ble_eq_true rfl, Nat.le_of_ble_eq_true rfl⟩ (g_wi (free := gRg x (x + 262)) (t_nil (free := gRg x (x + 262))) (fun _ h => h) (fun H_22 locs hL ⟨hR_23, hf_24⟩ => ?_))
        refine lv_istore (lv' := [(13, .int (-4)), (12, .int (nI v)), (4, .int (nI ((X.1.2 11).1))), (3, .int (nI li)), (2, .int (nI co)), (0, .ref x), (1, .int (nI cz))]) hx hb d_La_acts_351 hl (by decide) rfl (fun ls hl => ?_)
        refine lv_iload hx hb d_La_acts_353 (lv_at hl 1 rfl) ?_
        refine lv_if_ge (tgt := 373) hx hb d_La_acts_355 (by decide) (fun c_355 => ?_) (fun c_355 => ?_)
        · skip
          refine lv_iload hx hb d_La_acts_373 (lv_at hl 2 rfl) ?_
          refine lv_bipush (v := nI 16) hx hb d_La_acts_375 (by decide +kernel) ?_
          refine g_cne (tgt := 395) C0 d_La_acts_377 (by decide) (by omega) (by omega) (fun c_377 => ?_) (fun c_377 => ?_)
          · exact absurd h16e c_377
          · skip
            refine lv_iload hx hb d_La_acts_380 (lv_at hl 0 rfl) ?_
            refine lv_bipush (v := -4) hx hb d_La_acts_382 (by decide +kernel) ?_
            refine lv_icmp_ne (tgt := 391) hx hb d_La_acts_384 (by decide) (fun c_384 => ?_) (fun c_384 => ?_)
            · exact absurd rfl c_384
            · skip
              refine lv_iconst (v := nI 1) hx hb d_La_acts_387 (by decide +kernel) ?_
              refine lv_goto (tgt := 440) hx hb d_La_acts_388 (by decide) ?_
              refine g_zret (b := true) C0 hlk hr d_La_acts_440 hL ?_
              exact ⟨rfl, X, hR_23, hJ.mono (by omega), (gFr.rf.tr hf_24)⟩
        · exact absurd (nI_ge0 (by omega)) c_355
      · skip
        have hvn := (nxN_v hI hc hnx).1
        obtain ⟨Z, hz, hJZ, hzn, hz11, hz12, hz13⟩ := stm_s hJ hc hnx h16e
        refine lv_aload_n hx hb d_La_acts_339 rfl (lv_at hl 3 rfl) ?_
        refine lv_iload_n hx hb d_La_acts_340 rfl (lv_at hl 2 rfl) ?_
        refine g_V C0 (g_val (v' := (nI v)) (k_Ga_next l G x X (nI co) hX) (by rw [nx_v hc, hnx]; rfl)) co_Ga_next im_Ga_next se_Ga_next in_Ga gc_Ga_next ml_La_48 ⟨Nat.le_of_ble_eq_true rfl, Nat.le_of_ble_eq_true rfl⟩ hK hP.1 rfl hP rfl hl.1 rfl (Nat.le_of_ble_eq_true rfl) d_La_acts_341 ⟨Nat.le_of_ble_eq_true rfl, Nat.le_of_ble_eq_true rfl⟩ (g_r rfl ?_)
        refine lv_istore (lv' := [(12, .int (nI v)), (4, .int (nI ((X.1.2 11).1))), (3, .int (nI li)), (2, .int (nI co)), (0, .ref x), (1, .int (nI cz))]) hx hb d_La_acts_344 hl (by decide) rfl (fun ls hl => ?_)
        refine lv_aload_n hx hb d_La_acts_346 rfl (lv_at hl 4 rfl) ?_
        refine lv_iload_n hx hb d_La_acts_347 rfl (lv_at hl 3 rfl) ?_
        have hOZ := hJZ.ok (by omega)
        refine g_V C0 (g_valw (v' := (nI ((X.1.2 11).1))) (X' := Z) (k_Ga_storm l G x X (nI co) hX) hz) co_Ga_storm im_Ga_storm se_Ga_storm in_Ga gc_Ga_storm ml_La_70 ⟨Nat.le_of_ble_eq_true rfl, Nat.le_of_ble_eq_true rfl⟩ hK hP.1 rfl hP rfl hl.1 rfl (Nat.le_of_ble_eq_true rfl) d_La_acts_348 ⟨Nat.le_of_ble_eq_true rfl, Nat.le_of_ble_eq_true rfl⟩ (g_wi (free := gRg x (x + 262)) (t_nil (free := gRg x (x + 262))) (fun _ h => h) (fun H_25 locs hL ⟨hR_26, hf_27⟩ => ?_))
        refine lv_istore (lv' := [(13, .int (nI ((X.1.2 11).1))), (12, .int (nI v)), (4, .int (nI ((X.1.2 11).1))), (3, .int (nI li)), (2, .int (nI co)), (0, .ref x), (1, .int (nI cz))]) hx hb d_La_acts_351 hl (by decide) rfl (fun ls hl => ?_)
        refine lv_iload hx hb d_La_acts_353 (lv_at hl 1 rfl) ?_
        refine lv_if_ge (tgt := 373) hx hb d_La_acts_355 (by decide) (fun c_355 => ?_) (fun c_355 => ?_)
        · skip
          refine lv_iload hx hb d_La_acts_373 (lv_at hl 2 rfl) ?_
          refine lv_bipush (v := nI 16) hx hb d_La_acts_375 (by decide +kernel) ?_
          refine g_cne (tgt := 395) C0 d_La_acts_377 (by decide) (by omega) (by omega) (fun c_377 => ?_) (fun c_377 => ?_)
          · skip
            refine lv_iload hx hb d_La_acts_395 (lv_at hl 0 rfl) ?_
            refine lv_iload hx hb d_La_acts_397 (lv_at hl 2 rfl) ?_
            refine lv_icmp_ne (tgt := 439) hx hb d_La_acts_399 (by decide) (fun c_399 => ?_) (fun c_399 => ?_)
            · exact absurd rfl c_399
            · skip
              refine lv_aload_n hx hb d_La_acts_402 rfl (lv_at hl 5 rfl) ?_
              refine lv_iload hx hb d_La_acts_403 (lv_at hl 0 rfl) ?_
              refine lv_iconst (v := nI 0) hx hb d_La_acts_405 (by decide +kernel) ?_
              refine g_V C0 (g_val (v' := (nI v)) (k_Ga_ofStorm l G x Z (nI ((X.1.2 11).1)) (nI 0) hOZ) (by rw [st_0 hJZ.1 (by omega), hz11])) co_Ga_ofStorm im_Ga_ofStorm se_Ga_ofStorm in_Ga gc_Ga_ofStorm ml_La_42 ⟨Nat.le_of_ble_eq_true rfl, Nat.le_of_ble_eq_true rfl⟩ hK hR_26.1 rfl hR_26 rfl hl.1 rfl (Nat.le_of_ble_eq_true rfl) d_La_acts_406 ⟨Nat.le_of_ble_eq_true rfl, Nat.le_of_ble_eq_true rfl⟩ (g_r rfl ?_)
              refine lv_iload hx hb d_La_acts_409 (lv_at hl 1 rfl) ?_
              refine lv_icmp_ne (tgt := 439) hx hb d_La_acts_411 (by decide) (fun c_411 => ?_) (fun c_411 => ?_)
              · exact absurd rfl c_411
              · skip
                refine lv_aload_n hx hb d_La_acts_414 rfl (lv_at hl 5 rfl) ?_
                refine lv_iload hx hb d_La_acts_415 (lv_at hl 0 rfl) ?_
                refine lv_iconst (v := nI 1) hx hb d_La_acts_417 (by decide +kernel) ?_
                refine g_V C0 (g_val (v' := (nI co)) (k_Ga_ofStorm l G x Z (nI ((X.1.2 11).1)) (nI 1) hOZ) (by rw [st_1 hJZ.1 (by omega), hz12])) co_Ga_ofStorm im_Ga_ofStorm se_Ga_ofStorm in_Ga gc_Ga_ofStorm ml_La_42 ⟨Nat.le_of_ble_eq_true rfl, Nat.le_of_ble_eq_true rfl⟩ hK hR_26.1 rfl hR_26 rfl hl.1 rfl (Nat.le_of_ble_eq_true rfl) d_La_acts_418 ⟨Nat.le_of_ble_eq_true rfl, Nat.le_of_ble_eq_true rfl⟩ (g_r rfl ?_)
                refine lv_iload_n hx hb d_La_acts_421 rfl (lv_at hl 4 rfl) ?_
                refine lv_icmp_ne (tgt := 439) hx hb d_La_acts_422 (by decide) (fun c_422 => ?_) (fun c_422 => ?_)
                · exact absurd rfl c_422
                · skip
                  refine lv_aload_n hx hb d_La_acts_425 rfl (lv_at hl 5 rfl) ?_
                  refine lv_iload hx hb d_La_acts_426 (lv_at hl 0 rfl) ?_
                  refine lv_iconst (v := nI 2) hx hb d_La_acts_428 (by decide +kernel) ?_
                  refine g_V C0 (g_val (v' := (nI 0)) (k_Ga_ofStorm l G x Z (nI ((X.1.2 11).1)) (nI 2) hOZ) (by rw [st_2 hJZ.1 (by omega), hz13])) co_Ga_ofStorm im_Ga_ofStorm se_Ga_ofStorm in_Ga gc_Ga_ofStorm ml_La_42 ⟨Nat.le_of_ble_eq_true rfl, Nat.le_of_ble_eq_true rfl⟩ hK hR_26.1 rfl hR_26 rfl hl.1 rfl (Nat.le_of_ble_eq_true rfl) d_La_acts_429 ⟨Nat.le_of_ble_eq_true rfl, Nat.le_of_ble_eq_true rfl⟩ (g_r rfl ?_)
                  refine lv_if_ne (tgt := 439) hx hb d_La_acts_432 (by decide) (fun c_432 => ?_) (fun c_432 => ?_)
                  · first | exact absurd c_432 (by decide) | exact absurd rfl c_432
                  · skip
                    refine lv_iconst (v := nI 1) hx hb d_La_acts_435 (by decide +kernel) ?_
                    refine lv_goto (tgt := 440) hx hb d_La_acts_436 (by decide) ?_
                    refine g_zret (b := true) C0 hlk hr d_La_acts_440 hL ?_
                    exact ⟨rfl, Z, hR_26, hJZ.mono (by omega), (gFr.rf.tr hf_27)⟩
          · exact absurd c_377 h16e
        · exact absurd (nI_ge0 (by omega)) c_355
    · rw [het]
      refine lv_tableIn (tgt := 441) hx hb d_La_acts_23 (by decide +kernel) (by decide +kernel) (show _ = some _ from rfl) (by decide +kernel) ?_
      rcases Nat.eq_zero_or_pos (X.1.2 11).1 with h0 | h0
      · skip
        refine lv_iload hx hb d_La_acts_441 (lv_at hl 0 rfl) ?_
        refine lv_if_ne (tgt := 450) hx hb d_La_acts_443 (by decide) (fun c_443 => ?_) (fun c_443 => ?_)
        · exact absurd (by rw [h0]; rfl) c_443
        · skip
          refine lv_iconst (v := nI 0) hx hb d_La_acts_446 (by decide +kernel) ?_
          refine lv_goto (tgt := 456) hx hb d_La_acts_447 (by decide) ?_
          refine lv_istore (lv' := [(14, .int (nI 0)), (4, .int (nI ((X.1.2 11).1))), (3, .int (nI li)), (2, .int (nI co)), (0, .ref x), (1, .int (nI cz))]) hx hb d_La_acts_456 hl (by decide) rfl (fun ls hl => ?_)
          refine lv_aload_n hx hb d_La_acts_458 rfl (lv_at hl 4 rfl) ?_
          refine lv_iload hx hb d_La_acts_459 (lv_at hl 0 rfl) ?_
          refine lv_iconst (v := nI 2) hx hb d_La_acts_461 (by decide +kernel) ?_
          refine g_V C0 (g_val (v' := (-1)) (k_Ga_ofStorm l G x X (nI 0) (nI 2) hX) (st_n (by omega) (by decide))) co_Ga_ofStorm im_Ga_ofStorm se_Ga_ofStorm in_Ga gc_Ga_ofStorm ml_La_42 ⟨Nat.le_of_ble_eq_true rfl, Nat.le_of_ble_eq_true rfl⟩ hK hP.1 rfl hP rfl hl.1 rfl (Nat.le_of_ble_eq_true rfl) d_La_acts_462 ⟨Nat.le_of_ble_eq_true rfl, Nat.le_of_ble_eq_true rfl⟩ (g_r rfl ?_)
          refine lv_istore (lv' := [(15, .int (-1)), (14, .int (nI 0)), (4, .int (nI ((X.1.2 11).1))), (3, .int (nI li)), (2, .int (nI co)), (0, .ref x), (1, .int (nI cz))]) hx hb d_La_acts_465 hl (by decide) rfl (fun ls hl => ?_)
          refine lv_aload_n hx hb d_La_acts_467 rfl (lv_at hl 5 rfl) ?_
          refine lv_iload hx hb d_La_acts_468 (lv_at hl 1 rfl) ?_
          refine lv_iconst (v := nI 0) hx hb d_La_acts_470 (by decide +kernel) ?_
          refine g_V C0 (g_val (v' := (-1)) (k_Ga_ofStorm l G x X (nI 0) (nI 0) hX) (st_n (by omega) (by decide))) co_Ga_ofStorm im_Ga_ofStorm se_Ga_ofStorm in_Ga gc_Ga_ofStorm ml_La_42 ⟨Nat.le_of_ble_eq_true rfl, Nat.le_of_ble_eq_true rfl⟩ hK hP.1 rfl hP rfl hl.1 rfl (Nat.le_of_ble_eq_true rfl) d_La_acts_471 ⟨Nat.le_of_ble_eq_true rfl, Nat.le_of_ble_eq_true rfl⟩ (g_r rfl ?_)
          refine lv_istore (lv' := [(16, .int (-1)), (15, .int (-1)), (14, .int (nI 0)), (4, .int (nI ((X.1.2 11).1))), (3, .int (nI li)), (2, .int (nI co)), (0, .ref x), (1, .int (nI cz))]) hx hb d_La_acts_474 hl (by decide) rfl (fun ls hl => ?_)
          refine lv_aload_n hx hb d_La_acts_476 rfl (lv_at hl 6 rfl) ?_
          refine lv_iload hx hb d_La_acts_477 (lv_at hl 0 rfl) ?_
          refine lv_iconst (v := nI 4) hx hb d_La_acts_479 (by decide +kernel) ?_
          refine g_V C0 (g_val (v' := (-1)) (k_Ga_of l G x X (-1) (nI 4) hX) of_m) co_Ga_of im_Ga_of se_Ga_of in_Ga gc_Ga_of ml_La_26 ⟨Nat.le_of_ble_eq_true rfl, Nat.le_of_ble_eq_true rfl⟩ hK hP.1 rfl hP rfl hl.1 rfl (Nat.le_of_ble_eq_true rfl) d_La_acts_480 ⟨Nat.le_of_ble_eq_true rfl, Nat.le_of_ble_eq_true rfl⟩ (g_r rfl ?_)
          refine lv_istore (lv' := [(17, .int (-1)), (16, .int (-1)), (15, .int (-1)), (14, .int (nI 0)), (4, .int (nI ((X.1.2 11).1))), (3, .int (nI li)), (2, .int (nI co)), (0, .ref x), (1, .int (nI cz))]) hx hb d_La_acts_483 hl (by decide) rfl (fun ls hl => ?_)
          refine lv_aload_n hx hb d_La_acts_485 rfl (lv_at hl 7 rfl) ?_
          refine lv_iload hx hb d_La_acts_486 (lv_at hl 3 rfl) ?_
          refine lv_iconst (v := nI 1) hx hb d_La_acts_488 (by decide +kernel) ?_
          refine lv_iload_n hx hb d_La_acts_489 rfl (lv_at hl 8 rfl) ?_
          refine lv_bipush (v := nI 9) hx hb d_La_acts_490 (by decide +kernel) ?_
          refine g_ishr C0 (z := cz / 2 ^ 9) d_La_acts_492 (by omega) (by omega) rfl ?_
          refine lv_bipush (v := nI 50) hx hb d_La_acts_493 (by decide +kernel) ?_
          refine g_irem C0 (z := (cz / 2 ^ 9) % 50) d_La_acts_495 (by omega) (by omega) (by omega) rfl ?_
          refine g_iadd C0 (z := 1 + ((cz / 2 ^ 9) % 50)) d_La_acts_496 rfl ?_
          refine g_V C0 (g_valw (v' := (-1)) (X' := X) (k_Ga_harm l G x X (nI 0) (nI (1 + ((cz / 2 ^ 9) % 50))) hX) (hrm_n h0)) co_Ga_harm im_Ga_harm se_Ga_harm in_Ga gc_Ga_harm ml_La_73 ⟨Nat.le_of_ble_eq_true rfl, Nat.le_of_ble_eq_true rfl⟩ hK hP.1 rfl hP rfl hl.1 rfl (Nat.le_of_ble_eq_true rfl) d_La_acts_497 ⟨Nat.le_of_ble_eq_true rfl, Nat.le_of_ble_eq_true rfl⟩ (g_wi (free := gRg x (x + 262)) (t_nil (free := gRg x (x + 262))) (fun _ h => h) (fun H_28 locs hL ⟨hR_29, hf_30⟩ => ?_))
          refine lv_istore (lv' := [(18, .int (-1)), (17, .int (-1)), (16, .int (-1)), (15, .int (-1)), (14, .int (nI 0)), (4, .int (nI ((X.1.2 11).1))), (3, .int (nI li)), (2, .int (nI co)), (0, .ref x), (1, .int (nI cz))]) hx hb d_La_acts_500 hl (by decide) rfl (fun ls hl => ?_)
          refine lv_iload hx hb d_La_acts_502 (lv_at hl 5 rfl) ?_
          refine lv_if_ne (tgt := 521) hx hb d_La_acts_504 (by decide) (fun c_504 => ?_) (fun c_504 => ?_)
          · exact absurd (by rw [h0]; rfl) c_504
          · skip
            refine lv_iload hx hb d_La_acts_507 (lv_at hl 0 rfl) ?_
            refine lv_iconst (v := -1) hx hb d_La_acts_509 (by decide +kernel) ?_
            refine lv_icmp_ne (tgt := 517) hx hb d_La_acts_510 (by decide) (fun c_510 => ?_) (fun c_510 => ?_)
            · exact absurd rfl c_510
            · skip
              refine lv_iconst (v := nI 1) hx hb d_La_acts_513 (by decide +kernel) ?_
              refine lv_goto (tgt := 565) hx hb d_La_acts_514 (by decide) ?_
              refine g_zret (b := true) C0 hlk hr d_La_acts_565 hL ?_
              exact ⟨rfl, X, hR_29, hJ.mono (by omega), (gFr.rf.tr hf_30)⟩
      · skip
        obtain ⟨gg, hgg⟩ : ∃ z, z = cz / 2 ^ 4 % (X.1.2 11).1 := ⟨_, rfl⟩
        have hgl : gg < (X.1.2 11).1 := by rw [hgg]; exact Nat.mod_lt _ h0
        have hvn := (hI.2.2.2.2.1.2.2.1 gg hgl).1
        obtain ⟨bb, hbb⟩ : ∃ z, z = 1 + cz / 2 ^ 9 % 50 := ⟨_, rfl⟩
        obtain ⟨Z, hz, hJZ, hz4, hzn⟩ := hrm_s hJ (g := gg) (b := bb) hgl (by omega) (by omega)
        refine lv_iload hx hb d_La_acts_441 (lv_at hl 0 rfl) ?_
        refine lv_if_ne (tgt := 450) hx hb d_La_acts_443 (by decide) (fun c_443 => ?_) (fun c_443 => ?_)
        · skip
          refine lv_iload_n hx hb d_La_acts_450 rfl (lv_at hl 4 rfl) ?_
          refine lv_iconst (v := nI 4) hx hb d_La_acts_451 (by decide +kernel) ?_
          refine g_ishr C0 (z := cz / 2 ^ 4) d_La_acts_452 (by omega) (by omega) rfl ?_
          refine lv_iload hx hb d_La_acts_453 (lv_at hl 0 rfl) ?_
          refine g_irem C0 (z := gg) d_La_acts_455 (by omega) (by omega) (by omega) hgg.symm ?_
          refine lv_istore (lv' := [(14, .int (nI gg)), (4, .int (nI ((X.1.2 11).1))), (3, .int (nI li)), (2, .int (nI co)), (0, .ref x), (1, .int (nI cz))]) hx hb d_La_acts_456 hl (by decide) rfl (fun ls hl => ?_)
          refine lv_aload_n hx hb d_La_acts_458 rfl (lv_at hl 4 rfl) ?_
          refine lv_iload hx hb d_La_acts_459 (lv_at hl 0 rfl) ?_
          refine lv_iconst (v := nI 2) hx hb d_La_acts_461 (by decide +kernel) ?_
          refine g_V C0 (g_val (v' := (nI ((X.1.2 13).2 gg))) (k_Ga_ofStorm l G x X (nI gg) (nI 2) hX) (st_2 hI hgl)) co_Ga_ofStorm im_Ga_ofStorm se_Ga_ofStorm in_Ga gc_Ga_ofStorm ml_La_42 ⟨Nat.le_of_ble_eq_true rfl, Nat.le_of_ble_eq_true rfl⟩ hK hP.1 rfl hP rfl hl.1 rfl (Nat.le_of_ble_eq_true rfl) d_La_acts_462 ⟨Nat.le_of_ble_eq_true rfl, Nat.le_of_ble_eq_true rfl⟩ (g_r rfl ?_)
          refine lv_istore (lv' := [(15, .int (nI ((X.1.2 13).2 gg))), (14, .int (nI gg)), (4, .int (nI ((X.1.2 11).1))), (3, .int (nI li)), (2, .int (nI co)), (0, .ref x), (1, .int (nI cz))]) hx hb d_La_acts_465 hl (by decide) rfl (fun ls hl => ?_)
          refine lv_aload_n hx hb d_La_acts_467 rfl (lv_at hl 5 rfl) ?_
          refine lv_iload hx hb d_La_acts_468 (lv_at hl 1 rfl) ?_
          refine lv_iconst (v := nI 0) hx hb d_La_acts_470 (by decide +kernel) ?_
          refine g_V C0 (g_val (v' := (nI ((X.1.2 11).2 gg))) (k_Ga_ofStorm l G x X (nI gg) (nI 0) hX) (st_0 hI hgl)) co_Ga_ofStorm im_Ga_ofStorm se_Ga_ofStorm in_Ga gc_Ga_ofStorm ml_La_42 ⟨Nat.le_of_ble_eq_true rfl, Nat.le_of_ble_eq_true rfl⟩ hK hP.1 rfl hP rfl hl.1 rfl (Nat.le_of_ble_eq_true rfl) d_La_acts_471 ⟨Nat.le_of_ble_eq_true rfl, Nat.le_of_ble_eq_true rfl⟩ (g_r rfl ?_)
          refine lv_istore (lv' := [(16, .int (nI ((X.1.2 11).2 gg))), (15, .int (nI ((X.1.2 13).2 gg))), (14, .int (nI gg)), (4, .int (nI ((X.1.2 11).1))), (3, .int (nI li)), (2, .int (nI co)), (0, .ref x), (1, .int (nI cz))]) hx hb d_La_acts_474 hl (by decide) rfl (fun ls hl => ?_)
          refine lv_aload_n hx hb d_La_acts_476 rfl (lv_at hl 6 rfl) ?_
          refine lv_iload hx hb d_La_acts_477 (lv_at hl 0 rfl) ?_
          refine lv_iconst (v := nI 4) hx hb d_La_acts_479 (by decide +kernel) ?_
          refine g_V C0 (g_val (v' := (nI ((X.1.2 4).2 ((X.1.2 11).2 gg)))) (k_Ga_of l G x X (nI ((X.1.2 11).2 gg)) (nI 4) hX) (of_4 hI hvn)) co_Ga_of im_Ga_of se_Ga_of in_Ga gc_Ga_of ml_La_26 ⟨Nat.le_of_ble_eq_true rfl, Nat.le_of_ble_eq_true rfl⟩ hK hP.1 rfl hP rfl hl.1 rfl (Nat.le_of_ble_eq_true rfl) d_La_acts_480 ⟨Nat.le_of_ble_eq_true rfl, Nat.le_of_ble_eq_true rfl⟩ (g_r rfl ?_)
          refine lv_istore (lv' := [(17, .int (nI ((X.1.2 4).2 ((X.1.2 11).2 gg)))), (16, .int (nI ((X.1.2 11).2 gg))), (15, .int (nI ((X.1.2 13).2 gg))), (14, .int (nI gg)), (4, .int (nI ((X.1.2 11).1))), (3, .int (nI li)), (2, .int (nI co)), (0, .ref x), (1, .int (nI cz))]) hx hb d_La_acts_483 hl (by decide) rfl (fun ls hl => ?_)
          refine lv_aload_n hx hb d_La_acts_485 rfl (lv_at hl 7 rfl) ?_
          refine lv_iload hx hb d_La_acts_486 (lv_at hl 3 rfl) ?_
          refine lv_iconst (v := nI 1) hx hb d_La_acts_488 (by decide +kernel) ?_
          refine lv_iload_n hx hb d_La_acts_489 rfl (lv_at hl 8 rfl) ?_
          refine lv_bipush (v := nI 9) hx hb d_La_acts_490 (by decide +kernel) ?_
          refine g_ishr C0 (z := cz / 2 ^ 9) d_La_acts_492 (by omega) (by omega) rfl ?_
          refine lv_bipush (v := nI 50) hx hb d_La_acts_493 (by decide +kernel) ?_
          refine g_irem C0 (z := (cz / 2 ^ 9) % 50) d_La_acts_495 (by omega) (by omega) (by omega) rfl ?_
          refine g_iadd C0 (z := bb) d_La_acts_496 hbb.symm ?_
          have hOZ := hJZ.ok (by omega)
          refine g_V C0 (g_valw (v' := (nI ((X.1.2 13).2 gg + bb))) (X' := Z) (k_Ga_harm l G x X (nI gg) (nI bb) hX) hz) co_Ga_harm im_Ga_harm se_Ga_harm in_Ga gc_Ga_harm ml_La_73 ⟨Nat.le_of_ble_eq_true rfl, Nat.le_of_ble_eq_true rfl⟩ hK hP.1 rfl hP rfl hl.1 rfl (Nat.le_of_ble_eq_true rfl) d_La_acts_497 ⟨Nat.le_of_ble_eq_true rfl, Nat.le_of_ble_eq_true rfl⟩ (g_wi (free := gRg x (x + 262)) (t_nil (free := gRg x (x + 262))) (fun _ h => h) (fun H_31 locs hL ⟨hR_32, hf_33⟩ => ?_))
          refine lv_istore (lv' := [(18, .int (nI ((X.1.2 13).2 gg + bb))), (17, .int (nI ((X.1.2 4).2 ((X.1.2 11).2 gg)))), (16, .int (nI ((X.1.2 11).2 gg))), (15, .int (nI ((X.1.2 13).2 gg))), (14, .int (nI gg)), (4, .int (nI ((X.1.2 11).1))), (3, .int (nI li)), (2, .int (nI co)), (0, .ref x), (1, .int (nI cz))]) hx hb d_La_acts_500 hl (by decide) rfl (fun ls hl => ?_)
          refine lv_iload hx hb d_La_acts_502 (lv_at hl 5 rfl) ?_
          refine lv_if_ne (tgt := 521) hx hb d_La_acts_504 (by decide) (fun c_504 => ?_) (fun c_504 => ?_)
          · skip
            refine lv_iload hx hb d_La_acts_521 (lv_at hl 0 rfl) ?_
            refine lv_iload hx hb d_La_acts_523 (lv_at hl 3 rfl) ?_
            refine lv_iconst (v := nI 1) hx hb d_La_acts_525 (by decide +kernel) ?_
            refine g_iadd C0 (z := (X.1.2 13).2 gg + 1) d_La_acts_526 rfl ?_
            refine lv_iload_n hx hb d_La_acts_527 rfl (lv_at hl 9 rfl) ?_
            refine lv_bipush (v := nI 9) hx hb d_La_acts_528 (by decide +kernel) ?_
            refine g_ishr C0 (z := cz / 2 ^ 9) d_La_acts_530 (by omega) (by omega) rfl ?_
            refine lv_bipush (v := nI 50) hx hb d_La_acts_531 (by decide +kernel) ?_
            refine g_irem C0 (z := (cz / 2 ^ 9) % 50) d_La_acts_533 (by omega) (by omega) (by omega) rfl ?_
            refine g_iadd C0 (z := (X.1.2 13).2 gg + 1 + ((cz / 2 ^ 9) % 50)) d_La_acts_534 rfl ?_
            refine lv_icmp_ne (tgt := 564) hx hb d_La_acts_535 (by decide) (fun c_535 => ?_) (fun c_535 => ?_)
            · exact absurd (congrArg nI (by omega)) c_535
            · skip
              refine lv_aload_n hx hb d_La_acts_538 rfl (lv_at hl 8 rfl) ?_
              refine lv_iload hx hb d_La_acts_539 (lv_at hl 2 rfl) ?_
              refine lv_iconst (v := nI 4) hx hb d_La_acts_541 (by decide +kernel) ?_
              refine g_V C0 (g_val (v' := (nI ((X.1.2 4).2 ((X.1.2 11).2 gg) + bb))) (k_Ga_of l G x Z (nI ((X.1.2 11).2 gg)) (nI 4) hOZ) (by rw [of_4 hJZ.1 (by omega), hz4])) co_Ga_of im_Ga_of se_Ga_of in_Ga gc_Ga_of ml_La_26 ⟨Nat.le_of_ble_eq_true rfl, Nat.le_of_ble_eq_true rfl⟩ hK hR_32.1 rfl hR_32 rfl hl.1 rfl (Nat.le_of_ble_eq_true rfl) d_La_acts_542 ⟨Nat.le_of_ble_eq_true rfl, Nat.le_of_ble_eq_true rfl⟩ (g_r rfl ?_)
              refine lv_iload hx hb d_La_acts_545 (lv_at hl 1 rfl) ?_
              refine lv_iconst (v := nI 1) hx hb d_La_acts_547 (by decide +kernel) ?_
              refine g_iadd C0 (z := (X.1.2 4).2 ((X.1.2 11).2 gg) + 1) d_La_acts_548 rfl ?_
              refine lv_iload_n hx hb d_La_acts_549 rfl (lv_at hl 9 rfl) ?_
              refine lv_bipush (v := nI 9) hx hb d_La_acts_550 (by decide +kernel) ?_
              refine g_ishr C0 (z := cz / 2 ^ 9) d_La_acts_552 (by omega) (by omega) rfl ?_
              refine lv_bipush (v := nI 50) hx hb d_La_acts_553 (by decide +kernel) ?_
              refine g_irem C0 (z := (cz / 2 ^ 9) % 50) d_La_acts_555 (by omega) (by omega) (by omega) rfl ?_
              refine g_iadd C0 (z := (X.1.2 4).2 ((X.1.2 11).2 gg) + 1 + ((cz / 2 ^ 9) % 50)) d_La_acts_556 rfl ?_
              refine lv_icmp_ne (tgt := 564) hx hb d_La_acts_557 (by decide) (fun c_557 => ?_) (fun c_557 => ?_)
              · exact absurd (congrArg nI (by omega)) c_557
              · skip
                refine lv_iconst (v := nI 1) hx hb d_La_acts_560 (by decide +kernel) ?_
                refine lv_goto (tgt := 565) hx hb d_La_acts_561 (by decide) ?_
                refine g_zret (b := true) C0 hlk hr d_La_acts_565 hL ?_
                exact ⟨rfl, Z, hR_32, hJZ.mono (by omega), (gFr.rf.tr hf_33)⟩
          · exact absurd ((nI_eqi (b := 0) (by omega) (by decide)).mp c_504) (by omega)
        · exact absurd ((nI_eqi (b := 0) (by omega) (by decide)).mp c_443) (by omega)
    · rw [het]
      refine lv_tableIn (tgt := 441) hx hb d_La_acts_23 (by decide +kernel) (by decide +kernel) (show _ = some _ from rfl) (by decide +kernel) ?_
      rcases Nat.eq_zero_or_pos (X.1.2 11).1 with h0 | h0
      · skip
        refine lv_iload hx hb d_La_acts_441 (lv_at hl 0 rfl) ?_
        refine lv_if_ne (tgt := 450) hx hb d_La_acts_443 (by decide) (fun c_443 => ?_) (fun c_443 => ?_)
        · exact absurd (by rw [h0]; rfl) c_443
        · skip
          refine lv_iconst (v := nI 0) hx hb d_La_acts_446 (by decide +kernel) ?_
          refine lv_goto (tgt := 456) hx hb d_La_acts_447 (by decide) ?_
          refine lv_istore (lv' := [(14, .int (nI 0)), (4, .int (nI ((X.1.2 11).1))), (3, .int (nI li)), (2, .int (nI co)), (0, .ref x), (1, .int (nI cz))]) hx hb d_La_acts_456 hl (by decide) rfl (fun ls hl => ?_)
          refine lv_aload_n hx hb d_La_acts_458 rfl (lv_at hl 4 rfl) ?_
          refine lv_iload hx hb d_La_acts_459 (lv_at hl 0 rfl) ?_
          refine lv_iconst (v := nI 2) hx hb d_La_acts_461 (by decide +kernel) ?_
          refine g_V C0 (g_val (v' := (-1)) (k_Ga_ofStorm l G x X (nI 0) (nI 2) hX) (st_n (by omega) (by decide))) co_Ga_ofStorm im_Ga_ofStorm se_Ga_ofStorm in_Ga gc_Ga_ofStorm ml_La_42 ⟨Nat.le_of_ble_eq_true rfl, Nat.le_of_ble_eq_true rfl⟩ hK hP.1 rfl hP rfl hl.1 rfl (Nat.le_of_ble_eq_true rfl) d_La_acts_462 ⟨Nat.le_of_ble_eq_true rfl, Nat.le_of_ble_eq_true rfl⟩ (g_r rfl ?_)
          refine lv_istore (lv' := [(15, .int (-1)), (14, .int (nI 0)), (4, .int (nI ((X.1.2 11).1))), (3, .int (nI li)), (2, .int (nI co)), (0, .ref x), (1, .int (nI cz))]) hx hb d_La_acts_465 hl (by decide) rfl (fun ls hl => ?_)
          refine lv_aload_n hx hb d_La_acts_467 rfl (lv_at hl 5 rfl) ?_
          refine lv_iload hx hb d_La_acts_468 (lv_at hl 1 rfl) ?_
          refine lv_iconst (v := nI 0) hx hb d_La_acts_470 (by decide +kernel) ?_
          refine g_V C0 (g_val (v' := (-1)) (k_Ga_ofStorm l G x X (nI 0) (nI 0) hX) (st_n (by omega) (by decide))) co_Ga_ofStorm im_Ga_ofStorm se_Ga_ofStorm in_Ga gc_Ga_ofStorm ml_La_42 ⟨Nat.le_of_ble_eq_true rfl, Nat.le_of_ble_eq_true rfl⟩ hK hP.1 rfl hP rfl hl.1 rfl (Nat.le_of_ble_eq_true rfl) d_La_acts_471 ⟨Nat.le_of_ble_eq_true rfl, Nat.le_of_ble_eq_true rfl⟩ (g_r rfl ?_)
          refine lv_istore (lv' := [(16, .int (-1)), (15, .int (-1)), (14, .int (nI 0)), (4, .int (nI ((X.1.2 11).1))), (3, .int (nI li)), (2, .int (nI co)), (0, .ref x), (1, .int (nI cz))]) hx hb d_La_acts_474 hl (by decide) rfl (fun ls hl => ?_)
          refine lv_aload_n hx hb d_La_acts_476 rfl (lv_at hl 6 rfl) ?_
          refine lv_iload hx hb d_La_acts_477 (lv_at hl 0 rfl) ?_
          refine lv_iconst (v := nI 4) hx hb d_La_acts_479 (by decide +kernel) ?_
          refine g_V C0 (g_val (v' := (-1)) (k_Ga_of l G x X (-1) (nI 4) hX) of_m) co_Ga_of im_Ga_of se_Ga_of in_Ga gc_Ga_of ml_La_26 ⟨Nat.le_of_ble_eq_true rfl, Nat.le_of_ble_eq_true rfl⟩ hK hP.1 rfl hP rfl hl.1 rfl (Nat.le_of_ble_eq_true rfl) d_La_acts_480 ⟨Nat.le_of_ble_eq_true rfl, Nat.le_of_ble_eq_true rfl⟩ (g_r rfl ?_)
          refine lv_istore (lv' := [(17, .int (-1)), (16, .int (-1)), (15, .int (-1)), (14, .int (nI 0)), (4, .int (nI ((X.1.2 11).1))), (3, .int (nI li)), (2, .int (nI co)), (0, .ref x), (1, .int (nI cz))]) hx hb d_La_acts_483 hl (by decide) rfl (fun ls hl => ?_)
          refine lv_aload_n hx hb d_La_acts_485 rfl (lv_at hl 7 rfl) ?_
          refine lv_iload hx hb d_La_acts_486 (lv_at hl 3 rfl) ?_
          refine lv_iconst (v := nI 1) hx hb d_La_acts_488 (by decide +kernel) ?_
          refine lv_iload_n hx hb d_La_acts_489 rfl (lv_at hl 8 rfl) ?_
          refine lv_bipush (v := nI 9) hx hb d_La_acts_490 (by decide +kernel) ?_
          refine g_ishr C0 (z := cz / 2 ^ 9) d_La_acts_492 (by omega) (by omega) rfl ?_
          refine lv_bipush (v := nI 50) hx hb d_La_acts_493 (by decide +kernel) ?_
          refine g_irem C0 (z := (cz / 2 ^ 9) % 50) d_La_acts_495 (by omega) (by omega) (by omega) rfl ?_
          refine g_iadd C0 (z := 1 + ((cz / 2 ^ 9) % 50)) d_La_acts_496 rfl ?_
          refine g_V C0 (g_valw (v' := (-1)) (X' := X) (k_Ga_harm l G x X (nI 0) (nI (1 + ((cz / 2 ^ 9) % 50))) hX) (hrm_n h0)) co_Ga_harm im_Ga_harm se_Ga_harm in_Ga gc_Ga_harm ml_La_73 ⟨Nat.le_of_ble_eq_true rfl, Nat.le_of_ble_eq_true rfl⟩ hK hP.1 rfl hP rfl hl.1 rfl (Nat.le_of_ble_eq_true rfl) d_La_acts_497 ⟨Nat.le_of_ble_eq_true rfl, Nat.le_of_ble_eq_true rfl⟩ (g_wi (free := gRg x (x + 262)) (t_nil (free := gRg x (x + 262))) (fun _ h => h) (fun H_34 locs hL ⟨hR_35, hf_36⟩ => ?_))
          refine lv_istore (lv' := [(18, .int (-1)), (17, .int (-1)), (16, .int (-1)), (15, .int (-1)), (14, .int (nI 0)), (4, .int (nI ((X.1.2 11).1))), (3, .int (nI li)), (2, .int (nI co)), (0, .ref x), (1, .int (nI cz))]) hx hb d_La_acts_500 hl (by decide) rfl (fun ls hl => ?_)
          refine lv_iload hx hb d_La_acts_502 (lv_at hl 5 rfl) ?_
          refine lv_if_ne (tgt := 521) hx hb d_La_acts_504 (by decide) (fun c_504 => ?_) (fun c_504 => ?_)
          · exact absurd (by rw [h0]; rfl) c_504
          · skip
            refine lv_iload hx hb d_La_acts_507 (lv_at hl 0 rfl) ?_
            refine lv_iconst (v := -1) hx hb d_La_acts_509 (by decide +kernel) ?_
            refine lv_icmp_ne (tgt := 517) hx hb d_La_acts_510 (by decide) (fun c_510 => ?_) (fun c_510 => ?_)
            · exact absurd rfl c_510
            · skip
              refine lv_iconst (v := nI 1) hx hb d_La_acts_513 (by decide +kernel) ?_
              refine lv_goto (tgt := 565) hx hb d_La_acts_514 (by decide) ?_
              refine g_zret (b := true) C0 hlk hr d_La_acts_565 hL ?_
              exact ⟨rfl, X, hR_35, hJ.mono (by omega), (gFr.rf.tr hf_36)⟩
      · skip
        obtain ⟨gg, hgg⟩ : ∃ z, z = cz / 2 ^ 4 % (X.1.2 11).1 := ⟨_, rfl⟩
        have hgl : gg < (X.1.2 11).1 := by rw [hgg]; exact Nat.mod_lt _ h0
        have hvn := (hI.2.2.2.2.1.2.2.1 gg hgl).1
        obtain ⟨bb, hbb⟩ : ∃ z, z = 1 + cz / 2 ^ 9 % 50 := ⟨_, rfl⟩
        obtain ⟨Z, hz, hJZ, hz4, hzn⟩ := hrm_s hJ (g := gg) (b := bb) hgl (by omega) (by omega)
        refine lv_iload hx hb d_La_acts_441 (lv_at hl 0 rfl) ?_
        refine lv_if_ne (tgt := 450) hx hb d_La_acts_443 (by decide) (fun c_443 => ?_) (fun c_443 => ?_)
        · skip
          refine lv_iload_n hx hb d_La_acts_450 rfl (lv_at hl 4 rfl) ?_
          refine lv_iconst (v := nI 4) hx hb d_La_acts_451 (by decide +kernel) ?_
          refine g_ishr C0 (z := cz / 2 ^ 4) d_La_acts_452 (by omega) (by omega) rfl ?_
          refine lv_iload hx hb d_La_acts_453 (lv_at hl 0 rfl) ?_
          refine g_irem C0 (z := gg) d_La_acts_455 (by omega) (by omega) (by omega) hgg.symm ?_
          refine lv_istore (lv' := [(14, .int (nI gg)), (4, .int (nI ((X.1.2 11).1))), (3, .int (nI li)), (2, .int (nI co)), (0, .ref x), (1, .int (nI cz))]) hx hb d_La_acts_456 hl (by decide) rfl (fun ls hl => ?_)
          refine lv_aload_n hx hb d_La_acts_458 rfl (lv_at hl 4 rfl) ?_
          refine lv_iload hx hb d_La_acts_459 (lv_at hl 0 rfl) ?_
          refine lv_iconst (v := nI 2) hx hb d_La_acts_461 (by decide +kernel) ?_
          refine g_V C0 (g_val (v' := (nI ((X.1.2 13).2 gg))) (k_Ga_ofStorm l G x X (nI gg) (nI 2) hX) (st_2 hI hgl)) co_Ga_ofStorm im_Ga_ofStorm se_Ga_ofStorm in_Ga gc_Ga_ofStorm ml_La_42 ⟨Nat.le_of_ble_eq_true rfl, Nat.le_of_ble_eq_true rfl⟩ hK hP.1 rfl hP rfl hl.1 rfl (Nat.le_of_ble_eq_true rfl) d_La_acts_462 ⟨Nat.le_of_ble_eq_true rfl, Nat.le_of_ble_eq_true rfl⟩ (g_r rfl ?_)
          refine lv_istore (lv' := [(15, .int (nI ((X.1.2 13).2 gg))), (14, .int (nI gg)), (4, .int (nI ((X.1.2 11).1))), (3, .int (nI li)), (2, .int (nI co)), (0, .ref x), (1, .int (nI cz))]) hx hb d_La_acts_465 hl (by decide) rfl (fun ls hl => ?_)
          refine lv_aload_n hx hb d_La_acts_467 rfl (lv_at hl 5 rfl) ?_
          refine lv_iload hx hb d_La_acts_468 (lv_at hl 1 rfl) ?_
          refine lv_iconst (v := nI 0) hx hb d_La_acts_470 (by decide +kernel) ?_
          refine g_V C0 (g_val (v' := (nI ((X.1.2 11).2 gg))) (k_Ga_ofStorm l G x X (nI gg) (nI 0) hX) (st_0 hI hgl)) co_Ga_ofStorm im_Ga_ofStorm se_Ga_ofStorm in_Ga gc_Ga_ofStorm ml_La_42 ⟨Nat.le_of_ble_eq_true rfl, Nat.le_of_ble_eq_true rfl⟩ hK hP.1 rfl hP rfl hl.1 rfl (Nat.le_of_ble_eq_true rfl) d_La_acts_471 ⟨Nat.le_of_ble_eq_true rfl, Nat.le_of_ble_eq_true rfl⟩ (g_r rfl ?_)
          refine lv_istore (lv' := [(16, .int (nI ((X.1.2 11).2 gg))), (15, .int (nI ((X.1.2 13).2 gg))), (14, .int (nI gg)), (4, .int (nI ((X.1.2 11).1))), (3, .int (nI li)), (2, .int (nI co)), (0, .ref x), (1, .int (nI cz))]) hx hb d_La_acts_474 hl (by decide) rfl (fun ls hl => ?_)
          refine lv_aload_n hx hb d_La_acts_476 rfl (lv_at hl 6 rfl) ?_
          refine lv_iload hx hb d_La_acts_477 (lv_at hl 0 rfl) ?_
          refine lv_iconst (v := nI 4) hx hb d_La_acts_479 (by decide +kernel) ?_
          refine g_V C0 (g_val (v' := (nI ((X.1.2 4).2 ((X.1.2 11).2 gg)))) (k_Ga_of l G x X (nI ((X.1.2 11).2 gg)) (nI 4) hX) (of_4 hI hvn)) co_Ga_of im_Ga_of se_Ga_of in_Ga gc_Ga_of ml_La_26 ⟨Nat.le_of_ble_eq_true rfl, Nat.le_of_ble_eq_true rfl⟩ hK hP.1 rfl hP rfl hl.1 rfl (Nat.le_of_ble_eq_true rfl) d_La_acts_480 ⟨Nat.le_of_ble_eq_true rfl, Nat.le_of_ble_eq_true rfl⟩ (g_r rfl ?_)
          refine lv_istore (lv' := [(17, .int (nI ((X.1.2 4).2 ((X.1.2 11).2 gg)))), (16, .int (nI ((X.1.2 11).2 gg))), (15, .int (nI ((X.1.2 13).2 gg))), (14, .int (nI gg)), (4, .int (nI ((X.1.2 11).1))), (3, .int (nI li)), (2, .int (nI co)), (0, .ref x), (1, .int (nI cz))]) hx hb d_La_acts_483 hl (by decide) rfl (fun ls hl => ?_)
          refine lv_aload_n hx hb d_La_acts_485 rfl (lv_at hl 7 rfl) ?_
          refine lv_iload hx hb d_La_acts_486 (lv_at hl 3 rfl) ?_
          refine lv_iconst (v := nI 1) hx hb d_La_acts_488 (by decide +kernel) ?_
          refine lv_iload_n hx hb d_La_acts_489 rfl (lv_at hl 8 rfl) ?_
          refine lv_bipush (v := nI 9) hx hb d_La_acts_490 (by decide +kernel) ?_
          refine g_ishr C0 (z := cz / 2 ^ 9) d_La_acts_492 (by omega) (by omega) rfl ?_
          refine lv_bipush (v := nI 50) hx hb d_La_acts_493 (by decide +kernel) ?_
          refine g_irem C0 (z := (cz / 2 ^ 9) % 50) d_La_acts_495 (by omega) (by omega) (by omega) rfl ?_
          refine g_iadd C0 (z := bb) d_La_acts_496 hbb.symm ?_
          have hOZ := hJZ.ok (by omega)
          refine g_V C0 (g_valw (v' := (nI ((X.1.2 13).2 gg + bb))) (X' := Z) (k_Ga_harm l G x X (nI gg) (nI bb) hX) hz) co_Ga_harm im_Ga_harm se_Ga_harm in_Ga gc_Ga_harm ml_La_73 ⟨Nat.le_of_ble_eq_true rfl, Nat.le_of_ble_eq_true rfl⟩ hK hP.1 rfl hP rfl hl.1 rfl (Nat.le_of_ble_eq_true rfl) d_La_acts_497 ⟨Nat.le_of_ble_eq_true rfl, Nat.le_of_ble_eq_true rfl⟩ (g_wi (free := gRg x (x + 262)) (t_nil (free := gRg x (x + 262))) (fun _ h => h) (fun H_37 locs hL ⟨hR_38, hf_39⟩ => ?_))
          refine lv_istore (lv' := [(18, .int (nI ((X.1.2 13).2 gg + bb))), (17, .int (nI ((X.1.2 4).2 ((X.1.2 11).2 gg)))), (16, .int (nI ((X.1.2 11).2 gg))), (15, .int (nI ((X.1.2 13).2 gg))), (14, .int (nI gg)), (4, .int (nI ((X.1.2 11).1))), (3, .int (nI li)), (2, .int (nI co)), (0, .ref x), (1, .int (nI cz))]) hx hb d_La_acts_500 hl (by decide) rfl (fun ls hl => ?_)
          refine lv_iload hx hb d_La_acts_502 (lv_at hl 5 rfl) ?_
          refine lv_if_ne (tgt := 521) hx hb d_La_acts_504 (by decide) (fun c_504 => ?_) (fun c_504 => ?_)
          · skip
            refine lv_iload hx hb d_La_acts_521 (lv_at hl 0 rfl) ?_
            refine lv_iload hx hb d_La_acts_523 (lv_at hl 3 rfl) ?_
            refine lv_iconst (v := nI 1) hx hb d_La_acts_525 (by decide +kernel) ?_
            refine g_iadd C0 (z := (X.1.2 13).2 gg + 1) d_La_acts_526 rfl ?_
            refine lv_iload_n hx hb d_La_acts_527 rfl (lv_at hl 9 rfl) ?_
            refine lv_bipush (v := nI 9) hx hb d_La_acts_528 (by decide +kernel) ?_
            refine g_ishr C0 (z := cz / 2 ^ 9) d_La_acts_530 (by omega) (by omega) rfl ?_
            refine lv_bipush (v := nI 50) hx hb d_La_acts_531 (by decide +kernel) ?_
            refine g_irem C0 (z := (cz / 2 ^ 9) % 50) d_La_acts_533 (by omega) (by omega) (by omega) rfl ?_
            refine g_iadd C0 (z := (X.1.2 13).2 gg + 1 + ((cz / 2 ^ 9) % 50)) d_La_acts_534 rfl ?_
            refine lv_icmp_ne (tgt := 564) hx hb d_La_acts_535 (by decide) (fun c_535 => ?_) (fun c_535 => ?_)
            · exact absurd (congrArg nI (by omega)) c_535
            · skip
              refine lv_aload_n hx hb d_La_acts_538 rfl (lv_at hl 8 rfl) ?_
              refine lv_iload hx hb d_La_acts_539 (lv_at hl 2 rfl) ?_
              refine lv_iconst (v := nI 4) hx hb d_La_acts_541 (by decide +kernel) ?_
              refine g_V C0 (g_val (v' := (nI ((X.1.2 4).2 ((X.1.2 11).2 gg) + bb))) (k_Ga_of l G x Z (nI ((X.1.2 11).2 gg)) (nI 4) hOZ) (by rw [of_4 hJZ.1 (by omega), hz4])) co_Ga_of im_Ga_of se_Ga_of in_Ga gc_Ga_of ml_La_26 ⟨Nat.le_of_ble_eq_true rfl, Nat.le_of_ble_eq_true rfl⟩ hK hR_38.1 rfl hR_38 rfl hl.1 rfl (Nat.le_of_ble_eq_true rfl) d_La_acts_542 ⟨Nat.le_of_ble_eq_true rfl, Nat.le_of_ble_eq_true rfl⟩ (g_r rfl ?_)
              refine lv_iload hx hb d_La_acts_545 (lv_at hl 1 rfl) ?_
              refine lv_iconst (v := nI 1) hx hb d_La_acts_547 (by decide +kernel) ?_
              refine g_iadd C0 (z := (X.1.2 4).2 ((X.1.2 11).2 gg) + 1) d_La_acts_548 rfl ?_
              refine lv_iload_n hx hb d_La_acts_549 rfl (lv_at hl 9 rfl) ?_
              refine lv_bipush (v := nI 9) hx hb d_La_acts_550 (by decide +kernel) ?_
              refine g_ishr C0 (z := cz / 2 ^ 9) d_La_acts_552 (by omega) (by omega) rfl ?_
              refine lv_bipush (v := nI 50) hx hb d_La_acts_553 (by decide +kernel) ?_
              refine g_irem C0 (z := (cz / 2 ^ 9) % 50) d_La_acts_555 (by omega) (by omega) (by omega) rfl ?_
              refine g_iadd C0 (z := (X.1.2 4).2 ((X.1.2 11).2 gg) + 1 + ((cz / 2 ^ 9) % 50)) d_La_acts_556 rfl ?_
              refine lv_icmp_ne (tgt := 564) hx hb d_La_acts_557 (by decide) (fun c_557 => ?_) (fun c_557 => ?_)
              · exact absurd (congrArg nI (by omega)) c_557
              · skip
                refine lv_iconst (v := nI 1) hx hb d_La_acts_560 (by decide +kernel) ?_
                refine lv_goto (tgt := 565) hx hb d_La_acts_561 (by decide) ?_
                refine g_zret (b := true) C0 hlk hr d_La_acts_565 hL ?_
                exact ⟨rfl, Z, hR_38, hJZ.mono (by omega), (gFr.rf.tr hf_39)⟩
          · exact absurd ((nI_eqi (b := 0) (by omega) (by decide)).mp c_504) (by omega)
        · exact absurd ((nI_eqi (b := 0) (by omega) (by decide)).mp c_443) (by omega)
    · rw [het]
      refine lv_tableIn (tgt := 566) hx hb d_La_acts_23 (by decide +kernel) (by decide +kernel) (show _ = some _ from rfl) (by decide +kernel) ?_
      exact la_acts_566 l G x X t ht9 cz hcz hI hX co li hco hli hc hk hlx hl8 C0 hlk hr hP hK ls hl
    · rw [het]
      refine lv_tableIn (tgt := 640) hx hb d_La_acts_23 (by decide +kernel) (by decide +kernel) (show _ = some _ from rfl) (by decide +kernel) ?_
      exact la_acts_640 l G x X t ht9 cz hcz hI hX co li hco hli hc hk hlx hl8 C0 hlk hr hP hK ls hl
