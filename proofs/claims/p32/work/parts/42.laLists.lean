set_option maxHeartbeats 4000000 in
set_option maxRecDepth 100000 in
theorem k_La_areLists (l : Launch) (G : gT) (x : Nat) (X : XS) (t : Nat)  (hI : IY t X.1) (hX : XOk X) : gM l y_La_areLists c_La_areLists 12 (some .boolean) 7 154 0 0 G [.ref x] (fun H => XAt G x X H) (rd (.int (bI true))) noF := by
  refine g_enter "GaleNamesLaw" (by decide +kernel) rfl (Nat.le_of_ble_eq_true rfl) ?_
  intro p e s m args below meth c C0 hlk hr hnm hP hK ls hl
  have hx := C0.1
  have hb := C0.2.1
  have hl : lv_has ls 12 [(0, .ref x)] := hl
  have h40 := hI.n40
  have h16 := hI.g16
  have e12 := hI.gk (k := 12) (by decide) (by decide)
  have hy := hX.1.1
  refine lv_iconst (v := nI 1) hx hb d_La_areLists_0 (by decide +kernel) ?_
  refine lv_istore_n (lv' := [(1, .int (nI 1)), (0, .ref x)]) hx hb d_La_areLists_1 rfl hl (by decide) rfl (fun ls hl => ?_)
  refine lv_iconst (v := nI 0) hx hb d_La_areLists_2 (by decide +kernel) ?_
  refine lv_istore_n (lv' := [(2, .int (nI 0)), (1, .int (nI 1)), (0, .ref x)]) hx hb d_La_areLists_3 rfl hl (by decide) rfl (fun ls hl => ?_)
  refine lv_iconst (v := nI 0) hx hb d_La_areLists_4 (by decide +kernel) ?_
  refine lv_istore_n (lv' := [(3, .int (nI 0)), (2, .int (nI 0)), (1, .int (nI 1)), (0, .ref x)]) hx hb d_La_areLists_5 rfl hl (by decide) rfl (fun ls hl => ?_)
  have lp6 : ∀ (fu : Nat) (co : Nat), (2 - co) < fu → co ≤ 2 → ∀ ls : Array Slot, lv_has ls 12 [(3, .int (nI co)), (2, .int (nI 0)), (1, .int (nI 1)), (0, .ref x)] → W p l e ({ frames := 7, cells := 0, slots := 0, locals := 154 } : Room) s m args below meth c s.heap [] 0 0 (MQ below (gQ (rd (.int (bI true)))) args s 0 0 noF) (F0 m 6 ls []) := by
    intro fu
    induction fu with
    | zero => intro co  hfu; exact absurd hfu (Nat.not_lt_zero _)
    | succ fu ih6 =>
      intro co hfu hc0 ls hl
      refine lv_iload_n hx hb d_La_areLists_6 rfl (lv_at hl 0 rfl) ?_
      refine lv_iconst (v := nI 2) hx hb d_La_areLists_7 (by decide +kernel) ?_
      refine g_cge (tgt := 365) C0 d_La_areLists_8 (by decide) (by omega) (by omega) (fun c_8 => ?_) (fun c_8 => ?_)
      · skip
        refine lv_iconst (v := nI 0) hx hb d_La_areLists_365 (by decide +kernel) ?_
        refine lv_istore_n (lv' := [(3, .int (nI 0)), (2, .int (nI 0)), (1, .int (nI 1)), (0, .ref x)]) hx hb d_La_areLists_366 rfl hl (by decide) rfl (fun ls hl => ?_)
        have lp367 : ∀ (fu : Nat) (g : Nat) (w : Nat), ((X.1.2 11).1 - g) < fu → g ≤ (X.1.2 11).1 → w = cN (fun s => (twO X.1 s).isSome) g → ∀ ls : Array Slot, lv_has ls 12 [(3, .int (nI g)), (2, .int (nI w)), (1, .int (nI 1)), (0, .ref x)] → W p l e ({ frames := 7, cells := 0, slots := 0, locals := 154 } : Room) s m args below meth c s.heap [] 0 0 (MQ below (gQ (rd (.int (bI true)))) args s 0 0 noF) (F0 m 367 ls []) := by
          intro fu
          induction fu with
          | zero => intro g w  hfu; exact absurd hfu (Nat.not_lt_zero _)
          | succ fu ih367 =>
            intro g w hfu hg hw ls hl
            refine lv_iload_n hx hb d_La_areLists_367 rfl (lv_at hl 0 rfl) ?_
            refine lv_aload_n hx hb d_La_areLists_368 rfl (lv_at hl 3 rfl) ?_
            refine lv_iconst (v := nI 3) hx hb d_La_areLists_369 (by decide +kernel) ?_
            refine g_V C0 (g_val (v' := (nI ((X.1.2 11).1))) (k_Ga_count l G x X (nI 3) hX) cnt_3) co_Ga_count im_Ga_count se_Ga_count in_Ga gc_Ga_count ml_La_22 ⟨Nat.le_of_ble_eq_true rfl, Nat.le_of_ble_eq_true rfl⟩ hK hP.1 rfl hP rfl hl.1 rfl (Nat.le_of_ble_eq_true rfl) d_La_areLists_370 ⟨Nat.le_of_ble_eq_true rfl, Nat.le_of_ble_eq_true rfl⟩ (g_r rfl ?_)
            refine g_cge (tgt := 476) C0 d_La_areLists_373 (by decide) (by omega) (by omega) (fun c_373 => ?_) (fun c_373 => ?_)
            · skip
              refine lv_iload_n hx hb d_La_areLists_476 rfl (lv_at hl 2 rfl) ?_
              refine lv_if_eq (tgt := 505) hx hb d_La_areLists_477 (by decide) (fun c_477 => ?_) (fun c_477 => ?_)
              · first | exact absurd c_477 (by decide) | exact absurd rfl c_477
              · skip
                refine lv_iload_n hx hb d_La_areLists_480 rfl (lv_at hl 1 rfl) ?_
                refine lv_iconst (v := nI 2) hx hb d_La_areLists_481 (by decide +kernel) ?_
                refine lv_aload_n hx hb d_La_areLists_482 rfl (lv_at hl 3 rfl) ?_
                refine lv_iconst (v := nI 5) hx hb d_La_areLists_483 (by decide +kernel) ?_
                refine g_V C0 (g_val (v' := (nI (twN X.1))) (k_Ga_count l G x X (nI 5) hX) cnt_5) co_Ga_count im_Ga_count se_Ga_count in_Ga gc_Ga_count ml_La_22 ⟨Nat.le_of_ble_eq_true rfl, Nat.le_of_ble_eq_true rfl⟩ hK hP.1 rfl hP rfl hl.1 rfl (Nat.le_of_ble_eq_true rfl) d_La_areLists_484 ⟨Nat.le_of_ble_eq_true rfl, Nat.le_of_ble_eq_true rfl⟩ (g_r rfl ?_)
                refine g_imul C0 (z := 2 * (twN X.1)) d_La_areLists_487 rfl ?_
                refine lv_icmp_ne (tgt := 505) hx hb d_La_areLists_488 (by decide) (fun c_488 => ?_) (fun c_488 => ?_)
                · exact absurd (by rw [hw, show g = (X.1.2 11).1 by omega, hI.tw2]) c_488
                · skip
                  refine lv_aload_n hx hb d_La_areLists_491 rfl (lv_at hl 3 rfl) ?_
                  refine lv_iconst (v := nI 3) hx hb d_La_areLists_492 (by decide +kernel) ?_
                  refine g_V C0 (g_val (v' := (nI ((X.1.2 11).1))) (k_Ga_count l G x X (nI 3) hX) cnt_3) co_Ga_count im_Ga_count se_Ga_count in_Ga gc_Ga_count ml_La_22 ⟨Nat.le_of_ble_eq_true rfl, Nat.le_of_ble_eq_true rfl⟩ hK hP.1 rfl hP rfl hl.1 rfl (Nat.le_of_ble_eq_true rfl) d_La_areLists_493 ⟨Nat.le_of_ble_eq_true rfl, Nat.le_of_ble_eq_true rfl⟩ (g_r rfl ?_)
                  refine lv_bipush (v := nI 16) hx hb d_La_areLists_496 (by decide +kernel) ?_
                  refine g_cgt (tgt := 505) C0 d_La_areLists_498 (by decide) (by omega) (by omega) (fun c_498 => ?_) (fun c_498 => ?_)
                  · exact absurd c_498 (by omega)
                  · skip
                    refine lv_iconst (v := nI 1) hx hb d_La_areLists_501 (by decide +kernel) ?_
                    refine lv_goto (tgt := 506) hx hb d_La_areLists_502 (by decide) ?_
                    refine g_zret (b := true) C0 hlk hr d_La_areLists_506 (t_nil (free := noF)) ?_
                    exact ⟨rfl, rfl⟩
            · skip
              refine lv_iload_n hx hb d_La_areLists_376 rfl (lv_at hl 2 rfl) ?_
              refine lv_if_eq (tgt := 476) hx hb d_La_areLists_377 (by decide) (fun c_377 => ?_) (fun c_377 => ?_)
              · first | exact absurd c_377 (by decide) | exact absurd rfl c_377
              · skip
                rcases htw : twO X.1 g with _ | u
                · skip
                  refine lv_aload_n hx hb d_La_areLists_380 rfl (lv_at hl 3 rfl) ?_
                  refine lv_iload_n hx hb d_La_areLists_381 rfl (lv_at hl 0 rfl) ?_
                  refine lv_iconst (v := nI 3) hx hb d_La_areLists_382 (by decide +kernel) ?_
                  refine g_V C0 (g_val (v' := (-6)) (k_Ga_ofStorm l G x X (nI g) (nI 3) hX) (by rw [st_3 hI (by omega), htw]; rfl)) co_Ga_ofStorm im_Ga_ofStorm se_Ga_ofStorm in_Ga gc_Ga_ofStorm ml_La_42 ⟨Nat.le_of_ble_eq_true rfl, Nat.le_of_ble_eq_true rfl⟩ hK hP.1 rfl hP rfl hl.1 rfl (Nat.le_of_ble_eq_true rfl) d_La_areLists_383 ⟨Nat.le_of_ble_eq_true rfl, Nat.le_of_ble_eq_true rfl⟩ (g_r rfl ?_)
                  refine lv_istore (lv' := [(4, .int (-6)), (3, .int (nI g)), (2, .int (nI w)), (1, .int (nI 1)), (0, .ref x)]) hx hb d_La_areLists_386 hl (by decide) rfl (fun ls hl => ?_)
                  refine lv_iload_n hx hb d_La_areLists_388 rfl (lv_at hl 2 rfl) ?_
                  refine lv_iload hx hb d_La_areLists_389 (lv_at hl 0 rfl) ?_
                  refine lv_if_lt (tgt := 398) hx hb d_La_areLists_391 (by decide) (fun c_391 => ?_) (fun c_391 => ?_)
                  · skip
                    refine lv_iconst (v := nI 0) hx hb d_La_areLists_398 (by decide +kernel) ?_
                    refine g_iadd C0 (z := w) d_La_areLists_399 rfl ?_
                    refine lv_istore_n (lv' := [(2, .int (nI w)), (4, .int (-6)), (3, .int (nI g)), (1, .int (nI 1)), (0, .ref x)]) hx hb d_La_areLists_400 rfl hl (by decide) rfl (fun ls hl => ?_)
                    refine lv_iload hx hb d_La_areLists_401 (lv_at hl 1 rfl) ?_
                    refine lv_if_ge (tgt := 421) hx hb d_La_areLists_403 (by decide) (fun c_403 => ?_) (fun c_403 => ?_)
                    · exact absurd c_403 (by decide)
                    · skip
                      refine lv_iload hx hb d_La_areLists_406 (lv_at hl 1 rfl) ?_
                      refine lv_bipush (v := -6) hx hb d_La_areLists_408 (by decide +kernel) ?_
                      refine lv_icmp_ne (tgt := 417) hx hb d_La_areLists_410 (by decide) (fun c_410 => ?_) (fun c_410 => ?_)
                      · exact absurd rfl c_410
                      · skip
                        refine lv_iconst (v := nI 1) hx hb d_La_areLists_413 (by decide +kernel) ?_
                        refine lv_goto (tgt := 469) hx hb d_La_areLists_414 (by decide) ?_
                        refine lv_istore_n (lv' := [(1, .int (nI 1)), (2, .int (nI w)), (4, .int (-6)), (3, .int (nI g)), (0, .ref x)]) hx hb d_La_areLists_469 rfl hl (by decide) rfl (fun ls hl => ?_)
                        refine lv_iinc (v := (nI (g + 1))) (lv' := [(3, .int (nI (g + 1))), (1, .int (nI 1)), (2, .int (nI w)), (4, .int (-6)), (0, .ref x)]) hx hb d_La_areLists_470 hl (k := 3) rfl (gI_inc _) (by decide) rfl (fun ls hl => ?_)
                        refine lv_goto (tgt := 367) hx hb d_La_areLists_473 (by decide) ?_
                        exact ih367 (g + 1) w (by omega) (by omega) (by rw [hw, cN_s, htw]; rfl) ls (lv_sub hl [0, 2, 1, 4] rfl)
                  · exact absurd (by decide) c_391
                · skip
                  have hts := tw_s hI (show g < (X.1.2 11).1 by omega) htw
                  refine lv_aload_n hx hb d_La_areLists_380 rfl (lv_at hl 3 rfl) ?_
                  refine lv_iload_n hx hb d_La_areLists_381 rfl (lv_at hl 0 rfl) ?_
                  refine lv_iconst (v := nI 3) hx hb d_La_areLists_382 (by decide +kernel) ?_
                  refine g_V C0 (g_val (v' := (nI u)) (k_Ga_ofStorm l G x X (nI g) (nI 3) hX) (by rw [st_3 hI (by omega), htw]; rfl)) co_Ga_ofStorm im_Ga_ofStorm se_Ga_ofStorm in_Ga gc_Ga_ofStorm ml_La_42 ⟨Nat.le_of_ble_eq_true rfl, Nat.le_of_ble_eq_true rfl⟩ hK hP.1 rfl hP rfl hl.1 rfl (Nat.le_of_ble_eq_true rfl) d_La_areLists_383 ⟨Nat.le_of_ble_eq_true rfl, Nat.le_of_ble_eq_true rfl⟩ (g_r rfl ?_)
                  refine lv_istore (lv' := [(4, .int (nI u)), (3, .int (nI g)), (2, .int (nI w)), (1, .int (nI 1)), (0, .ref x)]) hx hb d_La_areLists_386 hl (by decide) rfl (fun ls hl => ?_)
                  refine lv_iload_n hx hb d_La_areLists_388 rfl (lv_at hl 2 rfl) ?_
                  refine lv_iload hx hb d_La_areLists_389 (lv_at hl 0 rfl) ?_
                  refine lv_if_lt (tgt := 398) hx hb d_La_areLists_391 (by decide) (fun c_391 => ?_) (fun c_391 => ?_)
                  · exact absurd c_391 (nI_pos (by have := hts.1; omega))
                  · skip
                    refine lv_iconst (v := nI 1) hx hb d_La_areLists_394 (by decide +kernel) ?_
                    refine lv_goto (tgt := 399) hx hb d_La_areLists_395 (by decide) ?_
                    refine g_iadd C0 (z := w + 1) d_La_areLists_399 rfl ?_
                    refine lv_istore_n (lv' := [(2, .int (nI (w + 1))), (4, .int (nI u)), (3, .int (nI g)), (1, .int (nI 1)), (0, .ref x)]) hx hb d_La_areLists_400 rfl hl (by decide) rfl (fun ls hl => ?_)
                    refine lv_iload hx hb d_La_areLists_401 (lv_at hl 1 rfl) ?_
                    refine lv_if_ge (tgt := 421) hx hb d_La_areLists_403 (by decide) (fun c_403 => ?_) (fun c_403 => ?_)
                    · skip
                      refine lv_aload_n hx hb d_La_areLists_421 rfl (lv_at hl 4 rfl) ?_
                      refine lv_iload hx hb d_La_areLists_422 (lv_at hl 1 rfl) ?_
                      refine lv_iconst (v := nI 3) hx hb d_La_areLists_424 (by decide +kernel) ?_
                      refine g_V C0 (g_val (v' := (nI g)) (k_Ga_ofStorm l G x X (nI u) (nI 3) hX) (by rw [st_3 hI hts.1, hts.2.2.2.2]; rfl)) co_Ga_ofStorm im_Ga_ofStorm se_Ga_ofStorm in_Ga gc_Ga_ofStorm ml_La_42 ⟨Nat.le_of_ble_eq_true rfl, Nat.le_of_ble_eq_true rfl⟩ hK hP.1 rfl hP rfl hl.1 rfl (Nat.le_of_ble_eq_true rfl) d_La_areLists_425 ⟨Nat.le_of_ble_eq_true rfl, Nat.le_of_ble_eq_true rfl⟩ (g_r rfl ?_)
                      refine lv_iload_n hx hb d_La_areLists_428 rfl (lv_at hl 2 rfl) ?_
                      refine lv_icmp_ne (tgt := 468) hx hb d_La_areLists_429 (by decide) (fun c_429 => ?_) (fun c_429 => ?_)
                      · exact absurd rfl c_429
                      · skip
                        refine lv_aload_n hx hb d_La_areLists_432 rfl (lv_at hl 4 rfl) ?_
                        refine lv_iload hx hb d_La_areLists_433 (lv_at hl 1 rfl) ?_
                        refine lv_iconst (v := nI 0) hx hb d_La_areLists_435 (by decide +kernel) ?_
                        refine g_V C0 (g_val (v' := (nI ((X.1.2 11).2 u))) (k_Ga_ofStorm l G x X (nI u) (nI 0) hX) (st_0 hI hts.1)) co_Ga_ofStorm im_Ga_ofStorm se_Ga_ofStorm in_Ga gc_Ga_ofStorm ml_La_42 ⟨Nat.le_of_ble_eq_true rfl, Nat.le_of_ble_eq_true rfl⟩ hK hP.1 rfl hP rfl hl.1 rfl (Nat.le_of_ble_eq_true rfl) d_La_areLists_436 ⟨Nat.le_of_ble_eq_true rfl, Nat.le_of_ble_eq_true rfl⟩ (g_r rfl ?_)
                        refine lv_aload_n hx hb d_La_areLists_439 rfl (lv_at hl 4 rfl) ?_
                        refine lv_iload_n hx hb d_La_areLists_440 rfl (lv_at hl 2 rfl) ?_
                        refine lv_iconst (v := nI 0) hx hb d_La_areLists_441 (by decide +kernel) ?_
                        refine g_V C0 (g_val (v' := (nI ((X.1.2 11).2 g))) (k_Ga_ofStorm l G x X (nI g) (nI 0) hX) (st_0 hI (by omega))) co_Ga_ofStorm im_Ga_ofStorm se_Ga_ofStorm in_Ga gc_Ga_ofStorm ml_La_42 ⟨Nat.le_of_ble_eq_true rfl, Nat.le_of_ble_eq_true rfl⟩ hK hP.1 rfl hP rfl hl.1 rfl (Nat.le_of_ble_eq_true rfl) d_La_areLists_442 ⟨Nat.le_of_ble_eq_true rfl, Nat.le_of_ble_eq_true rfl⟩ (g_r rfl ?_)
                        refine lv_icmp_ne (tgt := 468) hx hb d_La_areLists_445 (by decide) (fun c_445 => ?_) (fun c_445 => ?_)
                        · exact absurd (by rw [hts.2.2.1]) c_445
                        · skip
                          refine lv_aload_n hx hb d_La_areLists_448 rfl (lv_at hl 4 rfl) ?_
                          refine lv_iload hx hb d_La_areLists_449 (lv_at hl 1 rfl) ?_
                          refine lv_iconst (v := nI 1) hx hb d_La_areLists_451 (by decide +kernel) ?_
                          refine g_V C0 (g_val (v' := (nI ((X.1.2 12).2 u))) (k_Ga_ofStorm l G x X (nI u) (nI 1) hX) (st_1 hI hts.1)) co_Ga_ofStorm im_Ga_ofStorm se_Ga_ofStorm in_Ga gc_Ga_ofStorm ml_La_42 ⟨Nat.le_of_ble_eq_true rfl, Nat.le_of_ble_eq_true rfl⟩ hK hP.1 rfl hP rfl hl.1 rfl (Nat.le_of_ble_eq_true rfl) d_La_areLists_452 ⟨Nat.le_of_ble_eq_true rfl, Nat.le_of_ble_eq_true rfl⟩ (g_r rfl ?_)
                          refine lv_aload_n hx hb d_La_areLists_455 rfl (lv_at hl 4 rfl) ?_
                          refine lv_iload_n hx hb d_La_areLists_456 rfl (lv_at hl 2 rfl) ?_
                          refine lv_iconst (v := nI 1) hx hb d_La_areLists_457 (by decide +kernel) ?_
                          refine g_V C0 (g_val (v' := (nI ((X.1.2 12).2 g))) (k_Ga_ofStorm l G x X (nI g) (nI 1) hX) (st_1 hI (by omega))) co_Ga_ofStorm im_Ga_ofStorm se_Ga_ofStorm in_Ga gc_Ga_ofStorm ml_La_42 ⟨Nat.le_of_ble_eq_true rfl, Nat.le_of_ble_eq_true rfl⟩ hK hP.1 rfl hP rfl hl.1 rfl (Nat.le_of_ble_eq_true rfl) d_La_areLists_458 ⟨Nat.le_of_ble_eq_true rfl, Nat.le_of_ble_eq_true rfl⟩ (g_r rfl ?_)
                          refine lv_icmp_eq (tgt := 468) hx hb d_La_areLists_461 (by decide) (fun c_461 => ?_) (fun c_461 => ?_)
                          · exact absurd ((nI_eqi (by have := (hI.2.2.2.2.1.2.2.1 u hts.1).2.1; omega) (by have := (hI.2.2.2.2.1.2.2.1 g (by omega)).2.1; omega)).mp c_461) hts.2.2.2.1
                          · skip
                            refine lv_iconst (v := nI 1) hx hb d_La_areLists_464 (by decide +kernel) ?_
                            refine lv_goto (tgt := 469) hx hb d_La_areLists_465 (by decide) ?_
                            refine lv_istore_n (lv' := [(1, .int (nI 1)), (2, .int (nI (w + 1))), (4, .int (nI u)), (3, .int (nI g)), (0, .ref x)]) hx hb d_La_areLists_469 rfl hl (by decide) rfl (fun ls hl => ?_)
                            refine lv_iinc (v := (nI (g + 1))) (lv' := [(3, .int (nI (g + 1))), (1, .int (nI 1)), (2, .int (nI (w + 1))), (4, .int (nI u)), (0, .ref x)]) hx hb d_La_areLists_470 hl (k := 3) rfl (gI_inc _) (by decide) rfl (fun ls hl => ?_)
                            refine lv_goto (tgt := 367) hx hb d_La_areLists_473 (by decide) ?_
                            exact ih367 (g + 1) (w + 1) (by omega) (by omega) (by rw [hw, cN_s, htw]; rfl) ls (lv_sub hl [0, 2, 1, 4] rfl)
                    · exact absurd (nI_ge0 (by have := hts.1; omega)) c_403
        exact lp367 (((X.1.2 11).1 - 0) + 1) 0 0 (by omega) (by omega) rfl ls (lv_sub hl [0, 1, 2, 3] rfl)
      · skip
        have hc : co < 2 := by omega
        have hon := hI.on hc
        refine lv_iload_n hx hb d_La_areLists_11 rfl (lv_at hl 2 rfl) ?_
        refine lv_if_eq (tgt := 365) hx hb d_La_areLists_12 (by decide) (fun c_12 => ?_) (fun c_12 => ?_)
        · first | exact absurd c_12 (by decide) | exact absurd rfl c_12
        · skip
          refine lv_bipush (v := -6) hx hb d_La_areLists_15 (by decide +kernel) ?_
          refine lv_istore (lv' := [(4, .int (-6)), (3, .int (nI co)), (2, .int (nI 0)), (1, .int (nI 1)), (0, .ref x)]) hx hb d_La_areLists_17 hl (by decide) rfl (fun ls hl => ?_)
          refine lv_iconst (v := nI 0) hx hb d_La_areLists_19 (by decide +kernel) ?_
          refine lv_istore (lv' := [(5, .int (nI 0)), (4, .int (-6)), (3, .int (nI co)), (2, .int (nI 0)), (1, .int (nI 1)), (0, .ref x)]) hx hb d_La_areLists_20 hl (by decide) rfl (fun ls hl => ?_)
          refine lv_iconst (v := nI 0) hx hb d_La_areLists_22 (by decide +kernel) ?_
          refine lv_istore (lv' := [(6, .int (nI 0)), (5, .int (nI 0)), (4, .int (-6)), (3, .int (nI co)), (2, .int (nI 0)), (1, .int (nI 1)), (0, .ref x)]) hx hb d_La_areLists_23 hl (by decide) rfl (fun ls hl => ?_)
          refine lv_iconst (v := nI 0) hx hb d_La_areLists_25 (by decide +kernel) ?_
          refine lv_istore (lv' := [(7, .int (nI 0)), (6, .int (nI 0)), (5, .int (nI 0)), (4, .int (-6)), (3, .int (nI co)), (2, .int (nI 0)), (1, .int (nI 1)), (0, .ref x)]) hx hb d_La_areLists_26 hl (by decide) rfl (fun ls hl => ?_)
          have lp28 : ∀ (fu : Nat) (k : Nat) (f : Option Nat) (lf : Nat) (o : Nat), (3 - k) < fu → k ≤ 3 → f = nxM X.1 co k 0 → lf = lfM X.1 co k 0 → o = onL X.1 co k → ∀ ls : Array Slot, lv_has ls 12 [(7, .int (nI k)), (6, .int (nI o)), (5, .int (nI lf)), (4, .int (oI (-6) f)), (3, .int (nI co)), (2, .int (nI 0)), (1, .int (nI 1)), (0, .ref x)] → W p l e ({ frames := 7, cells := 0, slots := 0, locals := 154 } : Room) s m args below meth c s.heap [] 0 0 (MQ below (gQ (rd (.int (bI true)))) args s 0 0 noF) (F0 m 28 ls []) := by
            intro fu
            induction fu with
            | zero => intro k f lf o  hfu; exact absurd hfu (Nat.not_lt_zero _)
            | succ fu ih28 =>
              intro k f lf o hfu hk0 hf hlf ho ls hl
              refine lv_iload hx hb d_La_areLists_28 (lv_at hl 0 rfl) ?_
              refine lv_iconst (v := nI 3) hx hb d_La_areLists_30 (by decide +kernel) ?_
              refine g_cge (tgt := 288) C0 d_La_areLists_31 (by decide) (by omega) (by omega) (fun c_31 => ?_) (fun c_31 => ?_)
              · skip
                refine lv_iconst (v := nI 0) hx hb d_La_areLists_288 (by decide +kernel) ?_
                refine lv_istore (lv' := [(7, .int (nI 0)), (6, .int (nI o)), (5, .int (nI lf)), (4, .int (oI (-6) f)), (3, .int (nI co)), (2, .int (nI 0)), (1, .int (nI 1)), (0, .ref x)]) hx hb d_La_areLists_289 hl (by decide) rfl (fun ls hl => ?_)
                have lp291 : ∀ (fu : Nat) (v : Nat) (o : Nat), ((X.1.2 1).1 - v) < fu → v ≤ (X.1.2 1).1 → o + sN (bit X.1 co) v = onL X.1 co 3 → ∀ ls : Array Slot, lv_has ls 12 [(7, .int (nI v)), (6, .int (nI o)), (5, .int (nI lf)), (4, .int (oI (-6) f)), (3, .int (nI co)), (2, .int (nI 0)), (1, .int (nI 1)), (0, .ref x)] → W p l e ({ frames := 7, cells := 0, slots := 0, locals := 154 } : Room) s m args below meth c s.heap [] 0 0 (MQ below (gQ (rd (.int (bI true)))) args s 0 0 noF) (F0 m 291 ls []) := by
                  intro fu
                  induction fu with
                  | zero => intro v o  hfu; exact absurd hfu (Nat.not_lt_zero _)
                  | succ fu ih291 =>
                    intro v o hfu hv ho ls hl
                    refine lv_iload hx hb d_La_areLists_291 (lv_at hl 0 rfl) ?_
                    refine lv_aload_n hx hb d_La_areLists_293 rfl (lv_at hl 7 rfl) ?_
                    refine lv_iconst (v := nI 1) hx hb d_La_areLists_294 (by decide +kernel) ?_
                    refine g_V C0 (g_val (v' := (nI ((X.1.2 1).1))) (k_Ga_count l G x X (nI 1) hX) cnt_1) co_Ga_count im_Ga_count se_Ga_count in_Ga gc_Ga_count ml_La_22 ⟨Nat.le_of_ble_eq_true rfl, Nat.le_of_ble_eq_true rfl⟩ hK hP.1 rfl hP rfl hl.1 rfl (Nat.le_of_ble_eq_true rfl) d_La_areLists_295 ⟨Nat.le_of_ble_eq_true rfl, Nat.le_of_ble_eq_true rfl⟩ (g_r rfl ?_)
                    refine g_cge (tgt := 323) C0 d_La_areLists_298 (by decide) (by omega) (by omega) (fun c_298 => ?_) (fun c_298 => ?_)
                    · skip
                      refine lv_iload_n hx hb d_La_areLists_323 rfl (lv_at hl 6 rfl) ?_
                      refine lv_if_eq (tgt := 357) hx hb d_La_areLists_324 (by decide) (fun c_324 => ?_) (fun c_324 => ?_)
                      · first | exact absurd c_324 (by decide) | exact absurd rfl c_324
                      · skip
                        refine lv_iload hx hb d_La_areLists_327 (lv_at hl 1 rfl) ?_
                        refine lv_if_ne (tgt := 357) hx hb d_La_areLists_329 (by decide) (fun c_329 => ?_) (fun c_329 => ?_)
                        · exact absurd (by rw [show o = 0 by (rw [show v = (X.1.2 1).1 by omega] at ho; omega)]; rfl) c_329
                        · skip
                          refine lv_aload_n hx hb d_La_areLists_332 rfl (lv_at hl 7 rfl) ?_
                          refine lv_iload_n hx hb d_La_areLists_333 rfl (lv_at hl 4 rfl) ?_
                          refine g_V C0 (g_val (v' := (oI (-6) (nxN X.1 co))) (k_Ga_next l G x X (nI co) hX) (nx_v hc)) co_Ga_next im_Ga_next se_Ga_next in_Ga gc_Ga_next ml_La_48 ⟨Nat.le_of_ble_eq_true rfl, Nat.le_of_ble_eq_true rfl⟩ hK hP.1 rfl hP rfl hl.1 rfl (Nat.le_of_ble_eq_true rfl) d_La_areLists_334 ⟨Nat.le_of_ble_eq_true rfl, Nat.le_of_ble_eq_true rfl⟩ (g_r rfl ?_)
                          refine lv_iload hx hb d_La_areLists_337 (lv_at hl 3 rfl) ?_
                          refine lv_icmp_ne (tgt := 357) hx hb d_La_areLists_339 (by decide) (fun c_339 => ?_) (fun c_339 => ?_)
                          · exact absurd (by rw [hf, show k = 3 by omega, nxM_3]) c_339
                          · skip
                            refine lv_aload_n hx hb d_La_areLists_342 rfl (lv_at hl 7 rfl) ?_
                            refine lv_iload_n hx hb d_La_areLists_343 rfl (lv_at hl 4 rfl) ?_
                            refine lv_iconst (v := nI 0) hx hb d_La_areLists_344 (by decide +kernel) ?_
                            refine g_V C0 (g_val (v' := (nI (nmL X.1 co 0))) (k_Ga_left l G x X (nI co) (nI 0) hX) (lf_v hc (by decide))) co_Ga_left im_Ga_left se_Ga_left in_Ga gc_Ga_left ml_La_45 ⟨Nat.le_of_ble_eq_true rfl, Nat.le_of_ble_eq_true rfl⟩ hK hP.1 rfl hP rfl hl.1 rfl (Nat.le_of_ble_eq_true rfl) d_La_areLists_345 ⟨Nat.le_of_ble_eq_true rfl, Nat.le_of_ble_eq_true rfl⟩ (g_r rfl ?_)
                            refine lv_iload hx hb d_La_areLists_348 (lv_at hl 2 rfl) ?_
                            refine lv_icmp_ne (tgt := 357) hx hb d_La_areLists_350 (by decide) (fun c_350 => ?_) (fun c_350 => ?_)
                            · exact absurd (by rw [hlf, show k = 3 by omega, lfM_3]) c_350
                            · skip
                              refine lv_iconst (v := nI 1) hx hb d_La_areLists_353 (by decide +kernel) ?_
                              refine lv_goto (tgt := 358) hx hb d_La_areLists_354 (by decide) ?_
                              refine lv_istore_n (lv' := [(1, .int (nI 1)), (7, .int (nI v)), (6, .int (nI o)), (5, .int (nI lf)), (4, .int (oI (-6) f)), (3, .int (nI co)), (2, .int (nI 0)), (0, .ref x)]) hx hb d_La_areLists_358 rfl hl (by decide) rfl (fun ls hl => ?_)
                              refine lv_iinc (v := (nI (co + 1))) (lv' := [(3, .int (nI (co + 1))), (1, .int (nI 1)), (7, .int (nI v)), (6, .int (nI o)), (5, .int (nI lf)), (4, .int (oI (-6) f)), (2, .int (nI 0)), (0, .ref x)]) hx hb d_La_areLists_359 hl (k := 5) rfl (gI_inc _) (by decide) rfl (fun ls hl => ?_)
                              refine lv_goto (tgt := 6) hx hb d_La_areLists_362 (by decide) ?_
                              exact ih6 (co + 1) (by omega) (by omega) ls (lv_sub hl [0, 6, 1, 7] rfl)
                    · skip
                      have hmo : sN (bit X.1 co) (v + 1) ≤ sN (bit X.1 co) (X.1.2 1).1 := sN_mono (by omega)
                      have hss := sN_s (bit X.1 co) v
                      have hc3 := coF_lt (Y := X.1) v
                      refine lv_iload hx hb d_La_areLists_301 (lv_at hl 1 rfl) ?_
                      refine lv_aload_n hx hb d_La_areLists_303 rfl (lv_at hl 7 rfl) ?_
                      refine lv_iload hx hb d_La_areLists_304 (lv_at hl 0 rfl) ?_
                      refine lv_iconst (v := nI 2) hx hb d_La_areLists_306 (by decide +kernel) ?_
                      refine g_V C0 (g_val (v' := (nI (coF X.1 v 2))) (k_Ga_of l G x X (nI v) (nI 2) hX) (of_2 hI (by omega))) co_Ga_of im_Ga_of se_Ga_of in_Ga gc_Ga_of ml_La_26 ⟨Nat.le_of_ble_eq_true rfl, Nat.le_of_ble_eq_true rfl⟩ hK hP.1 rfl hP rfl hl.1 rfl (Nat.le_of_ble_eq_true rfl) d_La_areLists_307 ⟨Nat.le_of_ble_eq_true rfl, Nat.le_of_ble_eq_true rfl⟩ (g_r rfl ?_)
                      refine lv_iload_n hx hb d_La_areLists_310 rfl (lv_at hl 4 rfl) ?_
                      refine g_ishr C0 (z := coF X.1 v 2 / 2 ^ co) d_La_areLists_311 (by omega) (by omega) rfl ?_
                      refine lv_iconst (v := nI 1) hx hb d_La_areLists_312 (by decide +kernel) ?_
                      refine g_iand C0 (z := bit X.1 co v) d_La_areLists_313 (bit_b hc) ?_
                      refine g_isub C0 (z := o - bit X.1 co v) d_La_areLists_314 (by omega) ?_
                      refine lv_istore (lv' := [(6, .int (nI (o - bit X.1 co v))), (7, .int (nI v)), (5, .int (nI lf)), (4, .int (oI (-6) f)), (3, .int (nI co)), (2, .int (nI 0)), (1, .int (nI 1)), (0, .ref x)]) hx hb d_La_areLists_315 hl (by decide) rfl (fun ls hl => ?_)
                      refine lv_iinc (v := (nI (v + 1))) (lv' := [(7, .int (nI (v + 1))), (6, .int (nI (o - bit X.1 co v))), (5, .int (nI lf)), (4, .int (oI (-6) f)), (3, .int (nI co)), (2, .int (nI 0)), (1, .int (nI 1)), (0, .ref x)]) hx hb d_La_areLists_317 hl (k := 1) rfl (gI_inc _) (by decide) rfl (fun ls hl => ?_)
                      refine lv_goto (tgt := 291) hx hb d_La_areLists_320 (by decide) ?_
                      exact ih291 (v + 1) (o - bit X.1 co v) (by omega) (by omega) (by rw [sN_s]; omega) ls (lv_sub hl [0, 1, 2, 3, 4, 5, 6, 7] rfl)
                exact lp291 (((X.1.2 1).1 - 0) + 1) 0 o (by omega) (by omega) (by rw [ho, show k = 3 by omega]; rfl) ls (lv_sub hl [0, 1, 2, 3, 4, 5, 6, 7] rfl)
              · skip
                have hk : k < 3 := by omega
                have hlx := lix_lt hc hk
                have hl8 : (Lst X.1 co k).1 ≤ 8 := hI.l8 hlx
                refine lv_iload_n hx hb d_La_areLists_34 rfl (lv_at hl 6 rfl) ?_
                refine lv_if_eq (tgt := 288) hx hb d_La_areLists_35 (by decide) (fun c_35 => ?_) (fun c_35 => ?_)
                · first | exact absurd c_35 (by decide) | exact absurd rfl c_35
                · skip
                  refine lv_iconst (v := nI 0) hx hb d_La_areLists_38 (by decide +kernel) ?_
                  refine lv_istore (lv' := [(8, .int (nI 0)), (7, .int (nI k)), (6, .int (nI o)), (5, .int (nI lf)), (4, .int (oI (-6) f)), (3, .int (nI co)), (2, .int (nI 0)), (1, .int (nI 1)), (0, .ref x)]) hx hb d_La_areLists_39 hl (by decide) rfl (fun ls hl => ?_)
                  have lp41 : ∀ (fu : Nat) (mm : Nat) (f : Option Nat) (lf : Nat) (o : Nat), (9 - mm) < fu → mm ≤ (Lst X.1 co k).1 → f = nxM X.1 co k mm → lf = lfM X.1 co k mm → o = onL X.1 co k + mm → ∀ ls : Array Slot, lv_has ls 12 [(8, .int (nI mm)), (7, .int (nI k)), (6, .int (nI o)), (5, .int (nI lf)), (4, .int (oI (-6) f)), (3, .int (nI co)), (2, .int (nI 0)), (1, .int (nI 1)), (0, .ref x)] → W p l e ({ frames := 7, cells := 0, slots := 0, locals := 154 } : Room) s m args below meth c s.heap [] 0 0 (MQ below (gQ (rd (.int (bI true)))) args s 0 0 noF) (F0 m 41 ls []) := by
                    intro fu
                    induction fu with
                    | zero => intro mm f lf o  hfu; exact absurd hfu (Nat.not_lt_zero _)
                    | succ fu ih41 =>
                      intro mm f lf o hfu hm hf hlf ho ls hl
                      refine lv_iload hx hb d_La_areLists_41 (lv_at hl 0 rfl) ?_
                      refine lv_bipush (v := nI 9) hx hb d_La_areLists_43 (by decide +kernel) ?_
                      refine g_cge (tgt := 232) C0 d_La_areLists_45 (by decide) (by omega) (by omega) (fun c_45 => ?_) (fun c_45 => ?_)
                      · exact absurd c_45 (by omega)
                      · skip
                        rcases Nat.lt_or_ge mm (Lst X.1 co k).1 with hm2 | hm2
                        · skip
                          have hnn : (Lst X.1 co k).2 mm < (X.1.2 1).1 ∧ (X.1.2 2).2 ((Lst X.1 co k).2 mm) = 0 := (hI.2.2.1 _ hlx).2 mm hm2
                          refine lv_aload_n hx hb d_La_areLists_48 rfl (lv_at hl 8 rfl) ?_
                          refine lv_iload_n hx hb d_La_areLists_49 rfl (lv_at hl 5 rfl) ?_
                          refine lv_iload hx hb d_La_areLists_50 (lv_at hl 1 rfl) ?_
                          refine lv_iload hx hb d_La_areLists_52 (lv_at hl 0 rfl) ?_
                          refine g_V C0 (g_val (v' := (nI ((Lst X.1 co k).2 mm))) (k_Ga_listed l G x X (nI co) (nI k) (nI mm) hX) (ls_v hI hc hk hm2)) co_Ga_listed im_Ga_listed se_Ga_listed in_Ga gc_Ga_listed ml_La_38 ⟨Nat.le_of_ble_eq_true rfl, Nat.le_of_ble_eq_true rfl⟩ hK hP.1 rfl hP rfl hl.1 rfl (Nat.le_of_ble_eq_true rfl) d_La_areLists_54 ⟨Nat.le_of_ble_eq_true rfl, Nat.le_of_ble_eq_true rfl⟩ (g_r rfl ?_)
                          refine lv_if_lt (tgt := 232) hx hb d_La_areLists_57 (by decide) (fun c_57 => ?_) (fun c_57 => ?_)
                          · exact absurd c_57 (nI_pos (by omega))
                          · skip
                            refine lv_aload_n hx hb d_La_areLists_60 rfl (lv_at hl 8 rfl) ?_
                            refine lv_iload_n hx hb d_La_areLists_61 rfl (lv_at hl 5 rfl) ?_
                            refine lv_iload hx hb d_La_areLists_62 (lv_at hl 1 rfl) ?_
                            refine lv_iload hx hb d_La_areLists_64 (lv_at hl 0 rfl) ?_
                            refine g_V C0 (g_val (v' := (nI ((Lst X.1 co k).2 mm))) (k_Ga_listed l G x X (nI co) (nI k) (nI mm) hX) (ls_v hI hc hk hm2)) co_Ga_listed im_Ga_listed se_Ga_listed in_Ga gc_Ga_listed ml_La_38 ⟨Nat.le_of_ble_eq_true rfl, Nat.le_of_ble_eq_true rfl⟩ hK hP.1 rfl hP rfl hl.1 rfl (Nat.le_of_ble_eq_true rfl) d_La_areLists_66 ⟨Nat.le_of_ble_eq_true rfl, Nat.le_of_ble_eq_true rfl⟩ (g_r rfl ?_)
                            refine lv_istore (lv' := [(9, .int (nI ((Lst X.1 co k).2 mm))), (8, .int (nI mm)), (7, .int (nI k)), (6, .int (nI o)), (5, .int (nI lf)), (4, .int (oI (-6) f)), (3, .int (nI co)), (2, .int (nI 0)), (1, .int (nI 1)), (0, .ref x)]) hx hb d_La_areLists_69 hl (by decide) rfl (fun ls hl => ?_)
                            refine lv_iconst (v := nI 0) hx hb d_La_areLists_71 (by decide +kernel) ?_
                            refine lv_istore (lv' := [(10, .int (nI 0)), (9, .int (nI ((Lst X.1 co k).2 mm))), (8, .int (nI mm)), (7, .int (nI k)), (6, .int (nI o)), (5, .int (nI lf)), (4, .int (oI (-6) f)), (3, .int (nI co)), (2, .int (nI 0)), (1, .int (nI 1)), (0, .ref x)]) hx hb d_La_areLists_72 hl (by decide) rfl (fun ls hl => ?_)
                            refine lv_iconst (v := nI 0) hx hb d_La_areLists_74 (by decide +kernel) ?_
                            refine lv_istore (lv' := [(11, .int (nI 0)), (10, .int (nI 0)), (9, .int (nI ((Lst X.1 co k).2 mm))), (8, .int (nI mm)), (7, .int (nI k)), (6, .int (nI o)), (5, .int (nI lf)), (4, .int (oI (-6) f)), (3, .int (nI co)), (2, .int (nI 0)), (1, .int (nI 1)), (0, .ref x)]) hx hb d_La_areLists_75 hl (by decide) rfl (fun ls hl => ?_)
                            have lp77 : ∀ (fu : Nat) (g : Nat) (b : Bool), ((X.1.2 11).1 - g) < fu → g ≤ (X.1.2 11).1 → b = aN (fun s => (X.1.2 11).2 s == (Lst X.1 co k).2 mm && (X.1.2 12).2 s == co) g → ∀ ls : Array Slot, lv_has ls 12 [(11, .int (nI g)), (10, .int (bI b)), (9, .int (nI ((Lst X.1 co k).2 mm))), (8, .int (nI mm)), (7, .int (nI k)), (6, .int (nI o)), (5, .int (nI lf)), (4, .int (oI (-6) f)), (3, .int (nI co)), (2, .int (nI 0)), (1, .int (nI 1)), (0, .ref x)] → W p l e ({ frames := 7, cells := 0, slots := 0, locals := 154 } : Room) s m args below meth c s.heap [] 0 0 (MQ below (gQ (rd (.int (bI true)))) args s 0 0 noF) (F0 m 77 ls []) := by
                              intro fu
                              induction fu with
                              | zero => intro g b  hfu; exact absurd hfu (Nat.not_lt_zero _)
                              | succ fu ih77 =>
                                intro g b hfu hg hb2 ls hl
                                refine lv_iload hx hb d_La_areLists_77 (lv_at hl 0 rfl) ?_
                                refine lv_aload_n hx hb d_La_areLists_79 rfl (lv_at hl 11 rfl) ?_
                                refine lv_iconst (v := nI 3) hx hb d_La_areLists_80 (by decide +kernel) ?_
                                refine g_V C0 (g_val (v' := (nI ((X.1.2 11).1))) (k_Ga_count l G x X (nI 3) hX) cnt_3) co_Ga_count im_Ga_count se_Ga_count in_Ga gc_Ga_count ml_La_22 ⟨Nat.le_of_ble_eq_true rfl, Nat.le_of_ble_eq_true rfl⟩ hK hP.1 rfl hP rfl hl.1 rfl (Nat.le_of_ble_eq_true rfl) d_La_areLists_81 ⟨Nat.le_of_ble_eq_true rfl, Nat.le_of_ble_eq_true rfl⟩ (g_r rfl ?_)
                                refine g_cge (tgt := 128) C0 d_La_areLists_84 (by decide) (by omega) (by omega) (fun c_84 => ?_) (fun c_84 => ?_)
                                · skip
                                  refine lv_iload hx hb d_La_areLists_128 (lv_at hl 4 rfl) ?_
                                  refine lv_aload_n hx hb d_La_areLists_130 rfl (lv_at hl 11 rfl) ?_
                                  refine lv_iconst (v := nI 0) hx hb d_La_areLists_131 (by decide +kernel) ?_
                                  refine g_V C0 (g_val (v' := (nI X.1.1)) (k_Ga_count l G x X (nI 0) hX) cnt_0) co_Ga_count im_Ga_count se_Ga_count in_Ga gc_Ga_count ml_La_22 ⟨Nat.le_of_ble_eq_true rfl, Nat.le_of_ble_eq_true rfl⟩ hK hP.1 rfl hP rfl hl.1 rfl (Nat.le_of_ble_eq_true rfl) d_La_areLists_132 ⟨Nat.le_of_ble_eq_true rfl, Nat.le_of_ble_eq_true rfl⟩ (g_r rfl ?_)
                                  refine lv_iconst (v := nI 3) hx hb d_La_areLists_135 (by decide +kernel) ?_
                                  refine g_irem C0 (z := X.1.1 % 3) d_La_areLists_136 (by omega) (by omega) (by omega) rfl ?_
                                  refine g_cne (tgt := 149) C0 d_La_areLists_137 (by decide) (by omega) (by omega) (fun c_137 => ?_) (fun c_137 => ?_)
                                  · skip
                                    refine lv_iconst (v := nI 0) hx hb d_La_areLists_149 (by decide +kernel) ?_
                                    refine lv_istore (lv' := [(11, .int (nI 0)), (10, .int (bI b)), (9, .int (nI ((Lst X.1 co k).2 mm))), (8, .int (nI mm)), (7, .int (nI k)), (6, .int (nI o)), (5, .int (nI lf)), (4, .int (oI (-6) f)), (3, .int (nI co)), (2, .int (nI 0)), (1, .int (nI 1)), (0, .ref x)]) hx hb d_La_areLists_150 hl (by decide) rfl (fun ls hl => ?_)
                                    refine lv_iload hx hb d_La_areLists_152 (lv_at hl 7 rfl) ?_
                                    refine lv_bipush (v := -6) hx hb d_La_areLists_154 (by decide +kernel) ?_
                                    refine lv_icmp_ne (tgt := 169) hx hb d_La_areLists_156 (by decide) (fun c_156 => ?_) (fun c_156 => ?_)
                                    · skip
                                      refine lv_iload hx hb d_La_areLists_169 (lv_at hl 7 rfl) ?_
                                      refine lv_istore (lv' := [(4, .int (oI (-6) f)), (11, .int (nI 0)), (10, .int (bI b)), (9, .int (nI ((Lst X.1 co k).2 mm))), (8, .int (nI mm)), (7, .int (nI k)), (6, .int (nI o)), (5, .int (nI lf)), (3, .int (nI co)), (2, .int (nI 0)), (1, .int (nI 1)), (0, .ref x)]) hx hb d_La_areLists_171 hl (by decide) rfl (fun ls hl => ?_)
                                      refine lv_iload hx hb d_La_areLists_173 (lv_at hl 7 rfl) ?_
                                      refine lv_iload hx hb d_La_areLists_175 (lv_at hl 1 rfl) ?_
                                      refine lv_if_eq (tgt := 184) hx hb d_La_areLists_177 (by decide) (fun c_177 => ?_) (fun c_177 => ?_)
                                      · skip
                                        refine lv_iconst (v := nI 0) hx hb d_La_areLists_184 (by decide +kernel) ?_
                                        refine g_iadd C0 (z := lf) d_La_areLists_185 rfl ?_
                                        refine lv_istore (lv' := [(5, .int (nI lf)), (4, .int (oI (-6) f)), (11, .int (nI 0)), (10, .int (bI b)), (9, .int (nI ((Lst X.1 co k).2 mm))), (8, .int (nI mm)), (7, .int (nI k)), (6, .int (nI o)), (3, .int (nI co)), (2, .int (nI 0)), (1, .int (nI 1)), (0, .ref x)]) hx hb d_La_areLists_186 hl (by decide) rfl (fun ls hl => ?_)
                                        refine lv_iinc (v := (nI (o + 1))) (lv' := [(6, .int (nI (o + 1))), (5, .int (nI lf)), (4, .int (oI (-6) f)), (11, .int (nI 0)), (10, .int (bI b)), (9, .int (nI ((Lst X.1 co k).2 mm))), (8, .int (nI mm)), (7, .int (nI k)), (3, .int (nI co)), (2, .int (nI 0)), (1, .int (nI 1)), (0, .ref x)]) hx hb d_La_areLists_188 hl (k := 7) rfl (gI_inc _) (by decide) rfl (fun ls hl => ?_)
                                        refine lv_iinc (v := (nI (mm + 1))) (lv' := [(8, .int (nI (mm + 1))), (6, .int (nI (o + 1))), (5, .int (nI lf)), (4, .int (oI (-6) f)), (11, .int (nI 0)), (10, .int (bI b)), (9, .int (nI ((Lst X.1 co k).2 mm))), (7, .int (nI k)), (3, .int (nI co)), (2, .int (nI 0)), (1, .int (nI 1)), (0, .ref x)]) hx hb d_La_areLists_191 hl (k := 6) rfl (gI_inc _) (by decide) rfl (fun ls hl => ?_)
                                        refine lv_iload_n hx hb d_La_areLists_194 rfl (lv_at hl 10 rfl) ?_
                                        refine lv_if_eq (tgt := 227) hx hb d_La_areLists_195 (by decide) (fun c_195 => ?_) (fun c_195 => ?_)
                                        · first | exact absurd c_195 (by decide) | exact absurd rfl c_195
                                        · skip
                                          refine lv_aload_n hx hb d_La_areLists_198 rfl (lv_at hl 11 rfl) ?_
                                          refine lv_iload hx hb d_La_areLists_199 (lv_at hl 6 rfl) ?_
                                          refine lv_iconst (v := nI 2) hx hb d_La_areLists_201 (by decide +kernel) ?_
                                          refine g_V C0 (g_val (v' := (nI (coF X.1 ((Lst X.1 co k).2 mm) 2))) (k_Ga_of l G x X (nI ((Lst X.1 co k).2 mm)) (nI 2) hX) (of_2 hI hnn.1)) co_Ga_of im_Ga_of se_Ga_of in_Ga gc_Ga_of ml_La_26 ⟨Nat.le_of_ble_eq_true rfl, Nat.le_of_ble_eq_true rfl⟩ hK hP.1 rfl hP rfl hl.1 rfl (Nat.le_of_ble_eq_true rfl) d_La_areLists_202 ⟨Nat.le_of_ble_eq_true rfl, Nat.le_of_ble_eq_true rfl⟩ (g_r rfl ?_)
                                          refine lv_iload_n hx hb d_La_areLists_205 rfl (lv_at hl 8 rfl) ?_
                                          have hc3 := coF_lt (Y := X.1) ((Lst X.1 co k).2 mm)
                                          refine g_ishr C0 (z := coF X.1 ((Lst X.1 co k).2 mm) 2 / 2 ^ co) d_La_areLists_206 (by omega) (by omega) rfl ?_
                                          refine lv_iconst (v := nI 1) hx hb d_La_areLists_207 (by decide +kernel) ?_
                                          refine g_iand C0 (z := bit X.1 co ((Lst X.1 co k).2 mm)) d_La_areLists_208 (bit_b hc) ?_
                                          refine lv_iconst (v := nI 1) hx hb d_La_areLists_209 (by decide +kernel) ?_
                                          refine lv_icmp_ne (tgt := 227) hx hb d_La_areLists_210 (by decide) (fun c_210 => ?_) (fun c_210 => ?_)
                                          · exact absurd (by rw [show bit X.1 co ((Lst X.1 co k).2 mm) = 1 from if_pos (stO_l hk hm2)]) c_210
                                          · skip
                                            refine lv_aload_n hx hb d_La_areLists_213 rfl (lv_at hl 11 rfl) ?_
                                            refine lv_iload hx hb d_La_areLists_214 (lv_at hl 6 rfl) ?_
                                            refine lv_iconst (v := nI 1) hx hb d_La_areLists_216 (by decide +kernel) ?_
                                            refine g_V C0 (g_val (v' := (nI ((X.1.2 2).2 ((Lst X.1 co k).2 mm)))) (k_Ga_of l G x X (nI ((Lst X.1 co k).2 mm)) (nI 1) hX) (of_1 hI hnn.1)) co_Ga_of im_Ga_of se_Ga_of in_Ga gc_Ga_of ml_La_26 ⟨Nat.le_of_ble_eq_true rfl, Nat.le_of_ble_eq_true rfl⟩ hK hP.1 rfl hP rfl hl.1 rfl (Nat.le_of_ble_eq_true rfl) d_La_areLists_217 ⟨Nat.le_of_ble_eq_true rfl, Nat.le_of_ble_eq_true rfl⟩ (g_r rfl ?_)
                                            refine lv_if_ne (tgt := 227) hx hb d_La_areLists_220 (by decide) (fun c_220 => ?_) (fun c_220 => ?_)
                                            · exact absurd (by rw [hnn.2]; rfl) c_220
                                            · skip
                                              refine lv_iconst (v := nI 1) hx hb d_La_areLists_223 (by decide +kernel) ?_
                                              refine lv_goto (tgt := 228) hx hb d_La_areLists_224 (by decide) ?_
                                              refine lv_istore_n (lv' := [(1, .int (nI 1)), (8, .int (nI (mm + 1))), (6, .int (nI (o + 1))), (5, .int (nI lf)), (4, .int (oI (-6) f)), (11, .int (nI 0)), (10, .int (bI b)), (9, .int (nI ((Lst X.1 co k).2 mm))), (7, .int (nI k)), (3, .int (nI co)), (2, .int (nI 0)), (0, .ref x)]) hx hb d_La_areLists_228 rfl hl (by decide) rfl (fun ls hl => ?_)
                                              refine lv_goto (tgt := 41) hx hb d_La_areLists_229 (by decide) ?_
                                              exact ih41 (mm + 1) f lf (o + 1) (by omega) (by omega) (by rw [hf, nxM_o c_137 (mm + 1)]) (by rw [hlf, lfM_o c_137 (mm + 1)]) (by omega) ls (lv_sub hl [1, 8, 2, 3, 4, 9, 10, 0, 11] rfl)
                                      · first | exact absurd c_177 (by decide) | exact absurd rfl c_177
                                    · skip
                                      have hf0 : f = none := (oI6_n (fun i e => by rw [hf] at e; exact nxM_lt hI hc hk hm e)).mp c_156
                                      refine lv_iload hx hb d_La_areLists_159 (lv_at hl 0 rfl) ?_
                                      refine lv_if_eq (tgt := 169) hx hb d_La_areLists_161 (by decide) (fun c_161 => ?_) (fun c_161 => ?_)
                                      · skip
                                        refine lv_iload hx hb d_La_areLists_169 (lv_at hl 7 rfl) ?_
                                        refine lv_istore (lv' := [(4, .int (oI (-6) f)), (11, .int (nI 0)), (10, .int (bI b)), (9, .int (nI ((Lst X.1 co k).2 mm))), (8, .int (nI mm)), (7, .int (nI k)), (6, .int (nI o)), (5, .int (nI lf)), (3, .int (nI co)), (2, .int (nI 0)), (1, .int (nI 1)), (0, .ref x)]) hx hb d_La_areLists_171 hl (by decide) rfl (fun ls hl => ?_)
                                        refine lv_iload hx hb d_La_areLists_173 (lv_at hl 7 rfl) ?_
                                        refine lv_iload hx hb d_La_areLists_175 (lv_at hl 1 rfl) ?_
                                        refine lv_if_eq (tgt := 184) hx hb d_La_areLists_177 (by decide) (fun c_177 => ?_) (fun c_177 => ?_)
                                        · skip
                                          refine lv_iconst (v := nI 0) hx hb d_La_areLists_184 (by decide +kernel) ?_
                                          refine g_iadd C0 (z := lf) d_La_areLists_185 rfl ?_
                                          refine lv_istore (lv' := [(5, .int (nI lf)), (4, .int (oI (-6) f)), (11, .int (nI 0)), (10, .int (bI b)), (9, .int (nI ((Lst X.1 co k).2 mm))), (8, .int (nI mm)), (7, .int (nI k)), (6, .int (nI o)), (3, .int (nI co)), (2, .int (nI 0)), (1, .int (nI 1)), (0, .ref x)]) hx hb d_La_areLists_186 hl (by decide) rfl (fun ls hl => ?_)
                                          refine lv_iinc (v := (nI (o + 1))) (lv' := [(6, .int (nI (o + 1))), (5, .int (nI lf)), (4, .int (oI (-6) f)), (11, .int (nI 0)), (10, .int (bI b)), (9, .int (nI ((Lst X.1 co k).2 mm))), (8, .int (nI mm)), (7, .int (nI k)), (3, .int (nI co)), (2, .int (nI 0)), (1, .int (nI 1)), (0, .ref x)]) hx hb d_La_areLists_188 hl (k := 7) rfl (gI_inc _) (by decide) rfl (fun ls hl => ?_)
                                          refine lv_iinc (v := (nI (mm + 1))) (lv' := [(8, .int (nI (mm + 1))), (6, .int (nI (o + 1))), (5, .int (nI lf)), (4, .int (oI (-6) f)), (11, .int (nI 0)), (10, .int (bI b)), (9, .int (nI ((Lst X.1 co k).2 mm))), (7, .int (nI k)), (3, .int (nI co)), (2, .int (nI 0)), (1, .int (nI 1)), (0, .ref x)]) hx hb d_La_areLists_191 hl (k := 6) rfl (gI_inc _) (by decide) rfl (fun ls hl => ?_)
                                          refine lv_iload_n hx hb d_La_areLists_194 rfl (lv_at hl 10 rfl) ?_
                                          refine lv_if_eq (tgt := 227) hx hb d_La_areLists_195 (by decide) (fun c_195 => ?_) (fun c_195 => ?_)
                                          · first | exact absurd c_195 (by decide) | exact absurd rfl c_195
                                          · skip
                                            refine lv_aload_n hx hb d_La_areLists_198 rfl (lv_at hl 11 rfl) ?_
                                            refine lv_iload hx hb d_La_areLists_199 (lv_at hl 6 rfl) ?_
                                            refine lv_iconst (v := nI 2) hx hb d_La_areLists_201 (by decide +kernel) ?_
                                            refine g_V C0 (g_val (v' := (nI (coF X.1 ((Lst X.1 co k).2 mm) 2))) (k_Ga_of l G x X (nI ((Lst X.1 co k).2 mm)) (nI 2) hX) (of_2 hI hnn.1)) co_Ga_of im_Ga_of se_Ga_of in_Ga gc_Ga_of ml_La_26 ⟨Nat.le_of_ble_eq_true rfl, Nat.le_of_ble_eq_true rfl⟩ hK hP.1 rfl hP rfl hl.1 rfl (Nat.le_of_ble_eq_true rfl) d_La_areLists_202 ⟨Nat.le_of_ble_eq_true rfl, Nat.le_of_ble_eq_true rfl⟩ (g_r rfl ?_)
                                            refine lv_iload_n hx hb d_La_areLists_205 rfl (lv_at hl 8 rfl) ?_
                                            have hc3 := coF_lt (Y := X.1) ((Lst X.1 co k).2 mm)
                                            refine g_ishr C0 (z := coF X.1 ((Lst X.1 co k).2 mm) 2 / 2 ^ co) d_La_areLists_206 (by omega) (by omega) rfl ?_
                                            refine lv_iconst (v := nI 1) hx hb d_La_areLists_207 (by decide +kernel) ?_
                                            refine g_iand C0 (z := bit X.1 co ((Lst X.1 co k).2 mm)) d_La_areLists_208 (bit_b hc) ?_
                                            refine lv_iconst (v := nI 1) hx hb d_La_areLists_209 (by decide +kernel) ?_
                                            refine lv_icmp_ne (tgt := 227) hx hb d_La_areLists_210 (by decide) (fun c_210 => ?_) (fun c_210 => ?_)
                                            · exact absurd (by rw [show bit X.1 co ((Lst X.1 co k).2 mm) = 1 from if_pos (stO_l hk hm2)]) c_210
                                            · skip
                                              refine lv_aload_n hx hb d_La_areLists_213 rfl (lv_at hl 11 rfl) ?_
                                              refine lv_iload hx hb d_La_areLists_214 (lv_at hl 6 rfl) ?_
                                              refine lv_iconst (v := nI 1) hx hb d_La_areLists_216 (by decide +kernel) ?_
                                              refine g_V C0 (g_val (v' := (nI ((X.1.2 2).2 ((Lst X.1 co k).2 mm)))) (k_Ga_of l G x X (nI ((Lst X.1 co k).2 mm)) (nI 1) hX) (of_1 hI hnn.1)) co_Ga_of im_Ga_of se_Ga_of in_Ga gc_Ga_of ml_La_26 ⟨Nat.le_of_ble_eq_true rfl, Nat.le_of_ble_eq_true rfl⟩ hK hP.1 rfl hP rfl hl.1 rfl (Nat.le_of_ble_eq_true rfl) d_La_areLists_217 ⟨Nat.le_of_ble_eq_true rfl, Nat.le_of_ble_eq_true rfl⟩ (g_r rfl ?_)
                                              refine lv_if_ne (tgt := 227) hx hb d_La_areLists_220 (by decide) (fun c_220 => ?_) (fun c_220 => ?_)
                                              · exact absurd (by rw [hnn.2]; rfl) c_220
                                              · skip
                                                refine lv_iconst (v := nI 1) hx hb d_La_areLists_223 (by decide +kernel) ?_
                                                refine lv_goto (tgt := 228) hx hb d_La_areLists_224 (by decide) ?_
                                                refine lv_istore_n (lv' := [(1, .int (nI 1)), (8, .int (nI (mm + 1))), (6, .int (nI (o + 1))), (5, .int (nI lf)), (4, .int (oI (-6) f)), (11, .int (nI 0)), (10, .int (bI b)), (9, .int (nI ((Lst X.1 co k).2 mm))), (7, .int (nI k)), (3, .int (nI co)), (2, .int (nI 0)), (0, .ref x)]) hx hb d_La_areLists_228 rfl hl (by decide) rfl (fun ls hl => ?_)
                                                refine lv_goto (tgt := 41) hx hb d_La_areLists_229 (by decide) ?_
                                                exact ih41 (mm + 1) f lf (o + 1) (by omega) (by omega) (by rw [hf, nxM_o c_137 (mm + 1)]) (by rw [hlf, lfM_o c_137 (mm + 1)]) (by omega) ls (lv_sub hl [1, 8, 2, 3, 4, 9, 10, 0, 11] rfl)
                                        · first | exact absurd c_177 (by decide) | exact absurd rfl c_177
                                      · first | exact absurd c_161 (by decide) | exact absurd rfl c_161
                                  · skip
                                    refine lv_iload hx hb d_La_areLists_140 (lv_at hl 1 rfl) ?_
                                    refine g_zne (tgt := 149) C0 d_La_areLists_142 (by decide) (fun c_142 => ?_) (fun c_142 => ?_)
                                    · skip
                                      have hgv : wGv X.1 ((Lst X.1 co k).2 mm) co = true := by rw [wGv_in hI, ← show g = (X.1.2 11).1 by omega, ← hb2]; exact c_142
                                      refine lv_iconst (v := nI 0) hx hb d_La_areLists_149 (by decide +kernel) ?_
                                      refine lv_istore (lv' := [(11, .int (nI 0)), (10, .int (bI b)), (9, .int (nI ((Lst X.1 co k).2 mm))), (8, .int (nI mm)), (7, .int (nI k)), (6, .int (nI o)), (5, .int (nI lf)), (4, .int (oI (-6) f)), (3, .int (nI co)), (2, .int (nI 0)), (1, .int (nI 1)), (0, .ref x)]) hx hb d_La_areLists_150 hl (by decide) rfl (fun ls hl => ?_)
                                      refine lv_iload hx hb d_La_areLists_152 (lv_at hl 7 rfl) ?_
                                      refine lv_bipush (v := -6) hx hb d_La_areLists_154 (by decide +kernel) ?_
                                      refine lv_icmp_ne (tgt := 169) hx hb d_La_areLists_156 (by decide) (fun c_156 => ?_) (fun c_156 => ?_)
                                      · skip
                                        refine lv_iload hx hb d_La_areLists_169 (lv_at hl 7 rfl) ?_
                                        refine lv_istore (lv' := [(4, .int (oI (-6) f)), (11, .int (nI 0)), (10, .int (bI b)), (9, .int (nI ((Lst X.1 co k).2 mm))), (8, .int (nI mm)), (7, .int (nI k)), (6, .int (nI o)), (5, .int (nI lf)), (3, .int (nI co)), (2, .int (nI 0)), (1, .int (nI 1)), (0, .ref x)]) hx hb d_La_areLists_171 hl (by decide) rfl (fun ls hl => ?_)
                                        refine lv_iload hx hb d_La_areLists_173 (lv_at hl 7 rfl) ?_
                                        refine lv_iload hx hb d_La_areLists_175 (lv_at hl 1 rfl) ?_
                                        refine lv_if_eq (tgt := 184) hx hb d_La_areLists_177 (by decide) (fun c_177 => ?_) (fun c_177 => ?_)
                                        · skip
                                          refine lv_iconst (v := nI 0) hx hb d_La_areLists_184 (by decide +kernel) ?_
                                          refine g_iadd C0 (z := lf) d_La_areLists_185 rfl ?_
                                          refine lv_istore (lv' := [(5, .int (nI lf)), (4, .int (oI (-6) f)), (11, .int (nI 0)), (10, .int (bI b)), (9, .int (nI ((Lst X.1 co k).2 mm))), (8, .int (nI mm)), (7, .int (nI k)), (6, .int (nI o)), (3, .int (nI co)), (2, .int (nI 0)), (1, .int (nI 1)), (0, .ref x)]) hx hb d_La_areLists_186 hl (by decide) rfl (fun ls hl => ?_)
                                          refine lv_iinc (v := (nI (o + 1))) (lv' := [(6, .int (nI (o + 1))), (5, .int (nI lf)), (4, .int (oI (-6) f)), (11, .int (nI 0)), (10, .int (bI b)), (9, .int (nI ((Lst X.1 co k).2 mm))), (8, .int (nI mm)), (7, .int (nI k)), (3, .int (nI co)), (2, .int (nI 0)), (1, .int (nI 1)), (0, .ref x)]) hx hb d_La_areLists_188 hl (k := 7) rfl (gI_inc _) (by decide) rfl (fun ls hl => ?_)
                                          refine lv_iinc (v := (nI (mm + 1))) (lv' := [(8, .int (nI (mm + 1))), (6, .int (nI (o + 1))), (5, .int (nI lf)), (4, .int (oI (-6) f)), (11, .int (nI 0)), (10, .int (bI b)), (9, .int (nI ((Lst X.1 co k).2 mm))), (7, .int (nI k)), (3, .int (nI co)), (2, .int (nI 0)), (1, .int (nI 1)), (0, .ref x)]) hx hb d_La_areLists_191 hl (k := 6) rfl (gI_inc _) (by decide) rfl (fun ls hl => ?_)
                                          refine lv_iload_n hx hb d_La_areLists_194 rfl (lv_at hl 10 rfl) ?_
                                          refine lv_if_eq (tgt := 227) hx hb d_La_areLists_195 (by decide) (fun c_195 => ?_) (fun c_195 => ?_)
                                          · first | exact absurd c_195 (by decide) | exact absurd rfl c_195
                                          · skip
                                            refine lv_aload_n hx hb d_La_areLists_198 rfl (lv_at hl 11 rfl) ?_
                                            refine lv_iload hx hb d_La_areLists_199 (lv_at hl 6 rfl) ?_
                                            refine lv_iconst (v := nI 2) hx hb d_La_areLists_201 (by decide +kernel) ?_
                                            refine g_V C0 (g_val (v' := (nI (coF X.1 ((Lst X.1 co k).2 mm) 2))) (k_Ga_of l G x X (nI ((Lst X.1 co k).2 mm)) (nI 2) hX) (of_2 hI hnn.1)) co_Ga_of im_Ga_of se_Ga_of in_Ga gc_Ga_of ml_La_26 ⟨Nat.le_of_ble_eq_true rfl, Nat.le_of_ble_eq_true rfl⟩ hK hP.1 rfl hP rfl hl.1 rfl (Nat.le_of_ble_eq_true rfl) d_La_areLists_202 ⟨Nat.le_of_ble_eq_true rfl, Nat.le_of_ble_eq_true rfl⟩ (g_r rfl ?_)
                                            refine lv_iload_n hx hb d_La_areLists_205 rfl (lv_at hl 8 rfl) ?_
                                            have hc3 := coF_lt (Y := X.1) ((Lst X.1 co k).2 mm)
                                            refine g_ishr C0 (z := coF X.1 ((Lst X.1 co k).2 mm) 2 / 2 ^ co) d_La_areLists_206 (by omega) (by omega) rfl ?_
                                            refine lv_iconst (v := nI 1) hx hb d_La_areLists_207 (by decide +kernel) ?_
                                            refine g_iand C0 (z := bit X.1 co ((Lst X.1 co k).2 mm)) d_La_areLists_208 (bit_b hc) ?_
                                            refine lv_iconst (v := nI 1) hx hb d_La_areLists_209 (by decide +kernel) ?_
                                            refine lv_icmp_ne (tgt := 227) hx hb d_La_areLists_210 (by decide) (fun c_210 => ?_) (fun c_210 => ?_)
                                            · exact absurd (by rw [show bit X.1 co ((Lst X.1 co k).2 mm) = 1 from if_pos (stO_l hk hm2)]) c_210
                                            · skip
                                              refine lv_aload_n hx hb d_La_areLists_213 rfl (lv_at hl 11 rfl) ?_
                                              refine lv_iload hx hb d_La_areLists_214 (lv_at hl 6 rfl) ?_
                                              refine lv_iconst (v := nI 1) hx hb d_La_areLists_216 (by decide +kernel) ?_
                                              refine g_V C0 (g_val (v' := (nI ((X.1.2 2).2 ((Lst X.1 co k).2 mm)))) (k_Ga_of l G x X (nI ((Lst X.1 co k).2 mm)) (nI 1) hX) (of_1 hI hnn.1)) co_Ga_of im_Ga_of se_Ga_of in_Ga gc_Ga_of ml_La_26 ⟨Nat.le_of_ble_eq_true rfl, Nat.le_of_ble_eq_true rfl⟩ hK hP.1 rfl hP rfl hl.1 rfl (Nat.le_of_ble_eq_true rfl) d_La_areLists_217 ⟨Nat.le_of_ble_eq_true rfl, Nat.le_of_ble_eq_true rfl⟩ (g_r rfl ?_)
                                              refine lv_if_ne (tgt := 227) hx hb d_La_areLists_220 (by decide) (fun c_220 => ?_) (fun c_220 => ?_)
                                              · exact absurd (by rw [hnn.2]; rfl) c_220
                                              · skip
                                                refine lv_iconst (v := nI 1) hx hb d_La_areLists_223 (by decide +kernel) ?_
                                                refine lv_goto (tgt := 228) hx hb d_La_areLists_224 (by decide) ?_
                                                refine lv_istore_n (lv' := [(1, .int (nI 1)), (8, .int (nI (mm + 1))), (6, .int (nI (o + 1))), (5, .int (nI lf)), (4, .int (oI (-6) f)), (11, .int (nI 0)), (10, .int (bI b)), (9, .int (nI ((Lst X.1 co k).2 mm))), (7, .int (nI k)), (3, .int (nI co)), (2, .int (nI 0)), (0, .ref x)]) hx hb d_La_areLists_228 rfl hl (by decide) rfl (fun ls hl => ?_)
                                                refine lv_goto (tgt := 41) hx hb d_La_areLists_229 (by decide) ?_
                                                exact ih41 (mm + 1) f lf (o + 1) (by omega) (by omega) (by rw [hf, nxM_g hgv]) (by rw [hlf, lfM_g hgv]) (by omega) ls (lv_sub hl [1, 8, 2, 3, 4, 9, 10, 0, 11] rfl)
                                        · first | exact absurd c_177 (by decide) | exact absurd rfl c_177
                                      · skip
                                        have hf0 : f = none := (oI6_n (fun i e => by rw [hf] at e; exact nxM_lt hI hc hk hm e)).mp c_156
                                        refine lv_iload hx hb d_La_areLists_159 (lv_at hl 0 rfl) ?_
                                        refine lv_if_eq (tgt := 169) hx hb d_La_areLists_161 (by decide) (fun c_161 => ?_) (fun c_161 => ?_)
                                        · skip
                                          refine lv_iload hx hb d_La_areLists_169 (lv_at hl 7 rfl) ?_
                                          refine lv_istore (lv' := [(4, .int (oI (-6) f)), (11, .int (nI 0)), (10, .int (bI b)), (9, .int (nI ((Lst X.1 co k).2 mm))), (8, .int (nI mm)), (7, .int (nI k)), (6, .int (nI o)), (5, .int (nI lf)), (3, .int (nI co)), (2, .int (nI 0)), (1, .int (nI 1)), (0, .ref x)]) hx hb d_La_areLists_171 hl (by decide) rfl (fun ls hl => ?_)
                                          refine lv_iload hx hb d_La_areLists_173 (lv_at hl 7 rfl) ?_
                                          refine lv_iload hx hb d_La_areLists_175 (lv_at hl 1 rfl) ?_
                                          refine lv_if_eq (tgt := 184) hx hb d_La_areLists_177 (by decide) (fun c_177 => ?_) (fun c_177 => ?_)
                                          · skip
                                            refine lv_iconst (v := nI 0) hx hb d_La_areLists_184 (by decide +kernel) ?_
                                            refine g_iadd C0 (z := lf) d_La_areLists_185 rfl ?_
                                            refine lv_istore (lv' := [(5, .int (nI lf)), (4, .int (oI (-6) f)), (11, .int (nI 0)), (10, .int (bI b)), (9, .int (nI ((Lst X.1 co k).2 mm))), (8, .int (nI mm)), (7, .int (nI k)), (6, .int (nI o)), (3, .int (nI co)), (2, .int (nI 0)), (1, .int (nI 1)), (0, .ref x)]) hx hb d_La_areLists_186 hl (by decide) rfl (fun ls hl => ?_)
                                            refine lv_iinc (v := (nI (o + 1))) (lv' := [(6, .int (nI (o + 1))), (5, .int (nI lf)), (4, .int (oI (-6) f)), (11, .int (nI 0)), (10, .int (bI b)), (9, .int (nI ((Lst X.1 co k).2 mm))), (8, .int (nI mm)), (7, .int (nI k)), (3, .int (nI co)), (2, .int (nI 0)), (1, .int (nI 1)), (0, .ref x)]) hx hb d_La_areLists_188 hl (k := 7) rfl (gI_inc _) (by decide) rfl (fun ls hl => ?_)
                                            refine lv_iinc (v := (nI (mm + 1))) (lv' := [(8, .int (nI (mm + 1))), (6, .int (nI (o + 1))), (5, .int (nI lf)), (4, .int (oI (-6) f)), (11, .int (nI 0)), (10, .int (bI b)), (9, .int (nI ((Lst X.1 co k).2 mm))), (7, .int (nI k)), (3, .int (nI co)), (2, .int (nI 0)), (1, .int (nI 1)), (0, .ref x)]) hx hb d_La_areLists_191 hl (k := 6) rfl (gI_inc _) (by decide) rfl (fun ls hl => ?_)
                                            refine lv_iload_n hx hb d_La_areLists_194 rfl (lv_at hl 10 rfl) ?_
                                            refine lv_if_eq (tgt := 227) hx hb d_La_areLists_195 (by decide) (fun c_195 => ?_) (fun c_195 => ?_)
                                            · first | exact absurd c_195 (by decide) | exact absurd rfl c_195
                                            · skip
                                              refine lv_aload_n hx hb d_La_areLists_198 rfl (lv_at hl 11 rfl) ?_
                                              refine lv_iload hx hb d_La_areLists_199 (lv_at hl 6 rfl) ?_
                                              refine lv_iconst (v := nI 2) hx hb d_La_areLists_201 (by decide +kernel) ?_
                                              refine g_V C0 (g_val (v' := (nI (coF X.1 ((Lst X.1 co k).2 mm) 2))) (k_Ga_of l G x X (nI ((Lst X.1 co k).2 mm)) (nI 2) hX) (of_2 hI hnn.1)) co_Ga_of im_Ga_of se_Ga_of in_Ga gc_Ga_of ml_La_26 ⟨Nat.le_of_ble_eq_true rfl, Nat.le_of_ble_eq_true rfl⟩ hK hP.1 rfl hP rfl hl.1 rfl (Nat.le_of_ble_eq_true rfl) d_La_areLists_202 ⟨Nat.le_of_ble_eq_true rfl, Nat.le_of_ble_eq_true rfl⟩ (g_r rfl ?_)
                                              refine lv_iload_n hx hb d_La_areLists_205 rfl (lv_at hl 8 rfl) ?_
                                              have hc3 := coF_lt (Y := X.1) ((Lst X.1 co k).2 mm)
                                              refine g_ishr C0 (z := coF X.1 ((Lst X.1 co k).2 mm) 2 / 2 ^ co) d_La_areLists_206 (by omega) (by omega) rfl ?_
                                              refine lv_iconst (v := nI 1) hx hb d_La_areLists_207 (by decide +kernel) ?_
                                              refine g_iand C0 (z := bit X.1 co ((Lst X.1 co k).2 mm)) d_La_areLists_208 (bit_b hc) ?_
                                              refine lv_iconst (v := nI 1) hx hb d_La_areLists_209 (by decide +kernel) ?_
                                              refine lv_icmp_ne (tgt := 227) hx hb d_La_areLists_210 (by decide) (fun c_210 => ?_) (fun c_210 => ?_)
                                              · exact absurd (by rw [show bit X.1 co ((Lst X.1 co k).2 mm) = 1 from if_pos (stO_l hk hm2)]) c_210
                                              · skip
                                                refine lv_aload_n hx hb d_La_areLists_213 rfl (lv_at hl 11 rfl) ?_
                                                refine lv_iload hx hb d_La_areLists_214 (lv_at hl 6 rfl) ?_
                                                refine lv_iconst (v := nI 1) hx hb d_La_areLists_216 (by decide +kernel) ?_
                                                refine g_V C0 (g_val (v' := (nI ((X.1.2 2).2 ((Lst X.1 co k).2 mm)))) (k_Ga_of l G x X (nI ((Lst X.1 co k).2 mm)) (nI 1) hX) (of_1 hI hnn.1)) co_Ga_of im_Ga_of se_Ga_of in_Ga gc_Ga_of ml_La_26 ⟨Nat.le_of_ble_eq_true rfl, Nat.le_of_ble_eq_true rfl⟩ hK hP.1 rfl hP rfl hl.1 rfl (Nat.le_of_ble_eq_true rfl) d_La_areLists_217 ⟨Nat.le_of_ble_eq_true rfl, Nat.le_of_ble_eq_true rfl⟩ (g_r rfl ?_)
                                                refine lv_if_ne (tgt := 227) hx hb d_La_areLists_220 (by decide) (fun c_220 => ?_) (fun c_220 => ?_)
                                                · exact absurd (by rw [hnn.2]; rfl) c_220
                                                · skip
                                                  refine lv_iconst (v := nI 1) hx hb d_La_areLists_223 (by decide +kernel) ?_
                                                  refine lv_goto (tgt := 228) hx hb d_La_areLists_224 (by decide) ?_
                                                  refine lv_istore_n (lv' := [(1, .int (nI 1)), (8, .int (nI (mm + 1))), (6, .int (nI (o + 1))), (5, .int (nI lf)), (4, .int (oI (-6) f)), (11, .int (nI 0)), (10, .int (bI b)), (9, .int (nI ((Lst X.1 co k).2 mm))), (7, .int (nI k)), (3, .int (nI co)), (2, .int (nI 0)), (0, .ref x)]) hx hb d_La_areLists_228 rfl hl (by decide) rfl (fun ls hl => ?_)
                                                  refine lv_goto (tgt := 41) hx hb d_La_areLists_229 (by decide) ?_
                                                  exact ih41 (mm + 1) f lf (o + 1) (by omega) (by omega) (by rw [hf, nxM_g hgv]) (by rw [hlf, lfM_g hgv]) (by omega) ls (lv_sub hl [1, 8, 2, 3, 4, 9, 10, 0, 11] rfl)
                                          · first | exact absurd c_177 (by decide) | exact absurd rfl c_177
                                        · first | exact absurd c_161 (by decide) | exact absurd rfl c_161
                                    · skip
                                      have hgv : wGv X.1 ((Lst X.1 co k).2 mm) co = false := by rw [wGv_in hI, ← show g = (X.1.2 11).1 by omega, ← hb2]; exact c_142
                                      refine lv_iconst (v := nI 1) hx hb d_La_areLists_145 (by decide +kernel) ?_
                                      refine lv_goto (tgt := 150) hx hb d_La_areLists_146 (by decide) ?_
                                      refine lv_istore (lv' := [(11, .int (nI 1)), (10, .int (bI b)), (9, .int (nI ((Lst X.1 co k).2 mm))), (8, .int (nI mm)), (7, .int (nI k)), (6, .int (nI o)), (5, .int (nI lf)), (4, .int (oI (-6) f)), (3, .int (nI co)), (2, .int (nI 0)), (1, .int (nI 1)), (0, .ref x)]) hx hb d_La_areLists_150 hl (by decide) rfl (fun ls hl => ?_)
                                      refine lv_iload hx hb d_La_areLists_152 (lv_at hl 7 rfl) ?_
                                      refine lv_bipush (v := -6) hx hb d_La_areLists_154 (by decide +kernel) ?_
                                      refine lv_icmp_ne (tgt := 169) hx hb d_La_areLists_156 (by decide) (fun c_156 => ?_) (fun c_156 => ?_)
                                      · skip
                                        refine lv_iload hx hb d_La_areLists_169 (lv_at hl 7 rfl) ?_
                                        refine lv_istore (lv' := [(4, .int (oI (-6) f)), (11, .int (nI 1)), (10, .int (bI b)), (9, .int (nI ((Lst X.1 co k).2 mm))), (8, .int (nI mm)), (7, .int (nI k)), (6, .int (nI o)), (5, .int (nI lf)), (3, .int (nI co)), (2, .int (nI 0)), (1, .int (nI 1)), (0, .ref x)]) hx hb d_La_areLists_171 hl (by decide) rfl (fun ls hl => ?_)
                                        refine lv_iload hx hb d_La_areLists_173 (lv_at hl 7 rfl) ?_
                                        refine lv_iload hx hb d_La_areLists_175 (lv_at hl 1 rfl) ?_
                                        refine lv_if_eq (tgt := 184) hx hb d_La_areLists_177 (by decide) (fun c_177 => ?_) (fun c_177 => ?_)
                                        · first | exact absurd c_177 (by decide) | exact absurd rfl c_177
                                        · skip
                                          refine lv_iconst (v := nI 1) hx hb d_La_areLists_180 (by decide +kernel) ?_
                                          refine lv_goto (tgt := 185) hx hb d_La_areLists_181 (by decide) ?_
                                          refine g_iadd C0 (z := lf + 1) d_La_areLists_185 rfl ?_
                                          refine lv_istore (lv' := [(5, .int (nI (lf + 1))), (4, .int (oI (-6) f)), (11, .int (nI 1)), (10, .int (bI b)), (9, .int (nI ((Lst X.1 co k).2 mm))), (8, .int (nI mm)), (7, .int (nI k)), (6, .int (nI o)), (3, .int (nI co)), (2, .int (nI 0)), (1, .int (nI 1)), (0, .ref x)]) hx hb d_La_areLists_186 hl (by decide) rfl (fun ls hl => ?_)
                                          refine lv_iinc (v := (nI (o + 1))) (lv' := [(6, .int (nI (o + 1))), (5, .int (nI (lf + 1))), (4, .int (oI (-6) f)), (11, .int (nI 1)), (10, .int (bI b)), (9, .int (nI ((Lst X.1 co k).2 mm))), (8, .int (nI mm)), (7, .int (nI k)), (3, .int (nI co)), (2, .int (nI 0)), (1, .int (nI 1)), (0, .ref x)]) hx hb d_La_areLists_188 hl (k := 7) rfl (gI_inc _) (by decide) rfl (fun ls hl => ?_)
                                          refine lv_iinc (v := (nI (mm + 1))) (lv' := [(8, .int (nI (mm + 1))), (6, .int (nI (o + 1))), (5, .int (nI (lf + 1))), (4, .int (oI (-6) f)), (11, .int (nI 1)), (10, .int (bI b)), (9, .int (nI ((Lst X.1 co k).2 mm))), (7, .int (nI k)), (3, .int (nI co)), (2, .int (nI 0)), (1, .int (nI 1)), (0, .ref x)]) hx hb d_La_areLists_191 hl (k := 6) rfl (gI_inc _) (by decide) rfl (fun ls hl => ?_)
                                          refine lv_iload_n hx hb d_La_areLists_194 rfl (lv_at hl 10 rfl) ?_
                                          refine lv_if_eq (tgt := 227) hx hb d_La_areLists_195 (by decide) (fun c_195 => ?_) (fun c_195 => ?_)
                                          · first | exact absurd c_195 (by decide) | exact absurd rfl c_195
                                          · skip
                                            refine lv_aload_n hx hb d_La_areLists_198 rfl (lv_at hl 11 rfl) ?_
                                            refine lv_iload hx hb d_La_areLists_199 (lv_at hl 6 rfl) ?_
                                            refine lv_iconst (v := nI 2) hx hb d_La_areLists_201 (by decide +kernel) ?_
                                            refine g_V C0 (g_val (v' := (nI (coF X.1 ((Lst X.1 co k).2 mm) 2))) (k_Ga_of l G x X (nI ((Lst X.1 co k).2 mm)) (nI 2) hX) (of_2 hI hnn.1)) co_Ga_of im_Ga_of se_Ga_of in_Ga gc_Ga_of ml_La_26 ⟨Nat.le_of_ble_eq_true rfl, Nat.le_of_ble_eq_true rfl⟩ hK hP.1 rfl hP rfl hl.1 rfl (Nat.le_of_ble_eq_true rfl) d_La_areLists_202 ⟨Nat.le_of_ble_eq_true rfl, Nat.le_of_ble_eq_true rfl⟩ (g_r rfl ?_)
                                            refine lv_iload_n hx hb d_La_areLists_205 rfl (lv_at hl 8 rfl) ?_
                                            have hc3 := coF_lt (Y := X.1) ((Lst X.1 co k).2 mm)
                                            refine g_ishr C0 (z := coF X.1 ((Lst X.1 co k).2 mm) 2 / 2 ^ co) d_La_areLists_206 (by omega) (by omega) rfl ?_
                                            refine lv_iconst (v := nI 1) hx hb d_La_areLists_207 (by decide +kernel) ?_
                                            refine g_iand C0 (z := bit X.1 co ((Lst X.1 co k).2 mm)) d_La_areLists_208 (bit_b hc) ?_
                                            refine lv_iconst (v := nI 1) hx hb d_La_areLists_209 (by decide +kernel) ?_
                                            refine lv_icmp_ne (tgt := 227) hx hb d_La_areLists_210 (by decide) (fun c_210 => ?_) (fun c_210 => ?_)
                                            · exact absurd (by rw [show bit X.1 co ((Lst X.1 co k).2 mm) = 1 from if_pos (stO_l hk hm2)]) c_210
                                            · skip
                                              refine lv_aload_n hx hb d_La_areLists_213 rfl (lv_at hl 11 rfl) ?_
                                              refine lv_iload hx hb d_La_areLists_214 (lv_at hl 6 rfl) ?_
                                              refine lv_iconst (v := nI 1) hx hb d_La_areLists_216 (by decide +kernel) ?_
                                              refine g_V C0 (g_val (v' := (nI ((X.1.2 2).2 ((Lst X.1 co k).2 mm)))) (k_Ga_of l G x X (nI ((Lst X.1 co k).2 mm)) (nI 1) hX) (of_1 hI hnn.1)) co_Ga_of im_Ga_of se_Ga_of in_Ga gc_Ga_of ml_La_26 ⟨Nat.le_of_ble_eq_true rfl, Nat.le_of_ble_eq_true rfl⟩ hK hP.1 rfl hP rfl hl.1 rfl (Nat.le_of_ble_eq_true rfl) d_La_areLists_217 ⟨Nat.le_of_ble_eq_true rfl, Nat.le_of_ble_eq_true rfl⟩ (g_r rfl ?_)
                                              refine lv_if_ne (tgt := 227) hx hb d_La_areLists_220 (by decide) (fun c_220 => ?_) (fun c_220 => ?_)
                                              · exact absurd (by rw [hnn.2]; rfl) c_220
                                              · skip
                                                refine lv_iconst (v := nI 1) hx hb d_La_areLists_223 (by decide +kernel) ?_
                                                refine lv_goto (tgt := 228) hx hb d_La_areLists_224 (by decide) ?_
                                                refine lv_istore_n (lv' := [(1, .int (nI 1)), (8, .int (nI (mm + 1))), (6, .int (nI (o + 1))), (5, .int (nI (lf + 1))), (4, .int (oI (-6) f)), (11, .int (nI 1)), (10, .int (bI b)), (9, .int (nI ((Lst X.1 co k).2 mm))), (7, .int (nI k)), (3, .int (nI co)), (2, .int (nI 0)), (0, .ref x)]) hx hb d_La_areLists_228 rfl hl (by decide) rfl (fun ls hl => ?_)
                                                refine lv_goto (tgt := 41) hx hb d_La_areLists_229 (by decide) ?_
                                                exact ih41 (mm + 1) f (lf + 1) (o + 1) (by omega) (by omega) (by obtain ⟨w, hw⟩ := oI6_some c_156; rw [hw, nxM_p c_137 (hf.symm.trans hw)]) (by rw [hlf, lfM_n c_137 hgv]) (by omega) ls (lv_sub hl [1, 8, 2, 3, 4, 9, 10, 0, 11] rfl)
                                      · skip
                                        have hf0 : f = none := (oI6_n (fun i e => by rw [hf] at e; exact nxM_lt hI hc hk hm e)).mp c_156
                                        refine lv_iload hx hb d_La_areLists_159 (lv_at hl 0 rfl) ?_
                                        refine lv_if_eq (tgt := 169) hx hb d_La_areLists_161 (by decide) (fun c_161 => ?_) (fun c_161 => ?_)
                                        · first | exact absurd c_161 (by decide) | exact absurd rfl c_161
                                        · skip
                                          refine lv_iload hx hb d_La_areLists_164 (lv_at hl 2 rfl) ?_
                                          refine lv_goto (tgt := 171) hx hb d_La_areLists_166 (by decide) ?_
                                          refine lv_istore (lv' := [(4, .int (nI ((Lst X.1 co k).2 mm))), (11, .int (nI 1)), (10, .int (bI b)), (9, .int (nI ((Lst X.1 co k).2 mm))), (8, .int (nI mm)), (7, .int (nI k)), (6, .int (nI o)), (5, .int (nI lf)), (3, .int (nI co)), (2, .int (nI 0)), (1, .int (nI 1)), (0, .ref x)]) hx hb d_La_areLists_171 hl (by decide) rfl (fun ls hl => ?_)
                                          refine lv_iload hx hb d_La_areLists_173 (lv_at hl 7 rfl) ?_
                                          refine lv_iload hx hb d_La_areLists_175 (lv_at hl 1 rfl) ?_
                                          refine lv_if_eq (tgt := 184) hx hb d_La_areLists_177 (by decide) (fun c_177 => ?_) (fun c_177 => ?_)
                                          · first | exact absurd c_177 (by decide) | exact absurd rfl c_177
                                          · skip
                                            refine lv_iconst (v := nI 1) hx hb d_La_areLists_180 (by decide +kernel) ?_
                                            refine lv_goto (tgt := 185) hx hb d_La_areLists_181 (by decide) ?_
                                            refine g_iadd C0 (z := lf + 1) d_La_areLists_185 rfl ?_
                                            refine lv_istore (lv' := [(5, .int (nI (lf + 1))), (4, .int (nI ((Lst X.1 co k).2 mm))), (11, .int (nI 1)), (10, .int (bI b)), (9, .int (nI ((Lst X.1 co k).2 mm))), (8, .int (nI mm)), (7, .int (nI k)), (6, .int (nI o)), (3, .int (nI co)), (2, .int (nI 0)), (1, .int (nI 1)), (0, .ref x)]) hx hb d_La_areLists_186 hl (by decide) rfl (fun ls hl => ?_)
                                            refine lv_iinc (v := (nI (o + 1))) (lv' := [(6, .int (nI (o + 1))), (5, .int (nI (lf + 1))), (4, .int (nI ((Lst X.1 co k).2 mm))), (11, .int (nI 1)), (10, .int (bI b)), (9, .int (nI ((Lst X.1 co k).2 mm))), (8, .int (nI mm)), (7, .int (nI k)), (3, .int (nI co)), (2, .int (nI 0)), (1, .int (nI 1)), (0, .ref x)]) hx hb d_La_areLists_188 hl (k := 7) rfl (gI_inc _) (by decide) rfl (fun ls hl => ?_)
                                            refine lv_iinc (v := (nI (mm + 1))) (lv' := [(8, .int (nI (mm + 1))), (6, .int (nI (o + 1))), (5, .int (nI (lf + 1))), (4, .int (nI ((Lst X.1 co k).2 mm))), (11, .int (nI 1)), (10, .int (bI b)), (9, .int (nI ((Lst X.1 co k).2 mm))), (7, .int (nI k)), (3, .int (nI co)), (2, .int (nI 0)), (1, .int (nI 1)), (0, .ref x)]) hx hb d_La_areLists_191 hl (k := 6) rfl (gI_inc _) (by decide) rfl (fun ls hl => ?_)
                                            refine lv_iload_n hx hb d_La_areLists_194 rfl (lv_at hl 10 rfl) ?_
                                            refine lv_if_eq (tgt := 227) hx hb d_La_areLists_195 (by decide) (fun c_195 => ?_) (fun c_195 => ?_)
                                            · first | exact absurd c_195 (by decide) | exact absurd rfl c_195
                                            · skip
                                              refine lv_aload_n hx hb d_La_areLists_198 rfl (lv_at hl 11 rfl) ?_
                                              refine lv_iload hx hb d_La_areLists_199 (lv_at hl 6 rfl) ?_
                                              refine lv_iconst (v := nI 2) hx hb d_La_areLists_201 (by decide +kernel) ?_
                                              refine g_V C0 (g_val (v' := (nI (coF X.1 ((Lst X.1 co k).2 mm) 2))) (k_Ga_of l G x X (nI ((Lst X.1 co k).2 mm)) (nI 2) hX) (of_2 hI hnn.1)) co_Ga_of im_Ga_of se_Ga_of in_Ga gc_Ga_of ml_La_26 ⟨Nat.le_of_ble_eq_true rfl, Nat.le_of_ble_eq_true rfl⟩ hK hP.1 rfl hP rfl hl.1 rfl (Nat.le_of_ble_eq_true rfl) d_La_areLists_202 ⟨Nat.le_of_ble_eq_true rfl, Nat.le_of_ble_eq_true rfl⟩ (g_r rfl ?_)
                                              refine lv_iload_n hx hb d_La_areLists_205 rfl (lv_at hl 8 rfl) ?_
                                              have hc3 := coF_lt (Y := X.1) ((Lst X.1 co k).2 mm)
                                              refine g_ishr C0 (z := coF X.1 ((Lst X.1 co k).2 mm) 2 / 2 ^ co) d_La_areLists_206 (by omega) (by omega) rfl ?_
                                              refine lv_iconst (v := nI 1) hx hb d_La_areLists_207 (by decide +kernel) ?_
                                              refine g_iand C0 (z := bit X.1 co ((Lst X.1 co k).2 mm)) d_La_areLists_208 (bit_b hc) ?_
                                              refine lv_iconst (v := nI 1) hx hb d_La_areLists_209 (by decide +kernel) ?_
                                              refine lv_icmp_ne (tgt := 227) hx hb d_La_areLists_210 (by decide) (fun c_210 => ?_) (fun c_210 => ?_)
                                              · exact absurd (by rw [show bit X.1 co ((Lst X.1 co k).2 mm) = 1 from if_pos (stO_l hk hm2)]) c_210
                                              · skip
                                                refine lv_aload_n hx hb d_La_areLists_213 rfl (lv_at hl 11 rfl) ?_
                                                refine lv_iload hx hb d_La_areLists_214 (lv_at hl 6 rfl) ?_
                                                refine lv_iconst (v := nI 1) hx hb d_La_areLists_216 (by decide +kernel) ?_
                                                refine g_V C0 (g_val (v' := (nI ((X.1.2 2).2 ((Lst X.1 co k).2 mm)))) (k_Ga_of l G x X (nI ((Lst X.1 co k).2 mm)) (nI 1) hX) (of_1 hI hnn.1)) co_Ga_of im_Ga_of se_Ga_of in_Ga gc_Ga_of ml_La_26 ⟨Nat.le_of_ble_eq_true rfl, Nat.le_of_ble_eq_true rfl⟩ hK hP.1 rfl hP rfl hl.1 rfl (Nat.le_of_ble_eq_true rfl) d_La_areLists_217 ⟨Nat.le_of_ble_eq_true rfl, Nat.le_of_ble_eq_true rfl⟩ (g_r rfl ?_)
                                                refine lv_if_ne (tgt := 227) hx hb d_La_areLists_220 (by decide) (fun c_220 => ?_) (fun c_220 => ?_)
                                                · exact absurd (by rw [hnn.2]; rfl) c_220
                                                · skip
                                                  refine lv_iconst (v := nI 1) hx hb d_La_areLists_223 (by decide +kernel) ?_
                                                  refine lv_goto (tgt := 228) hx hb d_La_areLists_224 (by decide) ?_
                                                  refine lv_istore_n (lv' := [(1, .int (nI 1)), (8, .int (nI (mm + 1))), (6, .int (nI (o + 1))), (5, .int (nI (lf + 1))), (4, .int (nI ((Lst X.1 co k).2 mm))), (11, .int (nI 1)), (10, .int (bI b)), (9, .int (nI ((Lst X.1 co k).2 mm))), (7, .int (nI k)), (3, .int (nI co)), (2, .int (nI 0)), (0, .ref x)]) hx hb d_La_areLists_228 rfl hl (by decide) rfl (fun ls hl => ?_)
                                                  refine lv_goto (tgt := 41) hx hb d_La_areLists_229 (by decide) ?_
                                                  exact ih41 (mm + 1) (some ((Lst X.1 co k).2 mm)) (lf + 1) (o + 1) (by omega) (by omega) (nxM_n c_137 hgv (hf.symm.trans hf0)).symm (by rw [hlf, lfM_n c_137 hgv]) (by omega) ls (lv_sub hl [1, 8, 2, 3, 4, 9, 10, 0, 11] rfl)
                                · skip
                                  refine lv_iload hx hb d_La_areLists_87 (lv_at hl 1 rfl) ?_
                                  refine g_zne (tgt := 115) C0 d_La_areLists_89 (by decide) (fun c_89 => ?_) (fun c_89 => ?_)
                                  · skip
                                    refine lv_iconst (v := nI 1) hx hb d_La_areLists_115 (by decide +kernel) ?_
                                    refine lv_goto (tgt := 120) hx hb d_La_areLists_116 (by decide) ?_
                                    refine lv_istore (lv' := [(10, .int (nI 1)), (11, .int (nI g)), (9, .int (nI ((Lst X.1 co k).2 mm))), (8, .int (nI mm)), (7, .int (nI k)), (6, .int (nI o)), (5, .int (nI lf)), (4, .int (oI (-6) f)), (3, .int (nI co)), (2, .int (nI 0)), (1, .int (nI 1)), (0, .ref x)]) hx hb d_La_areLists_120 hl (by decide) rfl (fun ls hl => ?_)
                                    refine lv_iinc (v := (nI (g + 1))) (lv' := [(11, .int (nI (g + 1))), (10, .int (nI 1)), (9, .int (nI ((Lst X.1 co k).2 mm))), (8, .int (nI mm)), (7, .int (nI k)), (6, .int (nI o)), (5, .int (nI lf)), (4, .int (oI (-6) f)), (3, .int (nI co)), (2, .int (nI 0)), (1, .int (nI 1)), (0, .ref x)]) hx hb d_La_areLists_122 hl (k := 1) rfl (gI_inc _) (by decide) rfl (fun ls hl => ?_)
                                    refine lv_goto (tgt := 77) hx hb d_La_areLists_125 (by decide) ?_
                                    exact ih77 (g + 1) true (by omega) (by omega) (by rw [aN_s, ← hb2, c_89]; rfl) ls (lv_sub hl [0, 1, 2, 3, 4, 5, 6, 7, 8, 9, 10, 11] rfl)
                                  · skip
                                    refine lv_aload_n hx hb d_La_areLists_92 rfl (lv_at hl 11 rfl) ?_
                                    refine lv_iload hx hb d_La_areLists_93 (lv_at hl 0 rfl) ?_
                                    refine lv_iconst (v := nI 0) hx hb d_La_areLists_95 (by decide +kernel) ?_
                                    refine g_V C0 (g_val (v' := (nI ((X.1.2 11).2 g))) (k_Ga_ofStorm l G x X (nI g) (nI 0) hX) (st_0 hI (by omega))) co_Ga_ofStorm im_Ga_ofStorm se_Ga_ofStorm in_Ga gc_Ga_ofStorm ml_La_42 ⟨Nat.le_of_ble_eq_true rfl, Nat.le_of_ble_eq_true rfl⟩ hK hP.1 rfl hP rfl hl.1 rfl (Nat.le_of_ble_eq_true rfl) d_La_areLists_96 ⟨Nat.le_of_ble_eq_true rfl, Nat.le_of_ble_eq_true rfl⟩ (g_r rfl ?_)
                                    refine lv_iload hx hb d_La_areLists_99 (lv_at hl 2 rfl) ?_
                                    refine lv_icmp_ne (tgt := 119) hx hb d_La_areLists_101 (by decide) (fun c_101 => ?_) (fun c_101 => ?_)
                                    · skip
                                      have c_101 : (X.1.2 11).2 g ≠ (Lst X.1 co k).2 mm := fun z => c_101 (by rw [z])
                                      refine lv_iconst (v := nI 0) hx hb d_La_areLists_119 (by decide +kernel) ?_
                                      refine lv_istore (lv' := [(10, .int (nI 0)), (11, .int (nI g)), (9, .int (nI ((Lst X.1 co k).2 mm))), (8, .int (nI mm)), (7, .int (nI k)), (6, .int (nI o)), (5, .int (nI lf)), (4, .int (oI (-6) f)), (3, .int (nI co)), (2, .int (nI 0)), (1, .int (nI 1)), (0, .ref x)]) hx hb d_La_areLists_120 hl (by decide) rfl (fun ls hl => ?_)
                                      refine lv_iinc (v := (nI (g + 1))) (lv' := [(11, .int (nI (g + 1))), (10, .int (nI 0)), (9, .int (nI ((Lst X.1 co k).2 mm))), (8, .int (nI mm)), (7, .int (nI k)), (6, .int (nI o)), (5, .int (nI lf)), (4, .int (oI (-6) f)), (3, .int (nI co)), (2, .int (nI 0)), (1, .int (nI 1)), (0, .ref x)]) hx hb d_La_areLists_122 hl (k := 1) rfl (gI_inc _) (by decide) rfl (fun ls hl => ?_)
                                      refine lv_goto (tgt := 77) hx hb d_La_areLists_125 (by decide) ?_
                                      exact ih77 (g + 1) false (by omega) (by omega) (by rw [aN_s, ← hb2, c_89, show ((X.1.2 11).2 g == (Lst X.1 co k).2 mm && (X.1.2 12).2 g == co) = false from (by rw [Bool.and_eq_false_iff]; left; simpa using c_101)]; rfl) ls (lv_sub hl [0, 1, 2, 3, 4, 5, 6, 7, 8, 9, 10, 11] rfl)
                                    · skip
                                      have c_101 : (X.1.2 11).2 g = (Lst X.1 co k).2 mm := (nI_eqi (by have := (hI.2.2.2.2.1.2.2.1 g (by omega)).1; omega) (by omega)).mp c_101
                                      refine lv_aload_n hx hb d_La_areLists_104 rfl (lv_at hl 11 rfl) ?_
                                      refine lv_iload hx hb d_La_areLists_105 (lv_at hl 0 rfl) ?_
                                      refine lv_iconst (v := nI 1) hx hb d_La_areLists_107 (by decide +kernel) ?_
                                      refine g_V C0 (g_val (v' := (nI ((X.1.2 12).2 g))) (k_Ga_ofStorm l G x X (nI g) (nI 1) hX) (st_1 hI (by omega))) co_Ga_ofStorm im_Ga_ofStorm se_Ga_ofStorm in_Ga gc_Ga_ofStorm ml_La_42 ⟨Nat.le_of_ble_eq_true rfl, Nat.le_of_ble_eq_true rfl⟩ hK hP.1 rfl hP rfl hl.1 rfl (Nat.le_of_ble_eq_true rfl) d_La_areLists_108 ⟨Nat.le_of_ble_eq_true rfl, Nat.le_of_ble_eq_true rfl⟩ (g_r rfl ?_)
                                      refine lv_iload_n hx hb d_La_areLists_111 rfl (lv_at hl 8 rfl) ?_
                                      refine g_cne (tgt := 119) C0 d_La_areLists_112 (by decide) (by have := (hI.2.2.2.2.1.2.2.1 g (by omega)).2.1; omega) (by omega) (fun c_112 => ?_) (fun c_112 => ?_)
                                      · skip
                                        refine lv_iconst (v := nI 0) hx hb d_La_areLists_119 (by decide +kernel) ?_
                                        refine lv_istore (lv' := [(10, .int (nI 0)), (11, .int (nI g)), (9, .int (nI ((Lst X.1 co k).2 mm))), (8, .int (nI mm)), (7, .int (nI k)), (6, .int (nI o)), (5, .int (nI lf)), (4, .int (oI (-6) f)), (3, .int (nI co)), (2, .int (nI 0)), (1, .int (nI 1)), (0, .ref x)]) hx hb d_La_areLists_120 hl (by decide) rfl (fun ls hl => ?_)
                                        refine lv_iinc (v := (nI (g + 1))) (lv' := [(11, .int (nI (g + 1))), (10, .int (nI 0)), (9, .int (nI ((Lst X.1 co k).2 mm))), (8, .int (nI mm)), (7, .int (nI k)), (6, .int (nI o)), (5, .int (nI lf)), (4, .int (oI (-6) f)), (3, .int (nI co)), (2, .int (nI 0)), (1, .int (nI 1)), (0, .ref x)]) hx hb d_La_areLists_122 hl (k := 1) rfl (gI_inc _) (by decide) rfl (fun ls hl => ?_)
                                        refine lv_goto (tgt := 77) hx hb d_La_areLists_125 (by decide) ?_
                                        exact ih77 (g + 1) false (by omega) (by omega) (by rw [aN_s, ← hb2, c_89, show ((X.1.2 11).2 g == (Lst X.1 co k).2 mm && (X.1.2 12).2 g == co) = false from (by rw [Bool.and_eq_false_iff]; right; simpa using c_112)]; rfl) ls (lv_sub hl [0, 1, 2, 3, 4, 5, 6, 7, 8, 9, 10, 11] rfl)
                                      · skip
                                        refine lv_iconst (v := nI 1) hx hb d_La_areLists_115 (by decide +kernel) ?_
                                        refine lv_goto (tgt := 120) hx hb d_La_areLists_116 (by decide) ?_
                                        refine lv_istore (lv' := [(10, .int (nI 1)), (11, .int (nI g)), (9, .int (nI ((Lst X.1 co k).2 mm))), (8, .int (nI mm)), (7, .int (nI k)), (6, .int (nI o)), (5, .int (nI lf)), (4, .int (oI (-6) f)), (3, .int (nI co)), (2, .int (nI 0)), (1, .int (nI 1)), (0, .ref x)]) hx hb d_La_areLists_120 hl (by decide) rfl (fun ls hl => ?_)
                                        refine lv_iinc (v := (nI (g + 1))) (lv' := [(11, .int (nI (g + 1))), (10, .int (nI 1)), (9, .int (nI ((Lst X.1 co k).2 mm))), (8, .int (nI mm)), (7, .int (nI k)), (6, .int (nI o)), (5, .int (nI lf)), (4, .int (oI (-6) f)), (3, .int (nI co)), (2, .int (nI 0)), (1, .int (nI 1)), (0, .ref x)]) hx hb d_La_areLists_122 hl (k := 1) rfl (gI_inc _) (by decide) rfl (fun ls hl => ?_)
                                        refine lv_goto (tgt := 77) hx hb d_La_areLists_125 (by decide) ?_
                                        exact ih77 (g + 1) true (by omega) (by omega) (by rw [aN_s, show ((X.1.2 11).2 g == (Lst X.1 co k).2 mm && (X.1.2 12).2 g == co) = true from (by rw [Bool.and_eq_true, beq_iff_eq, beq_iff_eq]; exact ⟨c_101, c_112⟩), Bool.or_true]) ls (lv_sub hl [0, 1, 2, 3, 4, 5, 6, 7, 8, 9, 10, 11] rfl)
                            exact lp77 (((X.1.2 11).1 - 0) + 1) 0 false (by omega) (by omega) rfl ls (lv_sub hl [0, 1, 2, 3, 4, 5, 6, 7, 8, 9, 10, 11] rfl)
                        · skip
                          refine lv_aload_n hx hb d_La_areLists_48 rfl (lv_at hl 8 rfl) ?_
                          refine lv_iload_n hx hb d_La_areLists_49 rfl (lv_at hl 5 rfl) ?_
                          refine lv_iload hx hb d_La_areLists_50 (lv_at hl 1 rfl) ?_
                          refine lv_iload hx hb d_La_areLists_52 (lv_at hl 0 rfl) ?_
                          refine g_V C0 (g_val (v' := (-1)) (k_Ga_listed l G x X (nI co) (nI k) (nI mm) hX) (ls_n hc hk hm2 (by omega))) co_Ga_listed im_Ga_listed se_Ga_listed in_Ga gc_Ga_listed ml_La_38 ⟨Nat.le_of_ble_eq_true rfl, Nat.le_of_ble_eq_true rfl⟩ hK hP.1 rfl hP rfl hl.1 rfl (Nat.le_of_ble_eq_true rfl) d_La_areLists_54 ⟨Nat.le_of_ble_eq_true rfl, Nat.le_of_ble_eq_true rfl⟩ (g_r rfl ?_)
                          refine lv_if_lt (tgt := 232) hx hb d_La_areLists_57 (by decide) (fun c_57 => ?_) (fun c_57 => ?_)
                          · skip
                            refine lv_iload hx hb d_La_areLists_232 (lv_at hl 1 rfl) ?_
                            refine lv_iconst (v := nI 3) hx hb d_La_areLists_234 (by decide +kernel) ?_
                            refine g_iadd C0 (z := k + 3) d_La_areLists_235 rfl ?_
                            refine lv_aload_n hx hb d_La_areLists_236 rfl (lv_at hl 8 rfl) ?_
                            refine lv_iconst (v := nI 0) hx hb d_La_areLists_237 (by decide +kernel) ?_
                            refine g_V C0 (g_val (v' := (nI X.1.1)) (k_Ga_count l G x X (nI 0) hX) cnt_0) co_Ga_count im_Ga_count se_Ga_count in_Ga gc_Ga_count ml_La_22 ⟨Nat.le_of_ble_eq_true rfl, Nat.le_of_ble_eq_true rfl⟩ hK hP.1 rfl hP rfl hl.1 rfl (Nat.le_of_ble_eq_true rfl) d_La_areLists_238 ⟨Nat.le_of_ble_eq_true rfl, Nat.le_of_ble_eq_true rfl⟩ (g_r rfl ?_)
                            refine lv_iconst (v := nI 3) hx hb d_La_areLists_241 (by decide +kernel) ?_
                            refine g_irem C0 (z := X.1.1 % 3) d_La_areLists_242 (by omega) (by omega) (by omega) rfl ?_
                            refine g_isub C0 (z := (k + 3) - (X.1.1 % 3)) d_La_areLists_243 (by omega) ?_
                            refine lv_iconst (v := nI 3) hx hb d_La_areLists_244 (by decide +kernel) ?_
                            refine g_irem C0 (z := ((k + 3) - (X.1.1 % 3)) % 3) d_La_areLists_245 (by omega) (by omega) (by omega) rfl ?_
                            refine lv_istore (lv' := [(9, .int (nI (((k + 3) - (X.1.1 % 3)) % 3))), (8, .int (nI mm)), (7, .int (nI k)), (6, .int (nI o)), (5, .int (nI lf)), (4, .int (oI (-6) f)), (3, .int (nI co)), (2, .int (nI 0)), (1, .int (nI 1)), (0, .ref x)]) hx hb d_La_areLists_246 hl (by decide) rfl (fun ls hl => ?_)
                            refine lv_iload_n hx hb d_La_areLists_248 rfl (lv_at hl 8 rfl) ?_
                            refine lv_if_eq (tgt := 280) hx hb d_La_areLists_249 (by decide) (fun c_249 => ?_) (fun c_249 => ?_)
                            · first | exact absurd c_249 (by decide) | exact absurd rfl c_249
                            · skip
                              refine lv_iload hx hb d_La_areLists_252 (lv_at hl 1 rfl) ?_
                              refine lv_bipush (v := nI 8) hx hb d_La_areLists_254 (by decide +kernel) ?_
                              refine g_cgt (tgt := 280) C0 d_La_areLists_256 (by decide) (by omega) (by omega) (fun c_256 => ?_) (fun c_256 => ?_)
                              · exact absurd c_256 (by omega)
                              · skip
                                refine lv_iload hx hb d_La_areLists_259 (lv_at hl 0 rfl) ?_
                                refine lv_if_eq (tgt := 276) hx hb d_La_areLists_261 (by decide) (fun c_261 => ?_) (fun c_261 => ?_)
                                · skip
                                  refine lv_iconst (v := nI 1) hx hb d_La_areLists_276 (by decide +kernel) ?_
                                  refine lv_goto (tgt := 281) hx hb d_La_areLists_277 (by decide) ?_
                                  refine lv_istore_n (lv' := [(1, .int (nI 1)), (9, .int (nI (((k + 3) - (X.1.1 % 3)) % 3))), (8, .int (nI mm)), (7, .int (nI k)), (6, .int (nI o)), (5, .int (nI lf)), (4, .int (oI (-6) f)), (3, .int (nI co)), (2, .int (nI 0)), (0, .ref x)]) hx hb d_La_areLists_281 rfl hl (by decide) rfl (fun ls hl => ?_)
                                  refine lv_iinc (v := (nI (k + 1))) (lv' := [(7, .int (nI (k + 1))), (1, .int (nI 1)), (9, .int (nI (((k + 3) - (X.1.1 % 3)) % 3))), (8, .int (nI mm)), (6, .int (nI o)), (5, .int (nI lf)), (4, .int (oI (-6) f)), (3, .int (nI co)), (2, .int (nI 0)), (0, .ref x)]) hx hb d_La_areLists_282 hl (k := 3) rfl (gI_inc _) (by decide) rfl (fun ls hl => ?_)
                                  refine lv_goto (tgt := 28) hx hb d_La_areLists_285 (by decide) ?_
                                  exact ih28 (k + 1) f lf o (by omega) (by omega) (by rw [hf, show mm = (Lst X.1 co k).1 by omega, nxM_e]) (by rw [hlf, show mm = (Lst X.1 co k).1 by omega, lfM_e]) (by rw [ho, show mm = (Lst X.1 co k).1 by omega]; rfl) ls (lv_sub hl [0, 4, 5, 6, 7, 8, 1, 9] rfl)
                                · skip
                                  refine lv_aload_n hx hb d_La_areLists_264 rfl (lv_at hl 9 rfl) ?_
                                  refine lv_iload_n hx hb d_La_areLists_265 rfl (lv_at hl 6 rfl) ?_
                                  refine lv_iload hx hb d_La_areLists_266 (lv_at hl 0 rfl) ?_
                                  refine g_V C0 (g_val (v' := (nI (nmL X.1 co ((k + 3 - X.1.1 % 3) % 3)))) (k_Ga_left l G x X (nI co) (nI (((k + 3) - (X.1.1 % 3)) % 3)) hX) (lf_v hc (by omega))) co_Ga_left im_Ga_left se_Ga_left in_Ga gc_Ga_left ml_La_45 ⟨Nat.le_of_ble_eq_true rfl, Nat.le_of_ble_eq_true rfl⟩ hK hP.1 rfl hP rfl hl.1 rfl (Nat.le_of_ble_eq_true rfl) d_La_areLists_268 ⟨Nat.le_of_ble_eq_true rfl, Nat.le_of_ble_eq_true rfl⟩ (g_r rfl ?_)
                                  refine lv_iload hx hb d_La_areLists_271 (lv_at hl 1 rfl) ?_
                                  refine lv_icmp_ne (tgt := 280) hx hb d_La_areLists_273 (by decide) (fun c_273 => ?_) (fun c_273 => ?_)
                                  · exact absurd (by rw [nmL_a hk (fun z => c_261 (by rw [z]; rfl)), show mm = (Lst X.1 co k).1 by omega]) c_273
                                  · skip
                                    refine lv_iconst (v := nI 1) hx hb d_La_areLists_276 (by decide +kernel) ?_
                                    refine lv_goto (tgt := 281) hx hb d_La_areLists_277 (by decide) ?_
                                    refine lv_istore_n (lv' := [(1, .int (nI 1)), (9, .int (nI (((k + 3) - (X.1.1 % 3)) % 3))), (8, .int (nI mm)), (7, .int (nI k)), (6, .int (nI o)), (5, .int (nI lf)), (4, .int (oI (-6) f)), (3, .int (nI co)), (2, .int (nI 0)), (0, .ref x)]) hx hb d_La_areLists_281 rfl hl (by decide) rfl (fun ls hl => ?_)
                                    refine lv_iinc (v := (nI (k + 1))) (lv' := [(7, .int (nI (k + 1))), (1, .int (nI 1)), (9, .int (nI (((k + 3) - (X.1.1 % 3)) % 3))), (8, .int (nI mm)), (6, .int (nI o)), (5, .int (nI lf)), (4, .int (oI (-6) f)), (3, .int (nI co)), (2, .int (nI 0)), (0, .ref x)]) hx hb d_La_areLists_282 hl (k := 3) rfl (gI_inc _) (by decide) rfl (fun ls hl => ?_)
                                    refine lv_goto (tgt := 28) hx hb d_La_areLists_285 (by decide) ?_
                                    exact ih28 (k + 1) f lf o (by omega) (by omega) (by rw [hf, show mm = (Lst X.1 co k).1 by omega, nxM_e]) (by rw [hlf, show mm = (Lst X.1 co k).1 by omega, lfM_e]) (by rw [ho, show mm = (Lst X.1 co k).1 by omega]; rfl) ls (lv_sub hl [0, 4, 5, 6, 7, 8, 1, 9] rfl)
                          · exact absurd (by decide) c_57
                  exact lp41 ((9 - 0) + 1) 0 f lf o (by omega) (by omega) hf hlf (by omega) ls (lv_sub hl [0, 1, 2, 3, 4, 5, 6, 7, 8] rfl)
          exact lp28 ((3 - 0) + 1) 0 none 0 0 (by omega) (by omega) (nxM_0 co).symm (lfM_0 co).symm rfl ls (lv_sub hl [0, 1, 2, 3, 4, 5, 6, 7] rfl)
  exact lp6 ((2 - 0) + 1) 0 (by omega) (by omega) ls (lv_sub hl [0, 1, 2, 3] rfl)
