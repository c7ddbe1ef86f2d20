set_option maxHeartbeats 8000000 in
set_option maxRecDepth 100000 in
theorem la_acts_566 (l : Launch) (G : gT) (x : Nat) (X : XS) (t : Nat) (ht9 : t ≤ 900) (cz : Nat) (hcz : cz < 2 ^ 31) (hI : IY t X.1) (hX : XOk X) (co li : Nat) (hco : co = cz / 2 ^ 4 % 2) (hli : li = cz / 2 ^ 5 % 3) (hc : co < 2) (hk : li < 3) (hlx : lix co li < 6) (hl8 : (X.1.2 (5 + lix co li)).1 ≤ 8) {p : Program} {e : Env} {s : State} {m : MethodId} {args : Array Value} {below : List Frame} {meth : Method} {c : Code} (C0 : CallFix p m c c_La_acts 30 s args lw_g "GaleNamesLaw") (hlk : meth.locks = false) (hr : meth.sig.returnType = (some .boolean)) (hP : XAt G x X s.heap) (hK : gK G s) (ls : Array Slot) (hl : lv_has ls 30 [(4, .int (nI ((X.1.2 11).1))), (3, .int (nI li)), (2, .int (nI co)), (0, .ref x), (1, .int (nI cz))]) : W p l e ({ frames := 10, cells := 0, slots := 0, locals := 330 } : Room) s m args below meth c s.heap [] 0 0 (MQ below (gQ (wi (.int (bI true)) (fun H H1 => ∃ Z : XS, XAt G x Z H1 ∧ IX (t + 1) Z ∧ gFr x (x + 262) H H1))) args s 0 0 (gRg x (x + 262))) (F0 m 566 ls []) := by
  have hx := C0.1
  have hb := C0.2.1
  have hJ : IX t X := ⟨hI, hX.2.1⟩
  have h40 := hI.n40
  have h16 := hI.g16
  have h10 := hI.s10
  have hp80 := hP.p80
  have e12 := hI.gk (k := 12) (by decide) (by decide)
  have e13 := hI.gk (k := 13) (by decide) (by decide)
  have e15 := hI.sk (k := 15) (by decide) (by decide)
  have hset := hI.set3 (i := 0) (by decide)
  refine lv_aload_n hx hb d_La_acts_566 rfl (lv_at hl 3 rfl) ?_
  refine lv_iconst (v := nI 0) hx hb d_La_acts_567 (by decide +kernel) ?_
  refine g_V C0 (g_val (v' := (nI X.1.1)) (k_Ga_count l G x X (nI 0) hX) cnt_0) co_Ga_count im_Ga_count se_Ga_count in_Ga gc_Ga_count ml_La_22 ⟨Nat.le_of_ble_eq_true rfl, Nat.le_of_ble_eq_true rfl⟩ hK hP.1 rfl hP rfl hl.1 rfl (Nat.le_of_ble_eq_true rfl) d_La_acts_568 ⟨Nat.le_of_ble_eq_true rfl, Nat.le_of_ble_eq_true rfl⟩ (g_r rfl ?_)
  refine lv_istore (lv' := [(19, .int (nI X.1.1)), (4, .int (nI ((X.1.2 11).1))), (3, .int (nI li)), (2, .int (nI co)), (0, .ref x), (1, .int (nI cz))]) hx hb d_La_acts_571 hl (by decide) rfl (fun ls hl => ?_)
  refine lv_aload_n hx hb d_La_acts_573 rfl (lv_at hl 4 rfl) ?_
  refine lv_iconst (v := nI 2) hx hb d_La_acts_574 (by decide +kernel) ?_
  refine g_V C0 (g_val (v' := (nI (sN (X.1.2 2).2 (X.1.2 2).1))) (k_Ga_count l G x X (nI 2) hX) cnt_2) co_Ga_count im_Ga_count se_Ga_count in_Ga gc_Ga_count ml_La_22 ⟨Nat.le_of_ble_eq_true rfl, Nat.le_of_ble_eq_true rfl⟩ hK hP.1 rfl hP rfl hl.1 rfl (Nat.le_of_ble_eq_true rfl) d_La_acts_575 ⟨Nat.le_of_ble_eq_true rfl, Nat.le_of_ble_eq_true rfl⟩ (g_r rfl ?_)
  refine lv_istore (lv' := [(20, .int (nI (sN (X.1.2 2).2 (X.1.2 2).1))), (19, .int (nI X.1.1)), (4, .int (nI ((X.1.2 11).1))), (3, .int (nI li)), (2, .int (nI co)), (0, .ref x), (1, .int (nI cz))]) hx hb d_La_acts_578 hl (by decide) rfl (fun ls hl => ?_)
  refine lv_aload_n hx hb d_La_acts_580 rfl (lv_at hl 5 rfl) ?_
  refine lv_aload_n hx hb d_La_acts_581 rfl (lv_at hl 5 rfl) ?_
  refine lv_bipush (v := nI 9) hx hb d_La_acts_582 (by decide +kernel) ?_
  refine g_V C0 (g_val (v' := (nI ((X.1.2 0).2 0))) (k_Ga_count l G x X (nI 9) hX) (cnt_9 hI (i := 0) (by decide))) co_Ga_count im_Ga_count se_Ga_count in_Ga gc_Ga_count ml_La_22 ⟨Nat.le_of_ble_eq_true rfl, Nat.le_of_ble_eq_true rfl⟩ hK hP.1 rfl hP rfl hl.1 rfl (Nat.le_of_ble_eq_true rfl) d_La_acts_584 ⟨Nat.le_of_ble_eq_true rfl, Nat.le_of_ble_eq_true rfl⟩ (g_r rfl ?_)
  refine g_V C0 (g_val (v' := (nI (hdB X.1 ((X.1.2 0).2 0)))) (k_Ga_ifRetired l G x X (nI ((X.1.2 0).2 0)) hX) (ifr_v hset.2.1 hset.2.2)) co_Ga_ifRetired im_Ga_ifRetired se_Ga_ifRetired in_Ga gc_Ga_ifRetired ml_La_76 ⟨Nat.le_of_ble_eq_true rfl, Nat.le_of_ble_eq_true rfl⟩ hK hP.1 rfl hP rfl hl.1 rfl (Nat.le_of_ble_eq_true rfl) d_La_acts_587 ⟨Nat.le_of_ble_eq_true rfl, Nat.le_of_ble_eq_true rfl⟩ (g_r rfl ?_)
  refine lv_istore (lv' := [(21, .int (nI (hdB X.1 ((X.1.2 0).2 0)))), (20, .int (nI (sN (X.1.2 2).2 (X.1.2 2).1))), (19, .int (nI X.1.1)), (4, .int (nI ((X.1.2 11).1))), (3, .int (nI li)), (2, .int (nI co)), (0, .ref x), (1, .int (nI cz))]) hx hb d_La_acts_590 hl (by decide) rfl (fun ls hl => ?_)
  obtain ⟨Z, hz, hJZ, hz2, hz11, hzy⟩ := end_v hJ ht9
  refine lv_aload_n hx hb d_La_acts_592 rfl (lv_at hl 6 rfl) ?_
  have hOZ := hJZ.ok (by omega)
  refine g_V C0 (g_valw (v' := (nI (hdB X.1 ((X.1.2 0).2 0)))) (X' := Z) (k_Ga_endYear l G x X  hX) hz) co_Ga_endYear im_Ga_endYear se_Ga_endYear in_Ga gc_Ga_endYear ml_La_79 ⟨Nat.le_of_ble_eq_true rfl, Nat.le_of_ble_eq_true rfl⟩ hK hP.1 rfl hP rfl hl.1 rfl (Nat.le_of_ble_eq_true rfl) d_La_acts_593 ⟨Nat.le_of_ble_eq_true rfl, Nat.le_of_ble_eq_true rfl⟩ (g_wi (free := gRg x (x + 262)) (t_nil (free := gRg x (x + 262))) (fun _ h => h) (fun H_1 locs hL ⟨hR_2, hf_3⟩ => ?_))
  refine lv_iload hx hb d_La_acts_596 (lv_at hl 0 rfl) ?_
  refine lv_icmp_ne (tgt := 638) hx hb d_La_acts_598 (by decide) (fun c_598 => ?_) (fun c_598 => ?_)
  · exact absurd rfl c_598
  · skip
    refine lv_aload_n hx hb d_La_acts_601 rfl (lv_at hl 6 rfl) ?_
    refine lv_iconst (v := nI 2) hx hb d_La_acts_602 (by decide +kernel) ?_
    refine g_V C0 (g_val (v' := (nI (sN (Z.1.2 2).2 (Z.1.2 2).1))) (k_Ga_count l G x Z (nI 2) hOZ) cnt_2) co_Ga_count im_Ga_count se_Ga_count in_Ga gc_Ga_count ml_La_22 ⟨Nat.le_of_ble_eq_true rfl, Nat.le_of_ble_eq_true rfl⟩ hK hR_2.1 rfl hR_2 rfl hl.1 rfl (Nat.le_of_ble_eq_true rfl) d_La_acts_603 ⟨Nat.le_of_ble_eq_true rfl, Nat.le_of_ble_eq_true rfl⟩ (g_r rfl ?_)
    refine lv_iload hx hb d_La_acts_606 (lv_at hl 1 rfl) ?_
    refine lv_iload hx hb d_La_acts_608 (lv_at hl 0 rfl) ?_
    refine g_iadd C0 (z := sN (X.1.2 2).2 (X.1.2 2).1 + (hdB X.1 ((X.1.2 0).2 0))) d_La_acts_610 rfl ?_
    refine lv_icmp_ne (tgt := 638) hx hb d_La_acts_611 (by decide) (fun c_611 => ?_) (fun c_611 => ?_)
    · exact absurd (by rw [hz2]) c_611
    · skip
      refine lv_aload_n hx hb d_La_acts_614 rfl (lv_at hl 6 rfl) ?_
      refine lv_iconst (v := nI 3) hx hb d_La_acts_615 (by decide +kernel) ?_
      refine g_V C0 (g_val (v' := (nI ((Z.1.2 11).1))) (k_Ga_count l G x Z (nI 3) hOZ) cnt_3) co_Ga_count im_Ga_count se_Ga_count in_Ga gc_Ga_count ml_La_22 ⟨Nat.le_of_ble_eq_true rfl, Nat.le_of_ble_eq_true rfl⟩ hK hR_2.1 rfl hR_2 rfl hl.1 rfl (Nat.le_of_ble_eq_true rfl) d_La_acts_616 ⟨Nat.le_of_ble_eq_true rfl, Nat.le_of_ble_eq_true rfl⟩ (g_r rfl ?_)
      refine lv_if_ne (tgt := 638) hx hb d_La_acts_619 (by decide) (fun c_619 => ?_) (fun c_619 => ?_)
      · exact absurd (by rw [hz11]; rfl) c_619
      · skip
        refine lv_aload_n hx hb d_La_acts_622 rfl (lv_at hl 6 rfl) ?_
        refine lv_iconst (v := nI 0) hx hb d_La_acts_623 (by decide +kernel) ?_
        refine g_V C0 (g_val (v' := (nI Z.1.1)) (k_Ga_count l G x Z (nI 0) hOZ) cnt_0) co_Ga_count im_Ga_count se_Ga_count in_Ga gc_Ga_count ml_La_22 ⟨Nat.le_of_ble_eq_true rfl, Nat.le_of_ble_eq_true rfl⟩ hK hR_2.1 rfl hR_2 rfl hl.1 rfl (Nat.le_of_ble_eq_true rfl) d_La_acts_624 ⟨Nat.le_of_ble_eq_true rfl, Nat.le_of_ble_eq_true rfl⟩ (g_r rfl ?_)
        refine lv_iload hx hb d_La_acts_627 (lv_at hl 2 rfl) ?_
        refine lv_iconst (v := nI 1) hx hb d_La_acts_629 (by decide +kernel) ?_
        refine g_iadd C0 (z := X.1.1 + 1) d_La_acts_630 rfl ?_
        refine lv_icmp_ne (tgt := 638) hx hb d_La_acts_631 (by decide) (fun c_631 => ?_) (fun c_631 => ?_)
        · exact absurd (by rw [hzy]) c_631
        · skip
          refine lv_iconst (v := nI 1) hx hb d_La_acts_634 (by decide +kernel) ?_
          refine lv_goto (tgt := 639) hx hb d_La_acts_635 (by decide) ?_
          refine g_zret (b := true) C0 hlk hr d_La_acts_639 hL ?_
          exact ⟨rfl, Z, hR_2, hJZ.mono (by omega), (gFr.rf.tr hf_3)⟩

set_option maxHeartbeats 8000000 in
set_option maxRecDepth 100000 in
theorem la_acts_640 (l : Launch) (G : gT) (x : Nat) (X : XS) (t : Nat) (ht9 : t ≤ 900) (cz : Nat) (hcz : cz < 2 ^ 31) (hI : IY t X.1) (hX : XOk X) (co li : Nat) (hco : co = cz / 2 ^ 4 % 2) (hli : li = cz / 2 ^ 5 % 3) (hc : co < 2) (hk : li < 3) (hlx : lix co li < 6) (hl8 : (X.1.2 (5 + lix co li)).1 ≤ 8) {p : Program} {e : Env} {s : State} {m : MethodId} {args : Array Value} {below : List Frame} {meth : Method} {c : Code} (C0 : CallFix p m c c_La_acts 30 s args lw_g "GaleNamesLaw") (hlk : meth.locks = false) (hr : meth.sig.returnType = (some .boolean)) (hP : XAt G x X s.heap) (hK : gK G s) (ls : Array Slot) (hl : lv_has ls 30 [(4, .int (nI ((X.1.2 11).1))), (3, .int (nI li)), (2, .int (nI co)), (0, .ref x), (1, .int (nI cz))]) : W p l e ({ frames := 10, cells := 0, slots := 0, locals := 330 } : Room) s m args below meth c s.heap [] 0 0 (MQ below (gQ (wi (.int (bI true)) (fun H H1 => ∃ Z : XS, XAt G x Z H1 ∧ IX (t + 1) Z ∧ gFr x (x + 262) H H1))) args s 0 0 (gRg x (x + 262))) (F0 m 640 ls []) := by
  have hx := C0.1
  have hb := C0.2.1
  have hJ : IX t X := ⟨hI, hX.2.1⟩
  have h40 := hI.n40
  have h16 := hI.g16
  have h10 := hI.s10
  have hp80 := hP.p80
  have e12 := hI.gk (k := 12) (by decide) (by decide)
  have e13 := hI.gk (k := 13) (by decide) (by decide)
  have e15 := hI.sk (k := 15) (by decide) (by decide)
  have hset := hI.set3 (i := 0) (by decide)
  refine lv_aload_n hx hb d_La_acts_640 rfl (lv_at hl 3 rfl) ?_
  refine lv_bipush (v := nI 6) hx hb d_La_acts_641 (by decide +kernel) ?_
  refine g_V C0 (g_val (v' := (nI ((X.1.2 14).1))) (k_Ga_count l G x X (nI 6) hX) cnt_6) co_Ga_count im_Ga_count se_Ga_count in_Ga gc_Ga_count ml_La_22 ⟨Nat.le_of_ble_eq_true rfl, Nat.le_of_ble_eq_true rfl⟩ hK hP.1 rfl hP rfl hl.1 rfl (Nat.le_of_ble_eq_true rfl) d_La_acts_643 ⟨Nat.le_of_ble_eq_true rfl, Nat.le_of_ble_eq_true rfl⟩ (g_r rfl ?_)
  refine lv_istore (lv' := [(22, .int (nI ((X.1.2 14).1))), (4, .int (nI ((X.1.2 11).1))), (3, .int (nI li)), (2, .int (nI co)), (0, .ref x), (1, .int (nI cz))]) hx hb d_La_acts_646 hl (by decide) rfl (fun ls hl => ?_)
  refine lv_aload_n hx hb d_La_acts_648 rfl (lv_at hl 4 rfl) ?_
  obtain ⟨X1, hX1⟩ : ∃ Z, Z = xPd X (0, X.2.1.1.2) X.2.1.2 := ⟨_, rfl⟩
  have hJX1 : IX t X1 := by rw [hX1]; exact ⟨hI, rB_0⟩
  have hOX1 := hJX1.ok (by omega)
  have hp1 : X1.2.1.1.1 = 0 := by rw [hX1]; rfl
  have hs1 : X1.1 = X.1 := by rw [hX1]; rfl
  have hB1 := BS_0 hp1
  refine g_V C0 (g_valw (v' := (nI X.2.1.1.1)) (X' := X1) (k_Ga_wipe l G x X  hX) (by rw [hX1]; rfl)) co_Ga_wipe im_Ga_wipe se_Ga_wipe in_Ga gc_Ga_wipe ml_La_54 ⟨Nat.le_of_ble_eq_true rfl, Nat.le_of_ble_eq_true rfl⟩ hK hP.1 rfl hP rfl hl.1 rfl (Nat.le_of_ble_eq_true rfl) d_La_acts_649 ⟨Nat.le_of_ble_eq_true rfl, Nat.le_of_ble_eq_true rfl⟩ (g_wi (free := gRg x (x + 262)) (t_nil (free := gRg x (x + 262))) (fun _ h => h) (fun H_1 locs hL ⟨hR_2, hf_3⟩ => ?_))
  refine lv_if_lt (tgt := 669) hx hb d_La_acts_652 (by decide) (fun c_652 => ?_) (fun c_652 => ?_)
  · exact absurd c_652 (nI_pos (by omega))
  · skip
    refine lv_aload_n hx hb d_La_acts_655 rfl (lv_at hl 4 rfl) ?_
    refine lv_iload_n hx hb d_La_acts_656 rfl (lv_at hl 5 rfl) ?_
    refine lv_iconst (v := nI 4) hx hb d_La_acts_657 (by decide +kernel) ?_
    refine g_ishr C0 (z := cz / 2 ^ 4) d_La_acts_658 (by omega) (by omega) rfl ?_
    obtain ⟨X2, hX2⟩ : ∃ Z, Z = xPd X1 (chR X1.2.1.1 (cz / 2 ^ 4) (2 + (cz / 2 ^ 4) % 5)) X1.2.1.2 := ⟨_, rfl⟩
    have hJX2 : IX t X2 := by rw [hX2]; exact ⟨hJX1.1, chR_B hJX1.2 _⟩
    have hOX2 := hJX2.ok (by omega)
    have hp2 : X2.2.1.1.1 = X1.2.1.1.1 + (2 + (cz / 2 ^ 4) % 5) := by rw [hX2]; exact (chR_ok (by omega)).1
    have hs2 : X2.1 = X.1 := by rw [hX2]; exact hs1
    have hQ2 : QS X2 0 := by rw [hX2]; exact QS_puts hB1 (by omega)
    refine g_S C0 (k_La_puts l G x X1 t (cz / 2 ^ 4) (by omega) (by omega) hJX1.1 hOX1) co_La_puts sm_La_puts in_La gc_La_puts ml_La_58 ⟨Nat.le_of_ble_eq_true rfl, Nat.le_of_ble_eq_true rfl⟩ hK hR_2 rfl hl.1 rfl (Nat.le_of_ble_eq_true rfl) d_La_acts_659 ⟨Nat.le_of_ble_eq_true rfl, Nat.le_of_ble_eq_true rfl⟩ (g_wi (free := gRg x (x + 262)) hL (fun _ h => h) (fun H_4 locs hL ⟨hR_5, hf_6⟩ => ?_))
    rw [← hX2] at hR_5
    refine g_zeq (tgt := 669) C0 d_La_acts_662 (by decide) (fun c_662 => ?_) (fun c_662 => ?_)
    · cases c_662
    · skip
      refine lv_iconst (v := nI 1) hx hb d_La_acts_665 (by decide +kernel) ?_
      refine lv_goto (tgt := 670) hx hb d_La_acts_666 (by decide) ?_
      obtain ⟨T, hxT, hT1, hTk⟩ := QS_end hQ2 (by decide)
      refine lv_istore (lv' := [(23, .int (nI 1)), (22, .int (nI ((X.1.2 14).1))), (4, .int (nI ((X.1.2 11).1))), (3, .int (nI li)), (2, .int (nI co)), (0, .ref x), (1, .int (nI cz))]) hx hb d_La_acts_670 hl (by decide) rfl (fun ls hl => ?_)
      rcases nmk_v hJX2 hxT (by rw [hT1]; exact hTk) (by omega) with hfl | ⟨hl10, Z, hfl, hJZ, hz14, hz15, hZp⟩
      · skip
        refine lv_aload_n hx hb d_La_acts_672 rfl (lv_at hl 5 rfl) ?_
        obtain ⟨X5, hX5⟩ : ∃ Z, Z = xTd X2 := ⟨_, rfl⟩
        have hJX5 : IX t X5 := by rw [hX5]; exact hJX2
        have hOX5 := hJX5.ok (by omega)
        refine g_V C0 (g_valw (v' := (-4)) (X' := X5) (k_Ga_namesake l G x X2  hOX2) (by rw [hX5]; exact hfl)) co_Ga_namesake im_Ga_namesake se_Ga_namesake in_Ga gc_Ga_namesake ml_La_82 ⟨Nat.le_of_ble_eq_true rfl, Nat.le_of_ble_eq_true rfl⟩ hK hR_5.1 rfl hR_5 rfl hl.1 rfl (Nat.le_of_ble_eq_true rfl) d_La_acts_673 ⟨Nat.le_of_ble_eq_true rfl, Nat.le_of_ble_eq_true rfl⟩ (g_wi (free := gRg x (x + 262)) hL (fun _ h => h) (fun H_7 locs hL ⟨hR_8, hf_9⟩ => ?_))
        refine lv_istore (lv' := [(24, .int (-4)), (23, .int (nI 1)), (22, .int (nI ((X.1.2 14).1))), (4, .int (nI ((X.1.2 11).1))), (3, .int (nI li)), (2, .int (nI co)), (0, .ref x), (1, .int (nI cz))]) hx hb d_La_acts_676 hl (by decide) rfl (fun ls hl => ?_)
        refine lv_iload hx hb d_La_acts_678 (lv_at hl 1 rfl) ?_
        refine lv_if_eq (tgt := 737) hx hb d_La_acts_680 (by decide) (fun c_680 => ?_) (fun c_680 => ?_)
        · first | exact absurd c_680 (by decide) | exact absurd rfl c_680
        · skip
          refine lv_iload hx hb d_La_acts_683 (lv_at hl 2 rfl) ?_
          refine lv_bipush (v := nI 10) hx hb d_La_acts_685 (by decide +kernel) ?_
          refine g_cne (tgt := 700) C0 d_La_acts_687 (by decide) (by omega) (by omega) (fun c_687 => ?_) (fun c_687 => ?_)
          · skip
            refine lv_iload hx hb d_La_acts_700 (lv_at hl 0 rfl) ?_
            refine lv_bipush (v := -4) hx hb d_La_acts_702 (by decide +kernel) ?_
            refine lv_icmp_eq (tgt := 733) hx hb d_La_acts_704 (by decide) (fun c_704 => ?_) (fun c_704 => ?_)
            · skip
              refine lv_iconst (v := nI 1) hx hb d_La_acts_733 (by decide +kernel) ?_
              refine lv_goto (tgt := 738) hx hb d_La_acts_734 (by decide) ?_
              refine g_zret (b := true) C0 hlk hr d_La_acts_738 hL ?_
              exact ⟨rfl, X5, hR_8, hJX5.mono (by omega), (((gFr.rf.tr hf_3).tr hf_6).tr hf_9)⟩
            · exact absurd rfl c_704
          · skip
            refine lv_iload hx hb d_La_acts_690 (lv_at hl 0 rfl) ?_
            refine lv_bipush (v := -4) hx hb d_La_acts_692 (by decide +kernel) ?_
            refine lv_icmp_ne (tgt := 737) hx hb d_La_acts_694 (by decide) (fun c_694 => ?_) (fun c_694 => ?_)
            · exact absurd rfl c_694
            · skip
              refine lv_goto (tgt := 733) hx hb d_La_acts_697 (by decide) ?_
              refine lv_iconst (v := nI 1) hx hb d_La_acts_733 (by decide +kernel) ?_
              refine lv_goto (tgt := 738) hx hb d_La_acts_734 (by decide) ?_
              refine g_zret (b := true) C0 hlk hr d_La_acts_738 hL ?_
              exact ⟨rfl, X5, hR_8, hJX5.mono (by omega), (((gFr.rf.tr hf_3).tr hf_6).tr hf_9)⟩
      · skip
        refine lv_aload_n hx hb d_La_acts_672 rfl (lv_at hl 5 rfl) ?_
        have hOZ := hJZ.ok (by omega)
        refine g_V C0 (g_valw (v' := (nI ((X2.1.2 14).1))) (X' := Z) (k_Ga_namesake l G x X2  hOX2) hfl) co_Ga_namesake im_Ga_namesake se_Ga_namesake in_Ga gc_Ga_namesake ml_La_82 ⟨Nat.le_of_ble_eq_true rfl, Nat.le_of_ble_eq_true rfl⟩ hK hR_5.1 rfl hR_5 rfl hl.1 rfl (Nat.le_of_ble_eq_true rfl) d_La_acts_673 ⟨Nat.le_of_ble_eq_true rfl, Nat.le_of_ble_eq_true rfl⟩ (g_wi (free := gRg x (x + 262)) hL (fun _ h => h) (fun H_10 locs hL ⟨hR_11, hf_12⟩ => ?_))
        refine lv_istore (lv' := [(24, .int (nI ((X2.1.2 14).1))), (23, .int (nI 1)), (22, .int (nI ((X.1.2 14).1))), (4, .int (nI ((X.1.2 11).1))), (3, .int (nI li)), (2, .int (nI co)), (0, .ref x), (1, .int (nI cz))]) hx hb d_La_acts_676 hl (by decide) rfl (fun ls hl => ?_)
        refine lv_iload hx hb d_La_acts_678 (lv_at hl 1 rfl) ?_
        refine lv_if_eq (tgt := 737) hx hb d_La_acts_680 (by decide) (fun c_680 => ?_) (fun c_680 => ?_)
        · first | exact absurd c_680 (by decide) | exact absurd rfl c_680
        · skip
          refine lv_iload hx hb d_La_acts_683 (lv_at hl 2 rfl) ?_
          refine lv_bipush (v := nI 10) hx hb d_La_acts_685 (by decide +kernel) ?_
          refine g_cne (tgt := 700) C0 d_La_acts_687 (by decide) (by omega) (by omega) (fun c_687 => ?_) (fun c_687 => ?_)
          · skip
            refine lv_iload hx hb d_La_acts_700 (lv_at hl 0 rfl) ?_
            refine lv_bipush (v := -4) hx hb d_La_acts_702 (by decide +kernel) ?_
            refine lv_icmp_eq (tgt := 733) hx hb d_La_acts_704 (by decide) (fun c_704 => ?_) (fun c_704 => ?_)
            · exact absurd c_704 (nI_ne (by rw [hs2]; omega) (by decide))
            · skip
              refine lv_iload hx hb d_La_acts_707 (lv_at hl 0 rfl) ?_
              refine lv_iload hx hb d_La_acts_709 (lv_at hl 2 rfl) ?_
              refine lv_icmp_ne (tgt := 737) hx hb d_La_acts_711 (by decide) (fun c_711 => ?_) (fun c_711 => ?_)
              · exact absurd (by rw [hs2]) c_711
              · skip
                refine lv_aload_n hx hb d_La_acts_714 rfl (lv_at hl 6 rfl) ?_
                refine lv_iload hx hb d_La_acts_715 (lv_at hl 0 rfl) ?_
                refine lv_iconst (v := nI 1) hx hb d_La_acts_717 (by decide +kernel) ?_
                refine g_V C0 (g_val (v' := (nI 0)) (k_Ga_ofNamesake l G x Z (nI ((X2.1.2 14).1)) (nI 1) hOZ) (by rw [sk_1 hJZ.1 (by omega), hz15])) co_Ga_ofNamesake im_Ga_ofNamesake se_Ga_ofNamesake in_Ga gc_Ga_ofNamesake ml_La_51 ⟨Nat.le_of_ble_eq_true rfl, Nat.le_of_ble_eq_true rfl⟩ hK hR_11.1 rfl hR_11 rfl hl.1 rfl (Nat.le_of_ble_eq_true rfl) d_La_acts_718 ⟨Nat.le_of_ble_eq_true rfl, Nat.le_of_ble_eq_true rfl⟩ (g_r rfl ?_)
                refine lv_if_ne (tgt := 737) hx hb d_La_acts_721 (by decide) (fun c_721 => ?_) (fun c_721 => ?_)
                · first | exact absurd c_721 (by decide) | exact absurd rfl c_721
                · skip
                  refine lv_aload_n hx hb d_La_acts_724 rfl (lv_at hl 6 rfl) ?_
                  refine lv_bipush (v := nI 12) hx hb d_La_acts_725 (by decide +kernel) ?_
                  refine g_V C0 (g_val (v' := (nI Z.2.1.1.1)) (k_Ga_count l G x Z (nI 12) hOZ) cnt_12) co_Ga_count im_Ga_count se_Ga_count in_Ga gc_Ga_count ml_La_22 ⟨Nat.le_of_ble_eq_true rfl, Nat.le_of_ble_eq_true rfl⟩ hK hR_11.1 rfl hR_11 rfl hl.1 rfl (Nat.le_of_ble_eq_true rfl) d_La_acts_727 ⟨Nat.le_of_ble_eq_true rfl, Nat.le_of_ble_eq_true rfl⟩ (g_r rfl ?_)
                  refine lv_if_ne (tgt := 737) hx hb d_La_acts_730 (by decide) (fun c_730 => ?_) (fun c_730 => ?_)
                  · exact absurd (by rw [hZp]; rfl) c_730
                  · skip
                    refine lv_iconst (v := nI 1) hx hb d_La_acts_733 (by decide +kernel) ?_
                    refine lv_goto (tgt := 738) hx hb d_La_acts_734 (by decide) ?_
                    refine g_zret (b := true) C0 hlk hr d_La_acts_738 hL ?_
                    exact ⟨rfl, Z, hR_11, hJZ.mono (by omega), (((gFr.rf.tr hf_3).tr hf_6).tr hf_12)⟩
          · exact absurd c_687 (by rw [hs2] at hl10; omega)

set_option maxHeartbeats 8000000 in
set_option maxRecDepth 100000 in
theorem la_acts_739 (l : Launch) (G : gT) (x : Nat) (X : XS) (t : Nat) (ht9 : t ≤ 900) (cz : Nat) (hcz : cz < 2 ^ 31) (hI : IY t X.1) (hX : XOk X) (co li : Nat) (hco : co = cz / 2 ^ 4 % 2) (hli : li = cz / 2 ^ 5 % 3) (hc : co < 2) (hk : li < 3) (hlx : lix co li < 6) (hl8 : (X.1.2 (5 + lix co li)).1 ≤ 8) {p : Program} {e : Env} {s : State} {m : MethodId} {args : Array Value} {below : List Frame} {meth : Method} {c : Code} (C0 : CallFix p m c c_La_acts 30 s args lw_g "GaleNamesLaw") (hlk : meth.locks = false) (hr : meth.sig.returnType = (some .boolean)) (hP : XAt G x X s.heap) (hK : gK G s) (ls : Array Slot) (hl : lv_has ls 30 [(4, .int (nI ((X.1.2 11).1))), (3, .int (nI li)), (2, .int (nI co)), (0, .ref x), (1, .int (nI cz))]) : W p l e ({ frames := 10, cells := 0, slots := 0, locals := 330 } : Room) s m args below meth c s.heap [] 0 0 (MQ below (gQ (wi (.int (bI true)) (fun H H1 => ∃ Z : XS, XAt G x Z H1 ∧ IX (t + 1) Z ∧ gFr x (x + 262) H H1))) args s 0 0 (gRg x (x + 262))) (F0 m 739 ls []) := by
  have hx := C0.1
  have hb := C0.2.1
  have hJ : IX t X := ⟨hI, hX.2.1⟩
  have h40 := hI.n40
  have h16 := hI.g16
  have h10 := hI.s10
  have hp80 := hP.p80
  have e12 := hI.gk (k := 12) (by decide) (by decide)
  have e13 := hI.gk (k := 13) (by decide) (by decide)
  have e15 := hI.sk (k := 15) (by decide) (by decide)
  have hset := hI.set3 (i := 0) (by decide)
  refine lv_iload_n hx hb d_La_acts_739 rfl (lv_at hl 4 rfl) ?_
  refine lv_iconst (v := nI 4) hx hb d_La_acts_740 (by decide +kernel) ?_
  refine g_ishr C0 (z := cz / 2 ^ 4) d_La_acts_741 (by omega) (by omega) rfl ?_
  refine lv_iconst (v := nI 3) hx hb d_La_acts_742 (by decide +kernel) ?_
  refine g_irem C0 (z := (cz / 2 ^ 4) % 3) d_La_acts_743 (by omega) (by omega) (by omega) rfl ?_
  refine lv_istore (lv' := [(25, .int (nI ((cz / 2 ^ 4) % 3))), (4, .int (nI ((X.1.2 11).1))), (3, .int (nI li)), (2, .int (nI co)), (0, .ref x), (1, .int (nI cz))]) hx hb d_La_acts_744 hl (by decide) rfl (fun ls hl => ?_)
  obtain ⟨wh, hwh⟩ : ∃ z, z = (cz / 2 ^ 4) % 3 := ⟨_, rfl⟩
  rw [← hwh] at hl
  refine lv_iconst (v := nI 1) hx hb d_La_acts_746 (by decide +kernel) ?_
  refine lv_iload_n hx hb d_La_acts_747 rfl (lv_at hl 5 rfl) ?_
  refine lv_bipush (v := nI 8) hx hb d_La_acts_748 (by decide +kernel) ?_
  refine g_ishr C0 (z := cz / 2 ^ 8) d_La_acts_750 (by omega) (by omega) rfl ?_
  refine lv_iload hx hb d_La_acts_751 (lv_at hl 0 rfl) ?_
  refine lv_iconst (v := nI 2) hx hb d_La_acts_753 (by decide +kernel) ?_
  refine g_cne (tgt := 762) C0 d_La_acts_754 (by decide) (by omega) (by omega) (fun c_754 => ?_) (fun c_754 => ?_)
  · skip
    refine lv_bipush (v := nI 99) hx hb d_La_acts_762 (by decide +kernel) ?_
    refine g_irem C0 (z := (cz / 2 ^ 8) % 99) d_La_acts_764 (by omega) (by omega) (by omega) rfl ?_
    refine g_iadd C0 (z := 1 + ((cz / 2 ^ 8) % 99)) d_La_acts_765 rfl ?_
    refine lv_istore (lv' := [(26, .int (nI (1 + ((cz / 2 ^ 8) % 99)))), (25, .int (nI wh)), (4, .int (nI ((X.1.2 11).1))), (3, .int (nI li)), (2, .int (nI co)), (0, .ref x), (1, .int (nI cz))]) hx hb d_La_acts_766 hl (by decide) rfl (fun ls hl => ?_)
    obtain ⟨vv, hvv⟩ : ∃ z, z = 1 + ((cz / 2 ^ 8) % 99) := ⟨_, rfl⟩
    rw [← hvv] at hl
    have hv1 : 1 ≤ vv := by omega
    have hv2 : vv ≤ if wh = 2 then 6 else 99 := by rw [if_neg c_754]; omega
    refine lv_aload_n hx hb d_La_acts_768 rfl (lv_at hl 5 rfl) ?_
    refine lv_bipush (v := nI 9) hx hb d_La_acts_769 (by decide +kernel) ?_
    refine lv_iload hx hb d_La_acts_771 (lv_at hl 1 rfl) ?_
    refine g_iadd C0 (z := 9 + wh) d_La_acts_773 rfl ?_
    refine g_V C0 (g_val (v' := (nI ((X.1.2 0).2 wh))) (k_Ga_count l G x X (nI (9 + wh)) hX) (cnt_9 hI (by omega))) co_Ga_count im_Ga_count se_Ga_count in_Ga gc_Ga_count ml_La_22 ⟨Nat.le_of_ble_eq_true rfl, Nat.le_of_ble_eq_true rfl⟩ hK hP.1 rfl hP rfl hl.1 rfl (Nat.le_of_ble_eq_true rfl) d_La_acts_774 ⟨Nat.le_of_ble_eq_true rfl, Nat.le_of_ble_eq_true rfl⟩ (g_r rfl ?_)
    refine lv_istore (lv' := [(27, .int (nI ((X.1.2 0).2 wh))), (26, .int (nI vv)), (25, .int (nI wh)), (4, .int (nI ((X.1.2 11).1))), (3, .int (nI li)), (2, .int (nI co)), (0, .ref x), (1, .int (nI cz))]) hx hb d_La_acts_777 hl (by decide) rfl (fun ls hl => ?_)
    rcases apo_or X with h0 | ⟨h0, hz0⟩ | ⟨h0, hz0⟩
    · skip
      refine lv_aload_n hx hb d_La_acts_779 rfl (lv_at hl 6 rfl) ?_
      refine lv_iconst (v := nI 0) hx hb d_La_acts_780 (by decide +kernel) ?_
      refine lv_iconst (v := nI 1) hx hb d_La_acts_781 (by decide +kernel) ?_
      refine g_V C0 (g_val (v' := (-1)) (k_Ga_ofNamesake l G x X (nI 0) (nI 1) hX) (sk_n (by omega) (by decide))) co_Ga_ofNamesake im_Ga_ofNamesake se_Ga_ofNamesake in_Ga gc_Ga_ofNamesake ml_La_51 ⟨Nat.le_of_ble_eq_true rfl, Nat.le_of_ble_eq_true rfl⟩ hK hP.1 rfl hP rfl hl.1 rfl (Nat.le_of_ble_eq_true rfl) d_La_acts_782 ⟨Nat.le_of_ble_eq_true rfl, Nat.le_of_ble_eq_true rfl⟩ (g_r rfl ?_)
      refine lv_istore (lv' := [(28, .int (-1)), (27, .int (nI ((X.1.2 0).2 wh))), (26, .int (nI vv)), (25, .int (nI wh)), (4, .int (nI ((X.1.2 11).1))), (3, .int (nI li)), (2, .int (nI co)), (0, .ref x), (1, .int (nI cz))]) hx hb d_La_acts_785 hl (by decide) rfl (fun ls hl => ?_)
      refine lv_aload_n hx hb d_La_acts_787 rfl (lv_at hl 7 rfl) ?_
      refine lv_iconst (v := nI 0) hx hb d_La_acts_788 (by decide +kernel) ?_
      refine g_V C0 (g_valw (v' := (-1)) (X' := X) (k_Ga_apologise l G x X (nI 0) hX) (apo_n hJ h0)) co_Ga_apologise im_Ga_apologise se_Ga_apologise in_Ga gc_Ga_apologise ml_La_85 ⟨Nat.le_of_ble_eq_true rfl, Nat.le_of_ble_eq_true rfl⟩ hK hP.1 rfl hP rfl hl.1 rfl (Nat.le_of_ble_eq_true rfl) d_La_acts_789 ⟨Nat.le_of_ble_eq_true rfl, Nat.le_of_ble_eq_true rfl⟩ (g_wi (free := gRg x (x + 262)) (t_nil (free := gRg x (x + 262))) (fun _ h => h) (fun H_1 locs hL ⟨hR_2, hf_3⟩ => ?_))
      refine lv_istore (lv' := [(29, .int (-1)), (28, .int (-1)), (27, .int (nI ((X.1.2 0).2 wh))), (26, .int (nI vv)), (25, .int (nI wh)), (4, .int (nI ((X.1.2 11).1))), (3, .int (nI li)), (2, .int (nI co)), (0, .ref x), (1, .int (nI cz))]) hx hb d_La_acts_792 hl (by decide) rfl (fun ls hl => ?_)
      refine lv_aload_n hx hb d_La_acts_794 rfl (lv_at hl 8 rfl) ?_
      refine lv_iload hx hb d_La_acts_795 (lv_at hl 4 rfl) ?_
      refine lv_iload hx hb d_La_acts_797 (lv_at hl 3 rfl) ?_
      obtain ⟨Z, hz, hJZ, hZv⟩ := set_s hJ (i := wh) (v := vv) (by omega) hv1 hv2
      have hOZ := hJZ.ok (by omega)
      refine g_V C0 (g_valw (v' := (nI ((X.1.2 0).2 wh))) (X' := Z) (k_Ga_set l G x X (nI wh) (nI vv) hX) hz) co_Ga_set im_Ga_set se_Ga_set in_Ga gc_Ga_set ml_La_88 ⟨Nat.le_of_ble_eq_true rfl, Nat.le_of_ble_eq_true rfl⟩ hK hR_2.1 rfl hR_2 rfl hl.1 rfl (Nat.le_of_ble_eq_true rfl) d_La_acts_799 ⟨Nat.le_of_ble_eq_true rfl, Nat.le_of_ble_eq_true rfl⟩ (g_wi (free := gRg x (x + 262)) hL (fun _ h => h) (fun H_4 locs hL ⟨hR_5, hf_6⟩ => ?_))
      refine lv_iload hx hb d_La_acts_802 (lv_at hl 2 rfl) ?_
      refine lv_icmp_ne (tgt := 863) hx hb d_La_acts_804 (by decide) (fun c_804 => ?_) (fun c_804 => ?_)
      · exact absurd rfl c_804
      · skip
        refine lv_aload_n hx hb d_La_acts_807 rfl (lv_at hl 8 rfl) ?_
        refine lv_bipush (v := nI 9) hx hb d_La_acts_808 (by decide +kernel) ?_
        refine lv_iload hx hb d_La_acts_810 (lv_at hl 4 rfl) ?_
        refine g_iadd C0 (z := 9 + wh) d_La_acts_812 rfl ?_
        refine g_V C0 (g_val (v' := (nI vv)) (k_Ga_count l G x Z (nI (9 + wh)) hOZ) (by rw [cnt_9 hJZ.1 (by omega), hZv])) co_Ga_count im_Ga_count se_Ga_count in_Ga gc_Ga_count ml_La_22 ⟨Nat.le_of_ble_eq_true rfl, Nat.le_of_ble_eq_true rfl⟩ hK hR_5.1 rfl hR_5 rfl hl.1 rfl (Nat.le_of_ble_eq_true rfl) d_La_acts_813 ⟨Nat.le_of_ble_eq_true rfl, Nat.le_of_ble_eq_true rfl⟩ (g_r rfl ?_)
        refine lv_iload hx hb d_La_acts_816 (lv_at hl 3 rfl) ?_
        refine lv_icmp_ne (tgt := 863) hx hb d_La_acts_818 (by decide) (fun c_818 => ?_) (fun c_818 => ?_)
        · exact absurd rfl c_818
        · skip
          refine lv_iload hx hb d_La_acts_821 (lv_at hl 1 rfl) ?_
          refine lv_if_ge (tgt := 835) hx hb d_La_acts_823 (by decide) (fun c_823 => ?_) (fun c_823 => ?_)
          · exact absurd c_823 (by decide)
          · skip
            refine lv_iload hx hb d_La_acts_826 (lv_at hl 0 rfl) ?_
            refine lv_iconst (v := -1) hx hb d_La_acts_828 (by decide +kernel) ?_
            refine lv_icmp_ne (tgt := 863) hx hb d_La_acts_829 (by decide) (fun c_829 => ?_) (fun c_829 => ?_)
            · exact absurd rfl c_829
            · skip
              refine lv_goto (tgt := 859) hx hb d_La_acts_832 (by decide) ?_
              refine lv_iconst (v := nI 1) hx hb d_La_acts_859 (by decide +kernel) ?_
              refine lv_goto (tgt := 864) hx hb d_La_acts_860 (by decide) ?_
              refine g_zret (b := true) C0 hlk hr d_La_acts_864 hL ?_
              exact ⟨rfl, Z, hR_5, hJZ.mono (by omega), ((gFr.rf.tr hf_3).tr hf_6)⟩
    · skip
      have hw15 : (X.1.2 15).2 0 < 2 ^ 31 := Nat.lt_trans (hX.2.2 0 (by omega)) (by decide)
      refine lv_aload_n hx hb d_La_acts_779 rfl (lv_at hl 6 rfl) ?_
      refine lv_iconst (v := nI 0) hx hb d_La_acts_780 (by decide +kernel) ?_
      refine lv_iconst (v := nI 1) hx hb d_La_acts_781 (by decide +kernel) ?_
      refine g_V C0 (g_val (v' := (nI ((X.1.2 15).2 0))) (k_Ga_ofNamesake l G x X (nI 0) (nI 1) hX) (sk_1 hI h0)) co_Ga_ofNamesake im_Ga_ofNamesake se_Ga_ofNamesake in_Ga gc_Ga_ofNamesake ml_La_51 ⟨Nat.le_of_ble_eq_true rfl, Nat.le_of_ble_eq_true rfl⟩ hK hP.1 rfl hP rfl hl.1 rfl (Nat.le_of_ble_eq_true rfl) d_La_acts_782 ⟨Nat.le_of_ble_eq_true rfl, Nat.le_of_ble_eq_true rfl⟩ (g_r rfl ?_)
      refine lv_istore (lv' := [(28, .int (nI ((X.1.2 15).2 0))), (27, .int (nI ((X.1.2 0).2 wh))), (26, .int (nI vv)), (25, .int (nI wh)), (4, .int (nI ((X.1.2 11).1))), (3, .int (nI li)), (2, .int (nI co)), (0, .ref x), (1, .int (nI cz))]) hx hb d_La_acts_785 hl (by decide) rfl (fun ls hl => ?_)
      refine lv_aload_n hx hb d_La_acts_787 rfl (lv_at hl 7 rfl) ?_
      refine lv_iconst (v := nI 0) hx hb d_La_acts_788 (by decide +kernel) ?_
      refine g_V C0 (g_valw (v' := (-5)) (X' := X) (k_Ga_apologise l G x X (nI 0) hX) (apo_z hJ h0 hz0)) co_Ga_apologise im_Ga_apologise se_Ga_apologise in_Ga gc_Ga_apologise ml_La_85 ⟨Nat.le_of_ble_eq_true rfl, Nat.le_of_ble_eq_true rfl⟩ hK hP.1 rfl hP rfl hl.1 rfl (Nat.le_of_ble_eq_true rfl) d_La_acts_789 ⟨Nat.le_of_ble_eq_true rfl, Nat.le_of_ble_eq_true rfl⟩ (g_wi (free := gRg x (x + 262)) (t_nil (free := gRg x (x + 262))) (fun _ h => h) (fun H_7 locs hL ⟨hR_8, hf_9⟩ => ?_))
      refine lv_istore (lv' := [(29, .int (-5)), (28, .int (nI ((X.1.2 15).2 0))), (27, .int (nI ((X.1.2 0).2 wh))), (26, .int (nI vv)), (25, .int (nI wh)), (4, .int (nI ((X.1.2 11).1))), (3, .int (nI li)), (2, .int (nI co)), (0, .ref x), (1, .int (nI cz))]) hx hb d_La_acts_792 hl (by decide) rfl (fun ls hl => ?_)
      refine lv_aload_n hx hb d_La_acts_794 rfl (lv_at hl 8 rfl) ?_
      refine lv_iload hx hb d_La_acts_795 (lv_at hl 4 rfl) ?_
      refine lv_iload hx hb d_La_acts_797 (lv_at hl 3 rfl) ?_
      obtain ⟨Z, hz, hJZ, hZv⟩ := set_s hJ (i := wh) (v := vv) (by omega) hv1 hv2
      have hOZ := hJZ.ok (by omega)
      refine g_V C0 (g_valw (v' := (nI ((X.1.2 0).2 wh))) (X' := Z) (k_Ga_set l G x X (nI wh) (nI vv) hX) hz) co_Ga_set im_Ga_set se_Ga_set in_Ga gc_Ga_set ml_La_88 ⟨Nat.le_of_ble_eq_true rfl, Nat.le_of_ble_eq_true rfl⟩ hK hR_8.1 rfl hR_8 rfl hl.1 rfl (Nat.le_of_ble_eq_true rfl) d_La_acts_799 ⟨Nat.le_of_ble_eq_true rfl, Nat.le_of_ble_eq_true rfl⟩ (g_wi (free := gRg x (x + 262)) hL (fun _ h => h) (fun H_10 locs hL ⟨hR_11, hf_12⟩ => ?_))
      refine lv_iload hx hb d_La_acts_802 (lv_at hl 2 rfl) ?_
      refine lv_icmp_ne (tgt := 863) hx hb d_La_acts_804 (by decide) (fun c_804 => ?_) (fun c_804 => ?_)
      · exact absurd rfl c_804
      · skip
        refine lv_aload_n hx hb d_La_acts_807 rfl (lv_at hl 8 rfl) ?_
        refine lv_bipush (v := nI 9) hx hb d_La_acts_808 (by decide +kernel) ?_
        refine lv_iload hx hb d_La_acts_810 (lv_at hl 4 rfl) ?_
        refine g_iadd C0 (z := 9 + wh) d_La_acts_812 rfl ?_
        refine g_V C0 (g_val (v' := (nI vv)) (k_Ga_count l G x Z (nI (9 + wh)) hOZ) (by rw [cnt_9 hJZ.1 (by omega), hZv])) co_Ga_count im_Ga_count se_Ga_count in_Ga gc_Ga_count ml_La_22 ⟨Nat.le_of_ble_eq_true rfl, Nat.le_of_ble_eq_true rfl⟩ hK hR_11.1 rfl hR_11 rfl hl.1 rfl (Nat.le_of_ble_eq_true rfl) d_La_acts_813 ⟨Nat.le_of_ble_eq_true rfl, Nat.le_of_ble_eq_true rfl⟩ (g_r rfl ?_)
        refine lv_iload hx hb d_La_acts_816 (lv_at hl 3 rfl) ?_
        refine lv_icmp_ne (tgt := 863) hx hb d_La_acts_818 (by decide) (fun c_818 => ?_) (fun c_818 => ?_)
        · exact absurd rfl c_818
        · skip
          refine lv_iload hx hb d_La_acts_821 (lv_at hl 1 rfl) ?_
          refine lv_if_ge (tgt := 835) hx hb d_La_acts_823 (by decide) (fun c_823 => ?_) (fun c_823 => ?_)
          · skip
            refine lv_iload hx hb d_La_acts_835 (lv_at hl 1 rfl) ?_
            refine lv_if_ne (tgt := 850) hx hb d_La_acts_837 (by decide) (fun c_837 => ?_) (fun c_837 => ?_)
            · exact absurd (by rw [hz0]; rfl) c_837
            · skip
              refine lv_iload hx hb d_La_acts_840 (lv_at hl 0 rfl) ?_
              refine lv_bipush (v := -5) hx hb d_La_acts_842 (by decide +kernel) ?_
              refine lv_icmp_ne (tgt := 863) hx hb d_La_acts_844 (by decide) (fun c_844 => ?_) (fun c_844 => ?_)
              · exact absurd rfl c_844
              · skip
                refine lv_goto (tgt := 859) hx hb d_La_acts_847 (by decide) ?_
                refine lv_iconst (v := nI 1) hx hb d_La_acts_859 (by decide +kernel) ?_
                refine lv_goto (tgt := 864) hx hb d_La_acts_860 (by decide) ?_
                refine g_zret (b := true) C0 hlk hr d_La_acts_864 hL ?_
                exact ⟨rfl, Z, hR_11, hJZ.mono (by omega), ((gFr.rf.tr hf_9).tr hf_12)⟩
          · exact absurd (nI_ge0 hw15) c_823
    · skip
      have hw15 : (X.1.2 15).2 0 < 2 ^ 31 := Nat.lt_trans (hX.2.2 0 (by omega)) (by decide)
      obtain ⟨Z1, ha1, hJZ1, hset1⟩ := apo_s hJ h0 hz0
      refine lv_aload_n hx hb d_La_acts_779 rfl (lv_at hl 6 rfl) ?_
      refine lv_iconst (v := nI 0) hx hb d_La_acts_780 (by decide +kernel) ?_
      refine lv_iconst (v := nI 1) hx hb d_La_acts_781 (by decide +kernel) ?_
      refine g_V C0 (g_val (v' := (nI ((X.1.2 15).2 0))) (k_Ga_ofNamesake l G x X (nI 0) (nI 1) hX) (sk_1 hI h0)) co_Ga_ofNamesake im_Ga_ofNamesake se_Ga_ofNamesake in_Ga gc_Ga_ofNamesake ml_La_51 ⟨Nat.le_of_ble_eq_true rfl, Nat.le_of_ble_eq_true rfl⟩ hK hP.1 rfl hP rfl hl.1 rfl (Nat.le_of_ble_eq_true rfl) d_La_acts_782 ⟨Nat.le_of_ble_eq_true rfl, Nat.le_of_ble_eq_true rfl⟩ (g_r rfl ?_)
      refine lv_istore (lv' := [(28, .int (nI ((X.1.2 15).2 0))), (27, .int (nI ((X.1.2 0).2 wh))), (26, .int (nI vv)), (25, .int (nI wh)), (4, .int (nI ((X.1.2 11).1))), (3, .int (nI li)), (2, .int (nI co)), (0, .ref x), (1, .int (nI cz))]) hx hb d_La_acts_785 hl (by decide) rfl (fun ls hl => ?_)
      refine lv_aload_n hx hb d_La_acts_787 rfl (lv_at hl 7 rfl) ?_
      refine lv_iconst (v := nI 0) hx hb d_La_acts_788 (by decide +kernel) ?_
      have hOZ1 := hJZ1.ok (by omega)
      refine g_V C0 (g_valw (v' := (nI ((X.1.2 15).2 0 - 1))) (X' := Z1) (k_Ga_apologise l G x X (nI 0) hX) ha1) co_Ga_apologise im_Ga_apologise se_Ga_apologise in_Ga gc_Ga_apologise ml_La_85 ⟨Nat.le_of_ble_eq_true rfl, Nat.le_of_ble_eq_true rfl⟩ hK hP.1 rfl hP rfl hl.1 rfl (Nat.le_of_ble_eq_true rfl) d_La_acts_789 ⟨Nat.le_of_ble_eq_true rfl, Nat.le_of_ble_eq_true rfl⟩ (g_wi (free := gRg x (x + 262)) (t_nil (free := gRg x (x + 262))) (fun _ h => h) (fun H_13 locs hL ⟨hR_14, hf_15⟩ => ?_))
      refine lv_istore (lv' := [(29, .int (nI ((X.1.2 15).2 0 - 1))), (28, .int (nI ((X.1.2 15).2 0))), (27, .int (nI ((X.1.2 0).2 wh))), (26, .int (nI vv)), (25, .int (nI wh)), (4, .int (nI ((X.1.2 11).1))), (3, .int (nI li)), (2, .int (nI co)), (0, .ref x), (1, .int (nI cz))]) hx hb d_La_acts_792 hl (by decide) rfl (fun ls hl => ?_)
      refine lv_aload_n hx hb d_La_acts_794 rfl (lv_at hl 8 rfl) ?_
      refine lv_iload hx hb d_La_acts_795 (lv_at hl 4 rfl) ?_
      refine lv_iload hx hb d_La_acts_797 (lv_at hl 3 rfl) ?_
      obtain ⟨Z, hz, hJZ, hZv⟩ := set_s hJZ1 (i := wh) (v := vv) (by omega) hv1 hv2
      have hOZ := hJZ.ok (by omega)
      refine g_V C0 (g_valw (v' := (nI ((Z1.1.2 0).2 wh))) (X' := Z) (k_Ga_set l G x Z1 (nI wh) (nI vv) hOZ1) hz) co_Ga_set im_Ga_set se_Ga_set in_Ga gc_Ga_set ml_La_88 ⟨Nat.le_of_ble_eq_true rfl, Nat.le_of_ble_eq_true rfl⟩ hK hR_14.1 rfl hR_14 rfl hl.1 rfl (Nat.le_of_ble_eq_true rfl) d_La_acts_799 ⟨Nat.le_of_ble_eq_true rfl, Nat.le_of_ble_eq_true rfl⟩ (g_wi (free := gRg x (x + 262)) hL (fun _ h => h) (fun H_16 locs hL ⟨hR_17, hf_18⟩ => ?_))
      refine lv_iload hx hb d_La_acts_802 (lv_at hl 2 rfl) ?_
      refine lv_icmp_ne (tgt := 863) hx hb d_La_acts_804 (by decide) (fun c_804 => ?_) (fun c_804 => ?_)
      · exact absurd (by rw [hset1]) c_804
      · skip
        refine lv_aload_n hx hb d_La_acts_807 rfl (lv_at hl 8 rfl) ?_
        refine lv_bipush (v := nI 9) hx hb d_La_acts_808 (by decide +kernel) ?_
        refine lv_iload hx hb d_La_acts_810 (lv_at hl 4 rfl) ?_
        refine g_iadd C0 (z := 9 + wh) d_La_acts_812 rfl ?_
        refine g_V C0 (g_val (v' := (nI vv)) (k_Ga_count l G x Z (nI (9 + wh)) hOZ) (by rw [cnt_9 hJZ.1 (by omega), hZv])) co_Ga_count im_Ga_count se_Ga_count in_Ga gc_Ga_count ml_La_22 ⟨Nat.le_of_ble_eq_true rfl, Nat.le_of_ble_eq_true rfl⟩ hK hR_17.1 rfl hR_17 rfl hl.1 rfl (Nat.le_of_ble_eq_true rfl) d_La_acts_813 ⟨Nat.le_of_ble_eq_true rfl, Nat.le_of_ble_eq_true rfl⟩ (g_r rfl ?_)
        refine lv_iload hx hb d_La_acts_816 (lv_at hl 3 rfl) ?_
        refine lv_icmp_ne (tgt := 863) hx hb d_La_acts_818 (by decide) (fun c_818 => ?_) (fun c_818 => ?_)
        · exact absurd rfl c_818
        · skip
          refine lv_iload hx hb d_La_acts_821 (lv_at hl 1 rfl) ?_
          refine lv_if_ge (tgt := 835) hx hb d_La_acts_823 (by decide) (fun c_823 => ?_) (fun c_823 => ?_)
          · skip
            refine lv_iload hx hb d_La_acts_835 (lv_at hl 1 rfl) ?_
            refine lv_if_ne (tgt := 850) hx hb d_La_acts_837 (by decide) (fun c_837 => ?_) (fun c_837 => ?_)
            · skip
              refine lv_iload hx hb d_La_acts_850 (lv_at hl 0 rfl) ?_
              refine lv_iload hx hb d_La_acts_852 (lv_at hl 1 rfl) ?_
              refine lv_iconst (v := nI 1) hx hb d_La_acts_854 (by decide +kernel) ?_
              refine g_isub C0 (z := ((X.1.2 15).2 0) - 1) d_La_acts_855 (by omega) ?_
              refine lv_icmp_ne (tgt := 863) hx hb d_La_acts_856 (by decide) (fun c_856 => ?_) (fun c_856 => ?_)
              · exact absurd rfl c_856
              · skip
                refine lv_iconst (v := nI 1) hx hb d_La_acts_859 (by decide +kernel) ?_
                refine lv_goto (tgt := 864) hx hb d_La_acts_860 (by decide) ?_
                refine g_zret (b := true) C0 hlk hr d_La_acts_864 hL ?_
                exact ⟨rfl, Z, hR_17, hJZ.mono (by omega), ((gFr.rf.tr hf_15).tr hf_18)⟩
            · exact absurd ((nI_eqi (b := 0) hw15 (by decide)).mp c_837) hz0
          · exact absurd (nI_ge0 hw15) c_823
  · skip
    refine lv_bipush (v := nI 6) hx hb d_La_acts_757 (by decide +kernel) ?_
    refine lv_goto (tgt := 764) hx hb d_La_acts_759 (by decide) ?_
    refine g_irem C0 (z := (cz / 2 ^ 8) % 6) d_La_acts_764 (by omega) (by omega) (by omega) rfl ?_
    refine g_iadd C0 (z := 1 + ((cz / 2 ^ 8) % 6)) d_La_acts_765 rfl ?_
    refine lv_istore (lv' := [(26, .int (nI (1 + ((cz / 2 ^ 8) % 6)))), (25, .int (nI wh)), (4, .int (nI ((X.1.2 11).1))), (3, .int (nI li)), (2, .int (nI co)), (0, .ref x), (1, .int (nI cz))]) hx hb d_La_acts_766 hl (by decide) rfl (fun ls hl => ?_)
    obtain ⟨vv, hvv⟩ : ∃ z, z = 1 + ((cz / 2 ^ 8) % 6) := ⟨_, rfl⟩
    rw [← hvv] at hl
    have hv1 : 1 ≤ vv := by omega
    have hv2 : vv ≤ if wh = 2 then 6 else 99 := by rw [if_pos c_754]; omega
    refine lv_aload_n hx hb d_La_acts_768 rfl (lv_at hl 5 rfl) ?_
    refine lv_bipush (v := nI 9) hx hb d_La_acts_769 (by decide +kernel) ?_
    refine lv_iload hx hb d_La_acts_771 (lv_at hl 1 rfl) ?_
    refine g_iadd C0 (z := 9 + wh) d_La_acts_773 rfl ?_
    refine g_V C0 (g_val (v' := (nI ((X.1.2 0).2 wh))) (k_Ga_count l G x X (nI (9 + wh)) hX) (cnt_9 hI (by omega))) co_Ga_count im_Ga_count se_Ga_count in_Ga gc_Ga_count ml_La_22 ⟨Nat.le_of_ble_eq_true rfl, Nat.le_of_ble_eq_true rfl⟩ hK hP.1 rfl hP rfl hl.1 rfl (Nat.le_of_ble_eq_true rfl) d_La_acts_774 ⟨Nat.le_of_ble_eq_true rfl, Nat.le_of_ble_eq_true rfl⟩ (g_r rfl ?_)
    refine lv_istore (lv' := [(27, .int (nI ((X.1.2 0).2 wh))), (26, .int (nI vv)), (25, .int (nI wh)), (4, .int (nI ((X.1.2 11).1))), (3, .int (nI li)), (2, .int (nI co)), (0, .ref x), (1, .int (nI cz))]) hx hb d_La_acts_777 hl (by decide) rfl (fun ls hl => ?_)
    rcases apo_or X with h0 | ⟨h0, hz0⟩ | ⟨h0, hz0⟩
    · skip
      refine lv_aload_n hx hb d_La_acts_779 rfl (lv_at hl 6 rfl) ?_
      refine lv_iconst (v := nI 0) hx hb d_La_acts_780 (by decide +kernel) ?_
      refine lv_iconst (v := nI 1) hx hb d_La_acts_781 (by decide +kernel) ?_
      refine g_V C0 (g_val (v' := (-1)) (k_Ga_ofNamesake l G x X (nI 0) (nI 1) hX) (sk_n (by omega) (by decide))) co_Ga_ofNamesake im_Ga_ofNamesake se_Ga_ofNamesake in_Ga gc_Ga_ofNamesake ml_La_51 ⟨Nat.le_of_ble_eq_true rfl, Nat.le_of_ble_eq_true rfl⟩ hK hP.1 rfl hP rfl hl.1 rfl (Nat.le_of_ble_eq_true rfl) d_La_acts_782 ⟨Nat.le_of_ble_eq_true rfl, Nat.le_of_ble_eq_true rfl⟩ (g_r rfl ?_)
      refine lv_istore (lv' := [(28, .int (-1)), (27, .int (nI ((X.1.2 0).2 wh))), (26, .int (nI vv)), (25, .int (nI wh)), (4, .int (nI ((X.1.2 11).1))), (3, .int (nI li)), (2, .int (nI co)), (0, .ref x), (1, .int (nI cz))]) hx hb d_La_acts_785 hl (by decide) rfl (fun ls hl => ?_)
      refine lv_aload_n hx hb d_La_acts_787 rfl (lv_at hl 7 rfl) ?_
      refine lv_iconst (v := nI 0) hx hb d_La_acts_788 (by decide +kernel) ?_
      refine g_V C0 (g_valw (v' := (-1)) (X' := X) (k_Ga_apologise l G x X (nI 0) hX) (apo_n hJ h0)) co_Ga_apologise im_Ga_apologise se_Ga_apologise in_Ga gc_Ga_apologise ml_La_85 ⟨Nat.le_of_ble_eq_true rfl, Nat.le_of_ble_eq_true rfl⟩ hK hP.1 rfl hP rfl hl.1 rfl (Nat.le_of_ble_eq_true rfl) d_La_acts_789 ⟨Nat.le_of_ble_eq_true rfl, Nat.le_of_ble_eq_true rfl⟩ (g_wi (free := gRg x (x + 262)) (t_nil (free := gRg x (x + 262))) (fun _ h => h) (fun H_19 locs hL ⟨hR_20, hf_21⟩ => ?_))
      refine lv_istore (lv' := [(29, .int (-1)), (28, .int (-1)), (27, .int (nI ((X.1.2 0).2 wh))), (26, .int (nI vv)), (25, .int (nI wh)), (4, .int (nI ((X.1.2 11).1))), (3, .int (nI li)), (2, .int (nI co)), (0, .ref x), (1, .int (nI cz))]) hx hb d_La_acts_792 hl (by decide) rfl (fun ls hl => ?_)
      refine lv_aload_n hx hb d_La_acts_794 rfl (lv_at hl 8 rfl) ?_
      refine lv_iload hx hb d_La_acts_795 (lv_at hl 4 rfl) ?_
      refine lv_iload hx hb d_La_acts_797 (lv_at hl 3 rfl) ?_
      obtain ⟨Z, hz, hJZ, hZv⟩ := set_s hJ (i := wh) (v := vv) (by omega) hv1 hv2
      have hOZ := hJZ.ok (by omega)
      refine g_V C0 (g_valw (v' := (nI ((X.1.2 0).2 wh))) (X' := Z) (k_Ga_set l G x X (nI wh) (nI vv) hX) hz) co_Ga_set im_Ga_set se_Ga_set in_Ga gc_Ga_set ml_La_88 ⟨Nat.le_of_ble_eq_true rfl, Nat.le_of_ble_eq_true rfl⟩ hK hR_20.1 rfl hR_20 rfl hl.1 rfl (Nat.le_of_ble_eq_true rfl) d_La_acts_799 ⟨Nat.le_of_ble_eq_true rfl, Nat.le_of_ble_eq_true rfl⟩ (g_wi (free := gRg x (x + 262)) hL (fun _ h => h) (fun H_22 locs hL ⟨hR_23, hf_24⟩ => ?_))
      refine lv_iload hx hb d_La_acts_802 (lv_at hl 2 rfl) ?_
      refine lv_icmp_ne (tgt := 863) hx hb d_La_acts_804 (by decide) (fun c_804 => ?_) (fun c_804 => ?_)
      · exact absurd rfl c_804
      · skip
        refine lv_aload_n hx hb d_La_acts_807 rfl (lv_at hl 8 rfl) ?_
        refine lv_bipush (v := nI 9) hx hb d_La_acts_808 (by decide +kernel) ?_
        refine lv_iload hx hb d_La_acts_810 (lv_at hl 4 rfl) ?_
        refine g_iadd C0 (z := 9 + wh) d_La_acts_812 rfl ?_
        refine g_V C0 (g_val (v' := (nI vv)) (k_Ga_count l G x Z (nI (9 + wh)) hOZ) (by rw [cnt_9 hJZ.1 (by omega), hZv])) co_Ga_count im_Ga_count se_Ga_count in_Ga gc_Ga_count ml_La_22 ⟨Nat.le_of_ble_eq_true rfl, Nat.le_of_ble_eq_true rfl⟩ hK hR_23.1 rfl hR_23 rfl hl.1 rfl (Nat.le_of_ble_eq_true rfl) d_La_acts_813 ⟨Nat.le_of_ble_eq_true rfl, Nat.le_of_ble_eq_true rfl⟩ (g_r rfl ?_)
        refine lv_iload hx hb d_La_acts_816 (lv_at hl 3 rfl) ?_
        refine lv_icmp_ne (tgt := 863) hx hb d_La_acts_818 (by decide) (fun c_818 => ?_) (fun c_818 => ?_)
        · exact absurd rfl c_818
        · skip
          refine lv_iload hx hb d_La_acts_821 (lv_at hl 1 rfl) ?_
          refine lv_if_ge (tgt := 835) hx hb d_La_acts_823 (by decide) (fun c_823 => ?_) (fun c_823 => ?_)
          · exact absurd c_823 (by decide)
          · skip
            refine lv_iload hx hb d_La_acts_826 (lv_at hl 0 rfl) ?_
            refine lv_iconst (v := -1) hx hb d_La_acts_828 (by decide +kernel) ?_
            refine lv_icmp_ne (tgt := 863) hx hb d_La_acts_829 (by decide) (fun c_829 => ?_) (fun c_829 => ?_)
            · exact absurd rfl c_829
            · skip
              refine lv_goto (tgt := 859) hx hb d_La_acts_832 (by decide) ?_
              refine lv_iconst (v := nI 1) hx hb d_La_acts_859 (by decide +kernel) ?_
              refine lv_goto (tgt := 864) hx hb d_La_acts_860 (by decide) ?_
              refine g_zret (b := true) C0 hlk hr d_La_acts_864 hL ?_
              exact ⟨rfl, Z, hR_23, hJZ.mono (by omega), ((gFr.rf.tr hf_21).tr hf_24)⟩
    · skip
      have hw15 : (X.1.2 15).2 0 < 2 ^ 31 := Nat.lt_trans (hX.2.2 0 (by omega)) (by decide)
      refine lv_aload_n hx hb d_La_acts_779 rfl (lv_at hl 6 rfl) ?_
      refine lv_iconst (v := nI 0) hx hb d_La_acts_780 (by decide +kernel) ?_
      refine lv_iconst (v := nI 1) hx hb d_La_acts_781 (by decide +kernel) ?_
      refine g_V C0 (g_val (v' := (nI ((X.1.2 15).2 0))) (k_Ga_ofNamesake l G x X (nI 0) (nI 1) hX) (sk_1 hI h0)) co_Ga_ofNamesake im_Ga_ofNamesake se_Ga_ofNamesake in_Ga gc_Ga_ofNamesake ml_La_51 ⟨Nat.le_of_ble_eq_true rfl, Nat.le_of_ble_eq_true rfl⟩ hK hP.1 rfl hP rfl hl.1 rfl (Nat.le_of_ble_eq_true rfl) d_La_acts_782 ⟨Nat.le_of_ble_eq_true rfl, Nat.le_of_ble_eq_true rfl⟩ (g_r rfl ?_)
      refine lv_istore (lv' := [(28, .int (nI ((X.1.2 15).2 0))), (27, .int (nI ((X.1.2 0).2 wh))), (26, .int (nI vv)), (25, .int (nI wh)), (4, .int (nI ((X.1.2 11).1))), (3, .int (nI li)), (2, .int (nI co)), (0, .ref x), (1, .int (nI cz))]) hx hb d_La_acts_785 hl (by decide) rfl (fun ls hl => ?_)
      refine lv_aload_n hx hb d_La_acts_787 rfl (lv_at hl 7 rfl) ?_
      refine lv_iconst (v := nI 0) hx hb d_La_acts_788 (by decide +kernel) ?_
      refine g_V C0 (g_valw (v' := (-5)) (X' := X) (k_Ga_apologise l G x X (nI 0) hX) (apo_z hJ h0 hz0)) co_Ga_apologise im_Ga_apologise se_Ga_apologise in_Ga gc_Ga_apologise ml_La_85 ⟨Nat.le_of_ble_eq_true rfl, Nat.le_of_ble_eq_true rfl⟩ hK hP.1 rfl hP rfl hl.1 rfl (Nat.le_of_ble_eq_true rfl) d_La_acts_789 ⟨Nat.le_of_ble_eq_true rfl, Nat.le_of_ble_eq_true rfl⟩ (g_wi (free := gRg x (x + 262)) (t_nil (free := gRg x (x + 262))) (fun _ h => h) (fun H_25 locs hL ⟨hR_26, hf_27⟩ => ?_))
      refine lv_istore (lv' := [(29, .int (-5)), (28, .int (nI ((X.1.2 15).2 0))), (27, .int (nI ((X.1.2 0).2 wh))), (26, .int (nI vv)), (25, .int (nI wh)), (4, .int (nI ((X.1.2 11).1))), (3, .int (nI li)), (2, .int (nI co)), (0, .ref x), (1, .int (nI cz))]) hx hb d_La_acts_792 hl (by decide) rfl (fun ls hl => ?_)
      refine lv_aload_n hx hb d_La_acts_794 rfl (lv_at hl 8 rfl) ?_
      refine lv_iload hx hb d_La_acts_795 (lv_at hl 4 rfl) ?_
      refine lv_iload hx hb d_La_acts_797 (lv_at hl 3 rfl) ?_
      obtain ⟨Z, hz, hJZ, hZv⟩ := set_s hJ (i := wh) (v := vv) (by omega) hv1 hv2
      have hOZ := hJZ.ok (by omega)
      refine g_V C0 (g_valw (v' := (nI ((X.1.2 0).2 wh))) (X' := Z) (k_Ga_set l G x X (nI wh) (nI vv) hX) hz) co_Ga_set im_Ga_set se_Ga_set in_Ga gc_Ga_set ml_La_88 ⟨Nat.le_of_ble_eq_true rfl, Nat.le_of_ble_eq_true rfl⟩ hK hR_26.1 rfl hR_26 rfl hl.1 rfl (Nat.le_of_ble_eq_true rfl) d_La_acts_799 ⟨Nat.le_of_ble_eq_true rfl, Nat.le_of_ble_eq_true rfl⟩ (g_wi (free := gRg x (x + 262)) hL (fun _ h => h) (fun H_28 locs hL ⟨hR_29, hf_30⟩ => ?_))
      refine lv_iload hx hb d_La_acts_802 (lv_at hl 2 rfl) ?_
      refine lv_icmp_ne (tgt := 863) hx hb d_La_acts_804 (by decide) (fun c_804 => ?_) (fun c_804 => ?_)
      · exact absurd rfl c_804
      · skip
        refine lv_aload_n hx hb d_La_acts_807 rfl (lv_at hl 8 rfl) ?_
        refine lv_bipush (v := nI 9) hx hb d_La_acts_808 (by decide +kernel) ?_
        refine lv_iload hx hb d_La_acts_810 (lv_at hl 4 rfl) ?_
        refine g_iadd C0 (z := 9 + wh) d_La_acts_812 rfl ?_
        refine g_V C0 (g_val (v' := (nI vv)) (k_Ga_count l G x Z (nI (9 + wh)) hOZ) (by rw [cnt_9 hJZ.1 (by omega), hZv])) co_Ga_count im_Ga_count se_Ga_count in_Ga gc_Ga_count ml_La_22 ⟨Nat.le_of_ble_eq_true rfl, Nat.le_of_ble_eq_true rfl⟩ hK hR_29.1 rfl hR_29 rfl hl.1 rfl (Nat.le_of_ble_eq_true rfl) d_La_acts_813 ⟨Nat.le_of_ble_eq_true rfl, Nat.le_of_ble_eq_true rfl⟩ (g_r rfl ?_)
        refine lv_iload hx hb d_La_acts_816 (lv_at hl 3 rfl) ?_
        refine lv_icmp_ne (tgt := 863) hx hb d_La_acts_818 (by decide) (fun c_818 => ?_) (fun c_818 => ?_)
        · exact absurd rfl c_818
        · skip
          refine lv_iload hx hb d_La_acts_821 (lv_at hl 1 rfl) ?_
          refine lv_if_ge (tgt := 835) hx hb d_La_acts_823 (by decide) (fun c_823 => ?_) (fun c_823 => ?_)
          · skip
            refine lv_iload hx hb d_La_acts_835 (lv_at hl 1 rfl) ?_
            refine lv_if_ne (tgt := 850) hx hb d_La_acts_837 (by decide) (fun c_837 => ?_) (fun c_837 => ?_)
            · exact absurd (by rw [hz0]; rfl) c_837
            · skip
              refine lv_iload hx hb d_La_acts_840 (lv_at hl 0 rfl) ?_
              refine lv_bipush (v := -5) hx hb d_La_acts_842 (by decide +kernel) ?_
              refine lv_icmp_ne (tgt := 863) hx hb d_La_acts_844 (by decide) (fun c_844 => ?_) (fun c_844 => ?_)
              · exact absurd rfl c_844
              · skip
                refine lv_goto (tgt := 859) hx hb d_La_acts_847 (by decide) ?_
                refine lv_iconst (v := nI 1) hx hb d_La_acts_859 (by decide +kernel) ?_
                refine lv_goto (tgt := 864) hx hb d_La_acts_860 (by decide) ?_
                refine g_zret (b := true) C0 hlk hr d_La_acts_864 hL ?_
                exact ⟨rfl, Z, hR_29, hJZ.mono (by omega), ((gFr.rf.tr hf_27).tr hf_30)⟩
          · exact absurd (nI_ge0 hw15) c_823
    · skip
      have hw15 : (X.1.2 15).2 0 < 2 ^ 31 := Nat.lt_trans (hX.2.2 0 (by omega)) (by decide)
      obtain ⟨Z1, ha1, hJZ1, hset1⟩ := apo_s hJ h0 hz0
      refine lv_aload_n hx hb d_La_acts_779 rfl (lv_at hl 6 rfl) ?_
      refine lv_iconst (v := nI 0) hx hb d_La_acts_780 (by decide +kernel) ?_
      refine lv_iconst (v := nI 1) hx hb d_La_acts_781 (by decide +kernel) ?_
      refine g_V C0 (g_val (v' := (nI ((X.1.2 15).2 0))) (k_Ga_ofNamesake l G x X (nI 0) (nI 1) hX) (sk_1 hI h0)) co_Ga_ofNamesake im_Ga_ofNamesake se_Ga_ofNamesake in_Ga gc_Ga_ofNamesake ml_La_51 ⟨Nat.le_of_ble_eq_true rfl, Nat.le_of_ble_eq_true rfl⟩ hK hP.1 rfl hP rfl hl.1 rfl (Nat.le_of_ble_eq_true rfl) d_La_acts_782 ⟨Nat.le_of_ble_eq_true rfl, Nat.le_of_ble_eq_true rfl⟩ (g_r rfl ?_)
      refine lv_istore (lv' := [(28, .int (nI ((X.1.2 15).2 0))), (27, .int (nI ((X.1.2 0).2 wh))), (26, .int (nI vv)), (25, .int (nI wh)), (4, .int (nI ((X.1.2 11).1))), (3, .int (nI li)), (2, .int (nI co)), (0, .ref x), (1, .int (nI cz))]) hx hb d_La_acts_785 hl (by decide) rfl (fun ls hl => ?_)
      refine lv_aload_n hx hb d_La_acts_787 rfl (lv_at hl 7 rfl) ?_
      refine lv_iconst (v := nI 0) hx hb d_La_acts_788 (by decide +kernel) ?_
      have hOZ1 := hJZ1.ok (by omega)
      refine g_V C0 (g_valw (v' := (nI ((X.1.2 15).2 0 - 1))) (X' := Z1) (k_Ga_apologise l G x X (nI 0) hX) ha1) co_Ga_apologise im_Ga_apologise se_Ga_apologise in_Ga gc_Ga_apologise ml_La_85 ⟨Nat.le_of_ble_eq_true rfl, Nat.le_of_ble_eq_true rfl⟩ hK hP.1 rfl hP rfl hl.1 rfl (Nat.le_of_ble_eq_true rfl) d_La_acts_789 ⟨Nat.le_of_ble_eq_true rfl, Nat.le_of_ble_eq_true rfl⟩ (g_wi (free := gRg x (x + 262)) (t_nil (free := gRg x (x + 262))) (fun _ h => h) (fun H_31 locs hL ⟨hR_32, hf_33⟩ => ?_))
      refine lv_istore (lv' := [(29, .int (nI ((X.1.2 15).2 0 - 1))), (28, .int (nI ((X.1.2 15).2 0))), (27, .int (nI ((X.1.2 0).2 wh))), (26, .int (nI vv)), (25, .int (nI wh)), (4, .int (nI ((X.1.2 11).1))), (3, .int (nI li)), (2, .int (nI co)), (0, .ref x), (1, .int (nI cz))]) hx hb d_La_acts_792 hl (by decide) rfl (fun ls hl => ?_)
      refine lv_aload_n hx hb d_La_acts_794 rfl (lv_at hl 8 rfl) ?_
      refine lv_iload hx hb d_La_acts_795 (lv_at hl 4 rfl) ?_
      refine lv_iload hx hb d_La_acts_797 (lv_at hl 3 rfl) ?_
      obtain ⟨Z, hz, hJZ, hZv⟩ := set_s hJZ1 (i := wh) (v := vv) (by omega) hv1 hv2
      have hOZ := hJZ.ok (by omega)
      refine g_V C0 (g_valw (v' := (nI ((Z1.1.2 0).2 wh))) (X' := Z) (k_Ga_set l G x Z1 (nI wh) (nI vv) hOZ1) hz) co_Ga_set im_Ga_set se_Ga_set in_Ga gc_Ga_set ml_La_88 ⟨Nat.le_of_ble_eq_true rfl, Nat.le_of_ble_eq_true rfl⟩ hK hR_32.1 rfl hR_32 rfl hl.1 rfl (Nat.le_of_ble_eq_true rfl) d_La_acts_799 ⟨Nat.le_of_ble_eq_true rfl, Nat.le_of_ble_eq_true rfl⟩ (g_wi (free := gRg x (x + 262)) hL (fun _ h => h) (fun H_34 locs hL ⟨hR_35, hf_36⟩ => ?_))
      refine lv_iload hx hb d_La_acts_802 (lv_at hl 2 rfl) ?_
      refine lv_icmp_ne (tgt := 863) hx hb d_La_acts_804 (by decide) (fun c_804 => ?_) (fun c_804 => ?_)
      · exact absurd (by rw [hset1]) c_804
      · skip
        refine lv_aload_n hx hb d_La_acts_807 rfl (lv_at hl 8 rfl) ?_
        refine lv_bipush (v := nI 9) hx hb d_La_acts_808 (by decide +kernel) ?_
        refine lv_iload hx hb d_La_acts_810 (lv_at hl 4 rfl) ?_
        refine g_iadd C0 (z := 9 + wh) d_La_acts_812 rfl ?_
        refine g_V C0 (g_val (v' := (nI vv)) (k_Ga_count l G x Z (nI (9 + wh)) hOZ) (by rw [cnt_9 hJZ.1 (by omega), hZv])) co_Ga_count im_Ga_count se_Ga_count in_Ga gc_Ga_count ml_La_22 ⟨Nat.le_of_ble_eq_true rfl, Nat.le_of_ble_eq_true rfl⟩ hK hR_35.1 rfl hR_35 rfl hl.1 rfl (Nat.le_of_ble_eq_true rfl) d_La_acts_813 ⟨Nat.le_of_ble_eq_true rfl, Nat.le_of_ble_eq_true rfl⟩ (g_r rfl ?_)
        refine lv_iload hx hb d_La_acts_816 (lv_at hl 3 rfl) ?_
        refine lv_icmp_ne (tgt := 863) hx hb d_La_acts_818 (by decide) (fun c_818 => ?_) (fun c_818 => ?_)
        · exact absurd rfl c_818
        · skip
          refine lv_iload hx hb d_La_acts_821 (lv_at hl 1 rfl) ?_
          refine lv_if_ge (tgt := 835) hx hb d_La_acts_823 (by decide) (fun c_823 => ?_) (fun c_823 => ?_)
          · skip
            refine lv_iload hx hb d_La_acts_835 (lv_at hl 1 rfl) ?_
            refine lv_if_ne (tgt := 850) hx hb d_La_acts_837 (by decide) (fun c_837 => ?_) (fun c_837 => ?_)
            · skip
              refine lv_iload hx hb d_La_acts_850 (lv_at hl 0 rfl) ?_
              refine lv_iload hx hb d_La_acts_852 (lv_at hl 1 rfl) ?_
              refine lv_iconst (v := nI 1) hx hb d_La_acts_854 (by decide +kernel) ?_
              refine g_isub C0 (z := ((X.1.2 15).2 0) - 1) d_La_acts_855 (by omega) ?_
              refine lv_icmp_ne (tgt := 863) hx hb d_La_acts_856 (by decide) (fun c_856 => ?_) (fun c_856 => ?_)
              · exact absurd rfl c_856
              · skip
                refine lv_iconst (v := nI 1) hx hb d_La_acts_859 (by decide +kernel) ?_
                refine lv_goto (tgt := 864) hx hb d_La_acts_860 (by decide) ?_
                refine g_zret (b := true) C0 hlk hr d_La_acts_864 hL ?_
                exact ⟨rfl, Z, hR_35, hJZ.mono (by omega), ((gFr.rf.tr hf_33).tr hf_36)⟩
            · exact absurd ((nI_eqi (b := 0) hw15 (by decide)).mp c_837) hz0
          · exact absurd (nI_ge0 hw15) c_823
