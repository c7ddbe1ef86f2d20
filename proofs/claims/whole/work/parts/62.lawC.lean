section
variable {p : Program} {e : Env} {s : State} {m : MethodId} {below : List Frame} {meth : Method} {c : Code} {Q : State → Prop} {b L x t : Nat} {xs : Nat → Int32} {X : XS} {M : MS} {H : Heap} {locs : List Loc}
set_option maxHeartbeats 4000000 in
set_option maxRecDepth 100000 in
theorem la_c20 (l : Launch) (G : gT) (C0 : CallFix p m c code 4 s #[.ref b] lw_g "GaleNamesLaw") (hK : gK G s) (hL : L ≤ 2048) (hX0 : va_X b L xs s s.heap) (hxs : x = s.heap.size) (hbl : b < s.heap.size) (h4 : 4 * t + 4 ≤ L) (hI : laI G s x t X M H locs) (kk : laK l G b x t p e s m below meth c Q) (ls : Array Slot) (hl : lv_has ls 4 [(3, .int (nI (4 * t))), (2, .ref (x + 262)), (1, .ref x), (0, .ref b)]) : W p l e room_1 s m #[.ref b] below meth c H locs (270 + 36 * t) (8085 + 342 * t) Q (F0 m 704 ls []) := by
  have hx := C0.1
  have hb := C0.2.1
  obtain ⟨S, sp, bf, sv, iz, rr, pd, ln, sts, td, ac⟩ := M
  obtain ⟨hXA, hMA, hsz, hS, hR⟩ := hI
  have ht6 : t ≤ 600 := by omega
  have hRB : RB t X.1 S := hR.1
  have hs : RS X.1 S := hRB.1
  have hP : RP X.2.1.1 pd ln := hR.2.1
  have hH : RH t X.2.2.1.1 X.2.2.1.2.2 bf sts := hR.2.2.1
  have hV : RV t X.2.2.2.1 X.2.2.2.2 iz sv := hR.2.2.2
  have hXO : XOk X := la_ok hR ht6
  have hM : mOk S := hRB.mOk (by omega)
  have h6 := hH.2.1
  have hln := hP.2.1
  have hpd := hP.2.2.2
  have hB := hRB.hB (by omega)
  have hch := hRB.hch
  have hiz : ∀ k, k < 2 → iz k < 2 := fun k hk => (hV k hk).1
  refine lv_aload_n hx hb d_La_law_704 rfl (lv_at hl 2 rfl) ?_
  refine lv_aload_n hx hb d_La_law_705 rfl (lv_at hl 3 rfl) ?_
  refine lv_iload_n hx hb d_La_law_706 rfl (lv_at hl 0 rfl) ?_
  refine lv_iconst (v := nI 1) hx hb d_La_law_707 (by decide +kernel) ?_
  refine g_iadd C0 (z := 4 * t + 1) d_La_law_708 rfl ?_
  refine la_sld C0 hX0 hxs hbl hS (by omega) hL d_La_law_709 ?_
  refine lv_aload_n hx hb d_La_law_710 rfl (lv_at hl 3 rfl) ?_
  refine lv_iload_n hx hb d_La_law_711 rfl (lv_at hl 0 rfl) ?_
  refine lv_iconst (v := nI 2) hx hb d_La_law_712 (by decide +kernel) ?_
  refine g_iadd C0 (z := 4 * t + 2) d_La_law_713 rfl ?_
  refine la_sld C0 hX0 hxs hbl hS (by omega) hL d_La_law_714 ?_
  refine g_V C0 (k_Ga_left l G x X (xs (4 * t + 1)) (xs (4 * t + 2)) hXO) co_Ga_left im_Ga_left se_Ga_left in_Ga gc_Ga_left ml_La_97 ⟨Nat.le_of_ble_eq_true rfl, Nat.le_of_ble_eq_true rfl⟩ hK hXA.1 rfl hXA rfl hl.1 rfl (Nat.le_of_ble_eq_true rfl) d_La_law_715 ⟨(by show 270 + 36 * t + 0 ≤ 600000; omega), (by show 8085 + 342 * t + 0 ≤ 7302250; omega)⟩ (g_r rfl ?_)
  have hS1 := hS
  refine lv_aload_n hx hb d_La_law_718 rfl (lv_at hl 1 rfl) ?_
  refine lv_aload_n hx hb d_La_law_719 rfl (lv_at hl 3 rfl) ?_
  refine lv_iload_n hx hb d_La_law_720 rfl (lv_at hl 0 rfl) ?_
  refine lv_iconst (v := nI 1) hx hb d_La_law_721 (by decide +kernel) ?_
  refine g_iadd C0 (z := 4 * t + 1) d_La_law_722 rfl ?_
  refine la_sld C0 hX0 hxs hbl hS1 (by omega) hL d_La_law_723 ?_
  refine lv_aload_n hx hb d_La_law_724 rfl (lv_at hl 3 rfl) ?_
  refine lv_iload_n hx hb d_La_law_725 rfl (lv_at hl 0 rfl) ?_
  refine lv_iconst (v := nI 2) hx hb d_La_law_726 (by decide +kernel) ?_
  refine g_iadd C0 (z := 4 * t + 2) d_La_law_727 rfl ?_
  refine la_sld C0 hX0 hxs hbl hS1 (by omega) hL d_La_law_728 ?_
  refine g_V C0 (k_Mo_left l G (x + 262) S sp bf sv iz rr pd ln sts td ac (xs (4 * t + 1)) (xs (4 * t + 2)) hM) co_Mo_left im_Mo_left se_Mo_left in_Mo gc_Mo_left ml_La_100 ⟨Nat.le_of_ble_eq_true rfl, Nat.le_of_ble_eq_true rfl⟩ hK hMA.1 rfl hMA rfl hl.1 rfl (Nat.le_of_ble_eq_true rfl) d_La_law_729 ⟨(by show 270 + 36 * t + 0 ≤ 600000; omega), (by show 8085 + 342 * t + 0 ≤ 7302250; omega)⟩ (g_r rfl ?_)
  refine lv_icmp_eq (tgt := 931) hx hb d_La_law_732 (by decide) (fun _ => ?_) (fun hne => ?_)
  · refine W.widen (k := 270 + 36 * (t + 1)) (n := 8085 + 342 * (t + 1)) (by omega) (by omega) ?_
    exact kk X (S, sp, bf, sv, iz, rr, pd, ln, sts, td, ac) H locs ⟨hXA, hMA, hsz, hS, hR.mono (Nat.le_succ t)⟩ ls hl
  · exact absurd (a_Left hs (xs (4 * t + 1)) (xs (4 * t + 2))) hne

set_option maxHeartbeats 4000000 in
set_option maxRecDepth 100000 in
theorem la_c21 (l : Launch) (G : gT) (C0 : CallFix p m c code 4 s #[.ref b] lw_g "GaleNamesLaw") (hK : gK G s) (hL : L ≤ 2048) (hX0 : va_X b L xs s s.heap) (hxs : x = s.heap.size) (hbl : b < s.heap.size) (h4 : 4 * t + 4 ≤ L) (hI : laI G s x t X M H locs) (kk : laK l G b x t p e s m below meth c Q) (ls : Array Slot) (hl : lv_has ls 4 [(3, .int (nI (4 * t))), (2, .ref (x + 262)), (1, .ref x), (0, .ref b)]) : W p l e room_1 s m #[.ref b] below meth c H locs (270 + 36 * t) (8085 + 342 * t) Q (F0 m 737 ls []) := by
  have hx := C0.1
  have hb := C0.2.1
  obtain ⟨S, sp, bf, sv, iz, rr, pd, ln, sts, td, ac⟩ := M
  obtain ⟨hXA, hMA, hsz, hS, hR⟩ := hI
  have ht6 : t ≤ 600 := by omega
  have hRB : RB t X.1 S := hR.1
  have hs : RS X.1 S := hRB.1
  have hP : RP X.2.1.1 pd ln := hR.2.1
  have hH : RH t X.2.2.1.1 X.2.2.1.2.2 bf sts := hR.2.2.1
  have hV : RV t X.2.2.2.1 X.2.2.2.2 iz sv := hR.2.2.2
  have hXO : XOk X := la_ok hR ht6
  have hM : mOk S := hRB.mOk (by omega)
  have h6 := hH.2.1
  have hln := hP.2.1
  have hpd := hP.2.2.2
  have hB := hRB.hB (by omega)
  have hch := hRB.hch
  have hiz : ∀ k, k < 2 → iz k < 2 := fun k hk => (hV k hk).1
  refine lv_aload_n hx hb d_La_law_737 rfl (lv_at hl 2 rfl) ?_
  refine lv_aload_n hx hb d_La_law_738 rfl (lv_at hl 3 rfl) ?_
  refine lv_iload_n hx hb d_La_law_739 rfl (lv_at hl 0 rfl) ?_
  refine lv_iconst (v := nI 1) hx hb d_La_law_740 (by decide +kernel) ?_
  refine g_iadd C0 (z := 4 * t + 1) d_La_law_741 rfl ?_
  refine la_sld C0 hX0 hxs hbl hS (by omega) hL d_La_law_742 ?_
  refine g_V C0 (k_Ga_ifRetired l G x X (xs (4 * t + 1)) hXO) co_Ga_ifRetired im_Ga_ifRetired se_Ga_ifRetired in_Ga gc_Ga_ifRetired ml_La_101 ⟨Nat.le_of_ble_eq_true rfl, Nat.le_of_ble_eq_true rfl⟩ hK hXA.1 rfl hXA rfl hl.1 rfl (Nat.le_of_ble_eq_true rfl) d_La_law_743 ⟨(by show 270 + 36 * t + 0 ≤ 600000; omega), (by show 8085 + 342 * t + 0 ≤ 7302250; omega)⟩ (g_r rfl ?_)
  have hS1 := hS
  refine lv_aload_n hx hb d_La_law_746 rfl (lv_at hl 1 rfl) ?_
  refine lv_aload_n hx hb d_La_law_747 rfl (lv_at hl 3 rfl) ?_
  refine lv_iload_n hx hb d_La_law_748 rfl (lv_at hl 0 rfl) ?_
  refine lv_iconst (v := nI 1) hx hb d_La_law_749 (by decide +kernel) ?_
  refine g_iadd C0 (z := 4 * t + 1) d_La_law_750 rfl ?_
  refine la_sld C0 hX0 hxs hbl hS1 (by omega) hL d_La_law_751 ?_
  refine g_V C0 (k_Mo_ifRetired l G (x + 262) S sp bf sv iz rr pd ln sts td ac (xs (4 * t + 1)) hM) co_Mo_ifRetired im_Mo_ifRetired se_Mo_ifRetired in_Mo gc_Mo_ifRetired ml_La_104 ⟨Nat.le_of_ble_eq_true rfl, Nat.le_of_ble_eq_true rfl⟩ hK hMA.1 rfl hMA rfl hl.1 rfl (Nat.le_of_ble_eq_true rfl) d_La_law_752 ⟨(by show 270 + 36 * t + 0 ≤ 600000; omega), (by show 8085 + 342 * t + 0 ≤ 7302250; omega)⟩ (g_r rfl ?_)
  refine lv_icmp_eq (tgt := 931) hx hb d_La_law_755 (by decide) (fun _ => ?_) (fun hne => ?_)
  · refine W.widen (k := 270 + 36 * (t + 1)) (n := 8085 + 342 * (t + 1)) (by omega) (by omega) ?_
    exact kk X (S, sp, bf, sv, iz, rr, pd, ln, sts, td, ac) H locs ⟨hXA, hMA, hsz, hS, hR.mono (Nat.le_succ t)⟩ ls hl
  · exact absurd (a_IfR hs (xs (4 * t + 1))) hne

set_option maxHeartbeats 4000000 in
set_option maxRecDepth 100000 in
theorem la_c22 (l : Launch) (G : gT) (C0 : CallFix p m c code 4 s #[.ref b] lw_g "GaleNamesLaw") (hK : gK G s) (hL : L ≤ 2048) (hX0 : va_X b L xs s s.heap) (hxs : x = s.heap.size) (hbl : b < s.heap.size) (h4 : 4 * t + 4 ≤ L) (hI : laI G s x t X M H locs) (kk : laK l G b x t p e s m below meth c Q) (ls : Array Slot) (hl : lv_has ls 4 [(3, .int (nI (4 * t))), (2, .ref (x + 262)), (1, .ref x), (0, .ref b)]) : W p l e room_1 s m #[.ref b] below meth c H locs (270 + 36 * t) (8085 + 342 * t) Q (F0 m 760 ls []) := by
  have hx := C0.1
  have hb := C0.2.1
  obtain ⟨S, sp, bf, sv, iz, rr, pd, ln, sts, td, ac⟩ := M
  obtain ⟨hXA, hMA, hsz, hS, hR⟩ := hI
  have ht6 : t ≤ 600 := by omega
  have hRB : RB t X.1 S := hR.1
  have hs : RS X.1 S := hRB.1
  have hP : RP X.2.1.1 pd ln := hR.2.1
  have hH : RH t X.2.2.1.1 X.2.2.1.2.2 bf sts := hR.2.2.1
  have hV : RV t X.2.2.2.1 X.2.2.2.2 iz sv := hR.2.2.2
  have hXO : XOk X := la_ok hR ht6
  have hM : mOk S := hRB.mOk (by omega)
  have h6 := hH.2.1
  have hln := hP.2.1
  have hpd := hP.2.2.2
  have hB := hRB.hB (by omega)
  have hch := hRB.hch
  have hiz : ∀ k, k < 2 → iz k < 2 := fun k hk => (hV k hk).1
  refine lv_aload_n hx hb d_La_law_760 rfl (lv_at hl 2 rfl) ?_
  refine lv_aload_n hx hb d_La_law_761 rfl (lv_at hl 3 rfl) ?_
  refine lv_iload_n hx hb d_La_law_762 rfl (lv_at hl 0 rfl) ?_
  refine lv_iconst (v := nI 1) hx hb d_La_law_763 (by decide +kernel) ?_
  refine g_iadd C0 (z := 4 * t + 1) d_La_law_764 rfl ?_
  refine la_sld C0 hX0 hxs hbl hS (by omega) hL d_La_law_765 ?_
  refine lv_aload_n hx hb d_La_law_766 rfl (lv_at hl 3 rfl) ?_
  refine lv_iload_n hx hb d_La_law_767 rfl (lv_at hl 0 rfl) ?_
  refine lv_iconst (v := nI 2) hx hb d_La_law_768 (by decide +kernel) ?_
  refine g_iadd C0 (z := 4 * t + 2) d_La_law_769 rfl ?_
  refine la_sld C0 hX0 hxs hbl hS (by omega) hL d_La_law_770 ?_
  refine g_V C0 (k_Ga_same l G x X (xs (4 * t + 1)) (xs (4 * t + 2)) hXO) co_Ga_same im_Ga_same se_Ga_same in_Ga gc_Ga_same ml_La_105 ⟨Nat.le_of_ble_eq_true rfl, Nat.le_of_ble_eq_true rfl⟩ hK hXA.1 rfl hXA rfl hl.1 rfl (Nat.le_of_ble_eq_true rfl) d_La_law_771 ⟨(by show 270 + 36 * t + 0 ≤ 600000; omega), (by show 8085 + 342 * t + 0 ≤ 7302250; omega)⟩ (g_r rfl ?_)
  have hS1 := hS
  refine lv_aload_n hx hb d_La_law_774 rfl (lv_at hl 1 rfl) ?_
  refine lv_aload_n hx hb d_La_law_775 rfl (lv_at hl 3 rfl) ?_
  refine lv_iload_n hx hb d_La_law_776 rfl (lv_at hl 0 rfl) ?_
  refine lv_iconst (v := nI 1) hx hb d_La_law_777 (by decide +kernel) ?_
  refine g_iadd C0 (z := 4 * t + 1) d_La_law_778 rfl ?_
  refine la_sld C0 hX0 hxs hbl hS1 (by omega) hL d_La_law_779 ?_
  refine lv_aload_n hx hb d_La_law_780 rfl (lv_at hl 3 rfl) ?_
  refine lv_iload_n hx hb d_La_law_781 rfl (lv_at hl 0 rfl) ?_
  refine lv_iconst (v := nI 2) hx hb d_La_law_782 (by decide +kernel) ?_
  refine g_iadd C0 (z := 4 * t + 2) d_La_law_783 rfl ?_
  refine la_sld C0 hX0 hxs hbl hS1 (by omega) hL d_La_law_784 ?_
  refine g_V C0 (k_Mo_same l G (x + 262) S sp bf sv iz rr pd ln sts td ac (xs (4 * t + 1)) (xs (4 * t + 2)) hM) co_Mo_same im_Mo_same se_Mo_same in_Mo gc_Mo_same ml_La_108 ⟨Nat.le_of_ble_eq_true rfl, Nat.le_of_ble_eq_true rfl⟩ hK hMA.1 rfl hMA rfl hl.1 rfl (Nat.le_of_ble_eq_true rfl) d_La_law_785 ⟨(by show 270 + 36 * t + 0 ≤ 600000; omega), (by show 8085 + 342 * t + 0 ≤ 7302250; omega)⟩ (g_r rfl ?_)
  refine lv_icmp_eq (tgt := 931) hx hb d_La_law_788 (by decide) (fun _ => ?_) (fun hne => ?_)
  · refine W.widen (k := 270 + 36 * (t + 1)) (n := 8085 + 342 * (t + 1)) (by omega) (by omega) ?_
    exact kk X (S, sp, bf, sv, iz, rr, pd, ln, sts, td, ac) H locs ⟨hXA, hMA, hsz, hS, hR.mono (Nat.le_succ t)⟩ ls hl
  · exact absurd (a_Same hs (xs (4 * t + 1)) (xs (4 * t + 2))) hne

set_option maxHeartbeats 4000000 in
set_option maxRecDepth 100000 in
theorem la_c23 (l : Launch) (G : gT) (C0 : CallFix p m c code 4 s #[.ref b] lw_g "GaleNamesLaw") (hK : gK G s) (hL : L ≤ 2048) (hX0 : va_X b L xs s s.heap) (hxs : x = s.heap.size) (hbl : b < s.heap.size) (h4 : 4 * t + 4 ≤ L) (hI : laI G s x t X M H locs) (kk : laK l G b x t p e s m below meth c Q) (ls : Array Slot) (hl : lv_has ls 4 [(3, .int (nI (4 * t))), (2, .ref (x + 262)), (1, .ref x), (0, .ref b)]) : W p l e room_1 s m #[.ref b] below meth c H locs (270 + 36 * t) (8085 + 342 * t) Q (F0 m 793 ls []) := by
  have hx := C0.1
  have hb := C0.2.1
  obtain ⟨S, sp, bf, sv, iz, rr, pd, ln, sts, td, ac⟩ := M
  obtain ⟨hXA, hMA, hsz, hS, hR⟩ := hI
  have ht6 : t ≤ 600 := by omega
  have hRB : RB t X.1 S := hR.1
  have hs : RS X.1 S := hRB.1
  have hP : RP X.2.1.1 pd ln := hR.2.1
  have hH : RH t X.2.2.1.1 X.2.2.1.2.2 bf sts := hR.2.2.1
  have hV : RV t X.2.2.2.1 X.2.2.2.2 iz sv := hR.2.2.2
  have hXO : XOk X := la_ok hR ht6
  have hM : mOk S := hRB.mOk (by omega)
  have h6 := hH.2.1
  have hln := hP.2.1
  have hpd := hP.2.2.2
  have hB := hRB.hB (by omega)
  have hch := hRB.hch
  have hiz : ∀ k, k < 2 → iz k < 2 := fun k hk => (hV k hk).1
  obtain ⟨w, hw, hwE⟩ := lB_sur ((xs (4 * t + 1)).toInt64 <<< ((nI 32).toInt64 &&& 63) ||| ((xs (4 * t + 2)).toInt64 &&& 4294967295))
  refine lv_aload_n hx hb d_La_law_793 rfl (lv_at hl 2 rfl) ?_
  refine lv_aload_n hx hb d_La_law_794 rfl (lv_at hl 3 rfl) ?_
  refine lv_iload_n hx hb d_La_law_795 rfl (lv_at hl 0 rfl) ?_
  refine lv_iconst (v := nI 1) hx hb d_La_law_796 (by decide +kernel) ?_
  refine g_iadd C0 (z := 4 * t + 1) d_La_law_797 rfl ?_
  refine la_sld C0 hX0 hxs hbl hS (by omega) hL d_La_law_798 ?_
  refine lv_i2l hx hb d_La_law_799 rfl ?_
  refine lv_bipush (v := nI 32) hx hb d_La_law_800 (by decide +kernel) ?_
  refine lv_lshl hx hb d_La_law_802 rfl ?_
  refine lv_aload_n hx hb d_La_law_803 rfl (lv_at hl 3 rfl) ?_
  refine lv_iload_n hx hb d_La_law_804 rfl (lv_at hl 0 rfl) ?_
  refine lv_iconst (v := nI 2) hx hb d_La_law_805 (by decide +kernel) ?_
  refine g_iadd C0 (z := 4 * t + 2) d_La_law_806 rfl ?_
  refine la_sld C0 hX0 hxs hbl hS (by omega) hL d_La_law_807 ?_
  refine lv_i2l hx hb d_La_law_808 rfl ?_
  refine g_ldc2 (v := 4294967295) C0 kl_La_109 d_La_law_809 ?_
  refine lv_land hx hb d_La_law_812 ?_
  refine lv_lor hx hb d_La_law_813 ?_
  rw [hwE]
  refine g_V C0 (k_Ga_put l G x X w hw hXO) co_Ga_put im_Ga_put se_Ga_put in_Ga gc_Ga_put ml_La_111 ⟨Nat.le_of_ble_eq_true rfl, Nat.le_of_ble_eq_true rfl⟩ hK hXA.1 rfl hXA rfl hl.1 rfl (Nat.le_of_ble_eq_true rfl) d_La_law_814 ⟨(by show 270 + 36 * t + 0 ≤ 600000; omega), (by show 8085 + 342 * t + 0 ≤ 7302250; omega)⟩ (g_wi (free := fun q => x ≤ q) hS.2.2 (fun q h => h.1) (fun H1 locs1 hL1 ⟨hX1, hf1⟩ => ?_))
  have hS1 : va_S (fun q => x ≤ q) s.heap H1 locs1 := la_S hxs hS hf1 (Nat.le_refl _) hL1
  have hMA1 := hMA.fr hf1 (Or.inr (Nat.le_refl _))
  refine lv_aload_n hx hb d_La_law_817 rfl (lv_at hl 1 rfl) ?_
  refine lv_aload_n hx hb d_La_law_818 rfl (lv_at hl 3 rfl) ?_
  refine lv_iload_n hx hb d_La_law_819 rfl (lv_at hl 0 rfl) ?_
  refine lv_iconst (v := nI 1) hx hb d_La_law_820 (by decide +kernel) ?_
  refine g_iadd C0 (z := 4 * t + 1) d_La_law_821 rfl ?_
  refine la_sld C0 hX0 hxs hbl hS1 (by omega) hL d_La_law_822 ?_
  refine lv_i2l hx hb d_La_law_823 rfl ?_
  refine lv_bipush (v := nI 32) hx hb d_La_law_824 (by decide +kernel) ?_
  refine lv_lshl hx hb d_La_law_826 rfl ?_
  refine lv_aload_n hx hb d_La_law_827 rfl (lv_at hl 3 rfl) ?_
  refine lv_iload_n hx hb d_La_law_828 rfl (lv_at hl 0 rfl) ?_
  refine lv_iconst (v := nI 2) hx hb d_La_law_829 (by decide +kernel) ?_
  refine g_iadd C0 (z := 4 * t + 2) d_La_law_830 rfl ?_
  refine la_sld C0 hX0 hxs hbl hS1 (by omega) hL d_La_law_831 ?_
  refine lv_i2l hx hb d_La_law_832 rfl ?_
  refine g_ldc2 (v := 4294967295) C0 kl_La_109 d_La_law_833 ?_
  refine lv_land hx hb d_La_law_836 ?_
  refine lv_lor hx hb d_La_law_837 ?_
  rw [hwE]
  refine g_V C0 (k_Mo_put l G (x + 262) S sp bf sv iz rr pd ln sts td ac w hw hln) co_Mo_put im_Mo_put se_Mo_put in_Mo gc_Mo_put ml_La_115 ⟨Nat.le_of_ble_eq_true rfl, Nat.le_of_ble_eq_true rfl⟩ hK hMA1.1 rfl hMA1 rfl hl.1 rfl (Nat.le_of_ble_eq_true rfl) d_La_law_838 ⟨(by show 270 + 36 * t + 0 ≤ 600000; omega), (by show 8085 + 342 * t + 0 ≤ 7302250; omega)⟩ (g_wi (free := fun q => x ≤ q) hL1 (fun q h => (by have h2 := h.1; show x ≤ q; omega)) (fun H2 locs2 hL2 ⟨hM2, hf2⟩ => ?_))
  refine lv_icmp_eq (tgt := 931) hx hb d_La_law_841 (by decide) (fun _ => ?_) (fun hne => ?_)
  · refine W.widen (k := 270 + 36 * (t + 1)) (n := 8085 + 342 * (t + 1)) (by omega) (by omega) ?_
    have hRA := tz_put hR hw 
    exact kk _ _ H2 locs2 ⟨hX1.fr2 hf2, hM2, (by rw [hf2.1, hf1.1]; exact hsz), la_S hxs hS1 hf2 (by omega) hL2, hRA.2⟩ ls hl
  · exact absurd (tz_put hR hw ).1 hne

set_option maxHeartbeats 4000000 in
set_option maxRecDepth 100000 in
theorem la_c24 (l : Launch) (G : gT) (C0 : CallFix p m c code 4 s #[.ref b] lw_g "GaleNamesLaw") (hK : gK G s) (hL : L ≤ 2048) (hX0 : va_X b L xs s s.heap) (hxs : x = s.heap.size) (hbl : b < s.heap.size) (h4 : 4 * t + 4 ≤ L) (hI : laI G s x t X M H locs) (kk : laK l G b x t p e s m below meth c Q) (ls : Array Slot) (hl : lv_has ls 4 [(3, .int (nI (4 * t))), (2, .ref (x + 262)), (1, .ref x), (0, .ref b)]) : W p l e room_1 s m #[.ref b] below meth c H locs (270 + 36 * t) (8085 + 342 * t) Q (F0 m 846 ls []) := by
  have hx := C0.1
  have hb := C0.2.1
  obtain ⟨S, sp, bf, sv, iz, rr, pd, ln, sts, td, ac⟩ := M
  obtain ⟨hXA, hMA, hsz, hS, hR⟩ := hI
  have ht6 : t ≤ 600 := by omega
  have hRB : RB t X.1 S := hR.1
  have hs : RS X.1 S := hRB.1
  have hP : RP X.2.1.1 pd ln := hR.2.1
  have hH : RH t X.2.2.1.1 X.2.2.1.2.2 bf sts := hR.2.2.1
  have hV : RV t X.2.2.2.1 X.2.2.2.2 iz sv := hR.2.2.2
  have hXO : XOk X := la_ok hR ht6
  have hM : mOk S := hRB.mOk (by omega)
  have h6 := hH.2.1
  have hln := hP.2.1
  have hpd := hP.2.2.2
  have hB := hRB.hB (by omega)
  have hch := hRB.hch
  have hiz : ∀ k, k < 2 → iz k < 2 := fun k hk => (hV k hk).1
  refine lv_aload_n hx hb d_La_law_846 rfl (lv_at hl 2 rfl) ?_
  refine g_V C0 (k_Ga_wipe l G x X  hXO) co_Ga_wipe im_Ga_wipe se_Ga_wipe in_Ga gc_Ga_wipe ml_La_116 ⟨Nat.le_of_ble_eq_true rfl, Nat.le_of_ble_eq_true rfl⟩ hK hXA.1 rfl hXA rfl hl.1 rfl (Nat.le_of_ble_eq_true rfl) d_La_law_847 ⟨(by show 270 + 36 * t + 0 ≤ 600000; omega), (by show 8085 + 342 * t + 0 ≤ 7302250; omega)⟩ (g_wi (free := fun q => x ≤ q) hS.2.2 (fun q h => h.1) (fun H1 locs1 hL1 ⟨hX1, hf1⟩ => ?_))
  have hS1 : va_S (fun q => x ≤ q) s.heap H1 locs1 := la_S hxs hS hf1 (Nat.le_refl _) hL1
  have hMA1 := hMA.fr hf1 (Or.inr (Nat.le_refl _))
  refine lv_aload_n hx hb d_La_law_850 rfl (lv_at hl 1 rfl) ?_
  refine g_V C0 (k_Mo_wipe l G (x + 262) S sp bf sv iz rr pd ln sts td ac  ) co_Mo_wipe im_Mo_wipe se_Mo_wipe in_Mo gc_Mo_wipe ml_La_119 ⟨Nat.le_of_ble_eq_true rfl, Nat.le_of_ble_eq_true rfl⟩ hK hMA1.1 rfl hMA1 rfl hl.1 rfl (Nat.le_of_ble_eq_true rfl) d_La_law_851 ⟨(by show 270 + 36 * t + 0 ≤ 600000; omega), (by show 8085 + 342 * t + 0 ≤ 7302250; omega)⟩ (g_wi (free := fun q => x ≤ q) hL1 (fun q h => (by have h2 := h.1; show x ≤ q; omega)) (fun H2 locs2 hL2 ⟨hM2, hf2⟩ => ?_))
  refine lv_icmp_eq (tgt := 931) hx hb d_La_law_854 (by decide) (fun _ => ?_) (fun hne => ?_)
  · refine W.widen (k := 270 + 36 * (t + 1)) (n := 8085 + 342 * (t + 1)) (by omega) (by omega) ?_
    have hRA := tz_wipe hR 
    exact kk _ _ H2 locs2 ⟨hX1.fr2 hf2, hM2, (by rw [hf2.1, hf1.1]; exact hsz), la_S hxs hS1 hf2 (by omega) hL2, hRA.2⟩ ls hl
  · exact absurd (tz_wipe hR ).1 hne

set_option maxHeartbeats 4000000 in
set_option maxRecDepth 100000 in
theorem la_c25 (l : Launch) (G : gT) (C0 : CallFix p m c code 4 s #[.ref b] lw_g "GaleNamesLaw") (hK : gK G s) (hL : L ≤ 2048) (hX0 : va_X b L xs s s.heap) (hxs : x = s.heap.size) (hbl : b < s.heap.size) (h4 : 4 * t + 4 ≤ L) (hI : laI G s x t X M H locs) (kk : laK l G b x t p e s m below meth c Q) (ls : Array Slot) (hl : lv_has ls 4 [(3, .int (nI (4 * t))), (2, .ref (x + 262)), (1, .ref x), (0, .ref b)]) : W p l e room_1 s m #[.ref b] below meth c H locs (270 + 36 * t) (8085 + 342 * t) Q (F0 m 859 ls []) := by
  have hx := C0.1
  have hb := C0.2.1
  obtain ⟨S, sp, bf, sv, iz, rr, pd, ln, sts, td, ac⟩ := M
  obtain ⟨hXA, hMA, hsz, hS, hR⟩ := hI
  have ht6 : t ≤ 600 := by omega
  have hRB : RB t X.1 S := hR.1
  have hs : RS X.1 S := hRB.1
  have hP : RP X.2.1.1 pd ln := hR.2.1
  have hH : RH t X.2.2.1.1 X.2.2.1.2.2 bf sts := hR.2.2.1
  have hV : RV t X.2.2.2.1 X.2.2.2.2 iz sv := hR.2.2.2
  have hXO : XOk X := la_ok hR ht6
  have hM : mOk S := hRB.mOk (by omega)
  have h6 := hH.2.1
  have hln := hP.2.1
  have hpd := hP.2.2.2
  have hB := hRB.hB (by omega)
  have hch := hRB.hch
  have hiz : ∀ k, k < 2 → iz k < 2 := fun k hk => (hV k hk).1
  refine lv_aload_n hx hb d_La_law_859 rfl (lv_at hl 2 rfl) ?_
  refine g_V C0 (k_Ga_fault l G x X  hXO) co_Ga_fault im_Ga_fault se_Ga_fault in_Ga gc_Ga_fault ml_La_120 ⟨Nat.le_of_ble_eq_true rfl, Nat.le_of_ble_eq_true rfl⟩ hK hXA.1 rfl hXA rfl hl.1 rfl (Nat.le_of_ble_eq_true rfl) d_La_law_860 ⟨(by show 270 + 36 * t + 0 ≤ 600000; omega), (by show 8085 + 342 * t + 0 ≤ 7302250; omega)⟩ (g_wi (free := fun q => x ≤ q) hS.2.2 (fun q h => h.1) (fun H1 locs1 hL1 ⟨hX1, hf1⟩ => ?_))
  have hS1 : va_S (fun q => x ≤ q) s.heap H1 locs1 := la_S hxs hS hf1 (Nat.le_refl _) hL1
  have hMA1 := hMA.fr hf1 (Or.inr (Nat.le_refl _))
  refine lv_aload_n hx hb d_La_law_863 rfl (lv_at hl 1 rfl) ?_
  refine g_V C0 (k_Mo_fault l G (x + 262) S sp bf sv iz rr pd ln sts td ac  hln hpd) co_Mo_fault im_Mo_fault se_Mo_fault in_Mo gc_Mo_fault ml_La_123 ⟨Nat.le_of_ble_eq_true rfl, Nat.le_of_ble_eq_true rfl⟩ hK hMA1.1 rfl hMA1 rfl hl.1 rfl (Nat.le_of_ble_eq_true rfl) d_La_law_864 ⟨(by show 270 + 36 * t + 0 ≤ 600000; omega), (by show 8085 + 342 * t + 0 ≤ 7302250; omega)⟩ (g_wi (free := fun q => x ≤ q) hL1 (fun q h => (by have h2 := h.1; show x ≤ q; omega)) (fun H2 locs2 hL2 ⟨hM2, hf2⟩ => ?_))
  refine lv_icmp_eq (tgt := 931) hx hb d_La_law_867 (by decide) (fun _ => ?_) (fun hne => ?_)
  · refine W.widen (k := 270 + 36 * (t + 1)) (n := 8085 + 342 * (t + 1)) (by omega) (by omega) ?_
    have hRA := tz_fault hR 
    exact kk _ _ H2 locs2 ⟨hX1.fr2 hf2, hM2, (by rw [hf2.1, hf1.1]; exact hsz), la_S hxs hS1 hf2 (by omega) hL2, hRA.2⟩ ls hl
  · exact absurd (tz_fault hR ).1 hne

set_option maxHeartbeats 4000000 in
set_option maxRecDepth 100000 in
theorem la_c26 (l : Launch) (G : gT) (C0 : CallFix p m c code 4 s #[.ref b] lw_g "GaleNamesLaw") (hK : gK G s) (hL : L ≤ 2048) (hX0 : va_X b L xs s s.heap) (hxs : x = s.heap.size) (hbl : b < s.heap.size) (h4 : 4 * t + 4 ≤ L) (hI : laI G s x t X M H locs) (kk : laK l G b x t p e s m below meth c Q) (ls : Array Slot) (hl : lv_has ls 4 [(3, .int (nI (4 * t))), (2, .ref (x + 262)), (1, .ref x), (0, .ref b)]) : W p l e room_1 s m #[.ref b] below meth c H locs (270 + 36 * t) (8085 + 342 * t) Q (F0 m 872 ls []) := by
  have hx := C0.1
  have hb := C0.2.1
  obtain ⟨S, sp, bf, sv, iz, rr, pd, ln, sts, td, ac⟩ := M
  obtain ⟨hXA, hMA, hsz, hS, hR⟩ := hI
  have ht6 : t ≤ 600 := by omega
  have hRB : RB t X.1 S := hR.1
  have hs : RS X.1 S := hRB.1
  have hP : RP X.2.1.1 pd ln := hR.2.1
  have hH : RH t X.2.2.1.1 X.2.2.1.2.2 bf sts := hR.2.2.1
  have hV : RV t X.2.2.2.1 X.2.2.2.2 iz sv := hR.2.2.2
  have hXO : XOk X := la_ok hR ht6
  have hM : mOk S := hRB.mOk (by omega)
  have h6 := hH.2.1
  have hln := hP.2.1
  have hpd := hP.2.2.2
  have hB := hRB.hB (by omega)
  have hch := hRB.hch
  have hiz : ∀ k, k < 2 → iz k < 2 := fun k hk => (hV k hk).1
  refine lv_aload_n hx hb d_La_law_872 rfl (lv_at hl 2 rfl) ?_
  refine g_V C0 (k_Ga_undo l G x X  hXO) co_Ga_undo im_Ga_undo se_Ga_undo in_Ga gc_Ga_undo ml_La_124 ⟨Nat.le_of_ble_eq_true rfl, Nat.le_of_ble_eq_true rfl⟩ hK hXA.1 rfl hXA rfl hl.1 rfl (Nat.le_of_ble_eq_true rfl) d_La_law_873 ⟨(by show 270 + 36 * t + 0 ≤ 600000; omega), (by show 8085 + 342 * t + 0 ≤ 7302250; omega)⟩ (g_wi (free := fun q => x ≤ q) hS.2.2 (fun q h => h.1) (fun H1 locs1 hL1 ⟨hX1, hf1⟩ => ?_))
  have hS1 : va_S (fun q => x ≤ q) s.heap H1 locs1 := la_S hxs hS hf1 (Nat.le_refl _) hL1
  have hMA1 := hMA.fr hf1 (Or.inr (Nat.le_refl _))
  refine lv_aload_n hx hb d_La_law_876 rfl (lv_at hl 1 rfl) ?_
  refine g_V C0 (k_Mo_undo l G (x + 262) S sp bf sv iz rr pd ln sts td ac  h6) co_Mo_undo im_Mo_undo se_Mo_undo in_Mo gc_Mo_undo ml_La_127 ⟨Nat.le_of_ble_eq_true rfl, Nat.le_of_ble_eq_true rfl⟩ hK hMA1.1 rfl hMA1 rfl hl.1 rfl (Nat.le_of_ble_eq_true rfl) d_La_law_877 ⟨(by show 270 + 36 * t + 0 ≤ 600000; omega), (by show 8085 + 342 * t + 0 ≤ 7302250; omega)⟩ (g_wi (free := fun q => x ≤ q) hL1 (fun q h => (by have h2 := h.1; show x ≤ q; omega)) (fun H2 locs2 hL2 ⟨hM2, hf2⟩ => ?_))
  refine lv_icmp_eq (tgt := 931) hx hb d_La_law_880 (by decide) (fun _ => ?_) (fun hne => ?_)
  · refine W.widen (k := 270 + 36 * (t + 1)) (n := 8085 + 342 * (t + 1)) (by omega) (by omega) ?_
    have hRA := tz_undo hR 
    exact kk _ _ H2 locs2 ⟨hX1.fr2 hf2, hM2, (by rw [hf2.1, hf1.1]; exact hsz), la_S hxs hS1 hf2 (by omega) hL2, hRA.2⟩ ls hl
  · exact absurd (tz_undo hR ).1 hne

set_option maxHeartbeats 4000000 in
set_option maxRecDepth 100000 in
theorem la_c27 (l : Launch) (G : gT) (C0 : CallFix p m c code 4 s #[.ref b] lw_g "GaleNamesLaw") (hK : gK G s) (hL : L ≤ 2048) (hX0 : va_X b L xs s s.heap) (hxs : x = s.heap.size) (hbl : b < s.heap.size) (h4 : 4 * t + 4 ≤ L) (hI : laI G s x t X M H locs) (kk : laK l G b x t p e s m below meth c Q) (ls : Array Slot) (hl : lv_has ls 4 [(3, .int (nI (4 * t))), (2, .ref (x + 262)), (1, .ref x), (0, .ref b)]) : W p l e room_1 s m #[.ref b] below meth c H locs (270 + 36 * t) (8085 + 342 * t) Q (F0 m 885 ls []) := by
  have hx := C0.1
  have hb := C0.2.1
  obtain ⟨S, sp, bf, sv, iz, rr, pd, ln, sts, td, ac⟩ := M
  obtain ⟨hXA, hMA, hsz, hS, hR⟩ := hI
  have ht6 : t ≤ 600 := by omega
  have hRB : RB t X.1 S := hR.1
  have hs : RS X.1 S := hRB.1
  have hP : RP X.2.1.1 pd ln := hR.2.1
  have hH : RH t X.2.2.1.1 X.2.2.1.2.2 bf sts := hR.2.2.1
  have hV : RV t X.2.2.2.1 X.2.2.2.2 iz sv := hR.2.2.2
  have hXO : XOk X := la_ok hR ht6
  have hM : mOk S := hRB.mOk (by omega)
  have h6 := hH.2.1
  have hln := hP.2.1
  have hpd := hP.2.2.2
  have hB := hRB.hB (by omega)
  have hch := hRB.hch
  have hiz : ∀ k, k < 2 → iz k < 2 := fun k hk => (hV k hk).1
  refine lv_aload_n hx hb d_La_law_885 rfl (lv_at hl 2 rfl) ?_
  refine lv_aload_n hx hb d_La_law_886 rfl (lv_at hl 3 rfl) ?_
  refine lv_iload_n hx hb d_La_law_887 rfl (lv_at hl 0 rfl) ?_
  refine lv_iconst (v := nI 1) hx hb d_La_law_888 (by decide +kernel) ?_
  refine g_iadd C0 (z := 4 * t + 1) d_La_law_889 rfl ?_
  refine la_sld C0 hX0 hxs hbl hS (by omega) hL d_La_law_890 ?_
  refine g_V C0 (k_Ga_save l G x X (xs (4 * t + 1)) H.size hXO) co_Ga_save im_Ga_save se_Ga_save in_Ga gc_Ga_save ml_La_128 ⟨Nat.le_of_ble_eq_true rfl, Nat.le_of_ble_eq_true rfl⟩ hK hXA.1 rfl ⟨hXA, rfl, hsz⟩ rfl hl.1 rfl (Nat.le_of_ble_eq_true rfl) d_La_law_891 ⟨(by show 270 + 36 * t + 36 ≤ 600000; omega), (by show 8085 + 342 * t + 342 ≤ 7302250; omega)⟩ (g_wx (free := fun q => x ≤ q) hS.2.2 (fun q h => (by have h2 : (x ≤ q ∧ q < x + 262) ∨ x + 270 ≤ q := h; show x ≤ q; omega)) (fun H1 locs1 hL1 ⟨hX1, hf1⟩ => ?_))
  have hS1 : va_S (fun q => x ≤ q) s.heap H1 locs1 := la_SA hxs hS hf1 hL1
  have hMA1 := la_MA hMA hf1
  refine lv_aload_n hx hb d_La_law_894 rfl (lv_at hl 1 rfl) ?_
  refine lv_aload_n hx hb d_La_law_895 rfl (lv_at hl 3 rfl) ?_
  refine lv_iload_n hx hb d_La_law_896 rfl (lv_at hl 0 rfl) ?_
  refine lv_iconst (v := nI 1) hx hb d_La_law_897 (by decide +kernel) ?_
  refine g_iadd C0 (z := 4 * t + 1) d_La_law_898 rfl ?_
  refine la_sld C0 hX0 hxs hbl hS1 (by omega) hL d_La_law_899 ?_
  refine g_V C0 (k_Mo_save l G (x + 262) S sp bf sv iz rr pd ln sts td ac (xs (4 * t + 1)) ) co_Mo_save im_Mo_save se_Mo_save in_Mo gc_Mo_save ml_La_131 ⟨Nat.le_of_ble_eq_true rfl, Nat.le_of_ble_eq_true rfl⟩ hK hMA1.1 rfl hMA1 rfl hl.1 rfl (Nat.le_of_ble_eq_true rfl) d_La_law_900 ⟨(by show 270 + 36 * t + 36 + 0 ≤ 600000; omega), (by show 8085 + 342 * t + 342 + 0 ≤ 7302250; omega)⟩ (g_wi (free := fun q => x ≤ q) hL1 (fun q h => (by have h2 := h.1; show x ≤ q; omega)) (fun H2 locs2 hL2 ⟨hM2, hf2⟩ => ?_))
  refine lv_icmp_eq (tgt := 931) hx hb d_La_law_903 (by decide) (fun _ => ?_) (fun hne => ?_)
  · refine W.widen (k := 270 + 36 * (t + 1)) (n := 8085 + 342 * (t + 1)) (by omega) (by omega) ?_
    have hRA := tz_save hR (xs (4 * t + 1)) H.size
    exact kk _ _ H2 locs2 ⟨hX1.fr2 hf2, hM2, (by rw [hf2.1]; exact Nat.le_trans hsz hf1.1), la_S hxs hS1 hf2 (by omega) hL2, hRA.2⟩ ls hl
  · exact absurd (tz_save hR (xs (4 * t + 1)) H.size).1 hne

set_option maxHeartbeats 4000000 in
set_option maxRecDepth 100000 in
theorem la_c28 (l : Launch) (G : gT) (C0 : CallFix p m c code 4 s #[.ref b] lw_g "GaleNamesLaw") (hK : gK G s) (hL : L ≤ 2048) (hX0 : va_X b L xs s s.heap) (hxs : x = s.heap.size) (hbl : b < s.heap.size) (h4 : 4 * t + 4 ≤ L) (hI : laI G s x t X M H locs) (kk : laK l G b x t p e s m below meth c Q) (ls : Array Slot) (hl : lv_has ls 4 [(3, .int (nI (4 * t))), (2, .ref (x + 262)), (1, .ref x), (0, .ref b)]) : W p l e room_1 s m #[.ref b] below meth c H locs (270 + 36 * t) (8085 + 342 * t) Q (F0 m 908 ls []) := by
  have hx := C0.1
  have hb := C0.2.1
  obtain ⟨S, sp, bf, sv, iz, rr, pd, ln, sts, td, ac⟩ := M
  obtain ⟨hXA, hMA, hsz, hS, hR⟩ := hI
  have ht6 : t ≤ 600 := by omega
  have hRB : RB t X.1 S := hR.1
  have hs : RS X.1 S := hRB.1
  have hP : RP X.2.1.1 pd ln := hR.2.1
  have hH : RH t X.2.2.1.1 X.2.2.1.2.2 bf sts := hR.2.2.1
  have hV : RV t X.2.2.2.1 X.2.2.2.2 iz sv := hR.2.2.2
  have hXO : XOk X := la_ok hR ht6
  have hM : mOk S := hRB.mOk (by omega)
  have h6 := hH.2.1
  have hln := hP.2.1
  have hpd := hP.2.2.2
  have hB := hRB.hB (by omega)
  have hch := hRB.hch
  have hiz : ∀ k, k < 2 → iz k < 2 := fun k hk => (hV k hk).1
  refine lv_aload_n hx hb d_La_law_908 rfl (lv_at hl 2 rfl) ?_
  refine lv_aload_n hx hb d_La_law_909 rfl (lv_at hl 3 rfl) ?_
  refine lv_iload_n hx hb d_La_law_910 rfl (lv_at hl 0 rfl) ?_
  refine lv_iconst (v := nI 1) hx hb d_La_law_911 (by decide +kernel) ?_
  refine g_iadd C0 (z := 4 * t + 1) d_La_law_912 rfl ?_
  refine la_sld C0 hX0 hxs hbl hS (by omega) hL d_La_law_913 ?_
  refine g_V C0 (k_Ga_restore l G x X (xs (4 * t + 1)) hXO) co_Ga_restore im_Ga_restore se_Ga_restore in_Ga gc_Ga_restore ml_La_132 ⟨Nat.le_of_ble_eq_true rfl, Nat.le_of_ble_eq_true rfl⟩ hK hXA.1 rfl hXA rfl hl.1 rfl (Nat.le_of_ble_eq_true rfl) d_La_law_914 ⟨(by show 270 + 36 * t + 0 ≤ 600000; omega), (by show 8085 + 342 * t + 0 ≤ 7302250; omega)⟩ (g_wi (free := fun q => x ≤ q) hS.2.2 (fun q h => h.1) (fun H1 locs1 hL1 ⟨hX1, hf1⟩ => ?_))
  have hS1 : va_S (fun q => x ≤ q) s.heap H1 locs1 := la_S hxs hS hf1 (Nat.le_refl _) hL1
  have hMA1 := hMA.fr hf1 (Or.inr (Nat.le_refl _))
  refine lv_aload_n hx hb d_La_law_917 rfl (lv_at hl 1 rfl) ?_
  refine lv_aload_n hx hb d_La_law_918 rfl (lv_at hl 3 rfl) ?_
  refine lv_iload_n hx hb d_La_law_919 rfl (lv_at hl 0 rfl) ?_
  refine lv_iconst (v := nI 1) hx hb d_La_law_920 (by decide +kernel) ?_
  refine g_iadd C0 (z := 4 * t + 1) d_La_law_921 rfl ?_
  refine la_sld C0 hX0 hxs hbl hS1 (by omega) hL d_La_law_922 ?_
  refine g_V C0 (k_Mo_restore l G (x + 262) S sp bf sv iz rr pd ln sts td ac (xs (4 * t + 1)) h6 hiz) co_Mo_restore im_Mo_restore se_Mo_restore in_Mo gc_Mo_restore ml_La_135 ⟨Nat.le_of_ble_eq_true rfl, Nat.le_of_ble_eq_true rfl⟩ hK hMA1.1 rfl hMA1 rfl hl.1 rfl (Nat.le_of_ble_eq_true rfl) d_La_law_923 ⟨(by show 270 + 36 * t + 0 ≤ 600000; omega), (by show 8085 + 342 * t + 0 ≤ 7302250; omega)⟩ (g_wi (free := fun q => x ≤ q) hL1 (fun q h => (by have h2 := h.1; show x ≤ q; omega)) (fun H2 locs2 hL2 ⟨hM2, hf2⟩ => ?_))
  refine lv_icmp_eq (tgt := 931) hx hb d_La_law_926 (by decide) (fun _ => ?_) (fun hne => ?_)
  · refine W.widen (k := 270 + 36 * (t + 1)) (n := 8085 + 342 * (t + 1)) (by omega) (by omega) ?_
    have hRA := tz_rest hR (xs (4 * t + 1))
    exact kk _ _ H2 locs2 ⟨hX1.fr2 hf2, hM2, (by rw [hf2.1, hf1.1]; exact hsz), la_S hxs hS1 hf2 (by omega) hL2, hRA.2⟩ ls hl
  · exact absurd (tz_rest hR (xs (4 * t + 1))).1 hne
end
