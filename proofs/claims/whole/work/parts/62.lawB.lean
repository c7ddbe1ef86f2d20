section
variable {p : Program} {e : Env} {s : State} {m : MethodId} {below : List Frame} {meth : Method} {c : Code} {Q : State → Prop} {b L x t : Nat} {xs : Nat → Int32} {X : XS} {M : MS} {H : Heap} {locs : List Loc}
set_option maxHeartbeats 4000000 in
set_option maxRecDepth 100000 in
theorem la_c10 (l : Launch) (G : gT) (C0 : CallFix p m c code 4 s #[.ref b] lw_g "GaleNamesLaw") (hK : gK G s) (hL : L ≤ 2048) (hX0 : va_X b L xs s s.heap) (hxs : x = s.heap.size) (hbl : b < s.heap.size) (h4 : 4 * t + 4 ≤ L) (hI : laI G s x t X M H locs) (kk : laK l G b x t p e s m below meth c Q) (ls : Array Slot) (hl : lv_has ls 4 [(3, .int (nI (4 * t))), (2, .ref (x + 262)), (1, .ref x), (0, .ref b)]) : W p l e room_1 s m #[.ref b] below meth c H locs (270 + 36 * t) (8085 + 342 * t) Q (F0 m 444 ls []) := by
  have hx := C0.1
  have hb := C0.2.1
  obtain ⟨S, sp, bf, sv, iz, rr, pd, ln, sts, td, ac⟩ := M
  obtain ⟨hXA, hMA, hsz, hS, hR⟩ := hI
  have ht6 : t ≤ 600 := by omega
  have hRB : RB t X.1 S := hR.1
  have hs : RS X.1 S := hRB.1
  have hP : RP X.2.1.1 pd ln := hR.2.1
  have hH : RH t X.2.2.1.1 X.2.2.1.2.2 bf sts := hR.2.2.1
  have hV : RV t X.2.2.2.1 X.2.2.2.2 iz sv := hR.2.2.2
  have hXO : XOk X := la_ok hR ht6
  have hM : mOk S := hRB.mOk (by omega)
  have h6 := hH.2.1
  have hln := hP.2.1
  have hpd := hP.2.2.2
  have hB := hRB.hB (by omega)
  have hch := hRB.hch
  have hiz : ∀ k, k < 2 → iz k < 2 := fun k hk => (hV k hk).1
  refine lv_aload_n hx hb d_La_law_444 rfl (lv_at hl 2 rfl) ?_
  refine lv_aload_n hx hb d_La_law_445 rfl (lv_at hl 3 rfl) ?_
  refine lv_iload_n hx hb d_La_law_446 rfl (lv_at hl 0 rfl) ?_
  refine lv_iconst (v := nI 1) hx hb d_La_law_447 (by decide +kernel) ?_
  refine g_iadd C0 (z := 4 * t + 1) d_La_law_448 rfl ?_
  refine la_sld C0 hX0 hxs hbl hS (by omega) hL d_La_law_449 ?_
  refine lv_aload_n hx hb d_La_law_450 rfl (lv_at hl 3 rfl) ?_
  refine lv_iload_n hx hb d_La_law_451 rfl (lv_at hl 0 rfl) ?_
  refine lv_iconst (v := nI 2) hx hb d_La_law_452 (by decide +kernel) ?_
  refine g_iadd C0 (z := 4 * t + 2) d_La_law_453 rfl ?_
  refine la_sld C0 hX0 hxs hbl hS (by omega) hL d_La_law_454 ?_
  refine g_V C0 (k_Ga_letter l G x X (xs (4 * t + 1)) (xs (4 * t + 2)) hXO) co_Ga_letter im_Ga_letter se_Ga_letter in_Ga gc_Ga_letter ml_La_57 ⟨Nat.le_of_ble_eq_true rfl, Nat.le_of_ble_eq_true rfl⟩ hK hXA.1 rfl hXA rfl hl.1 rfl (Nat.le_of_ble_eq_true rfl) d_La_law_455 ⟨(by show 270 + 36 * t + 0 ≤ 600000; omega), (by show 8085 + 342 * t + 0 ≤ 7302250; omega)⟩ (g_r rfl ?_)
  have hS1 := hS
  refine lv_aload_n hx hb d_La_law_458 rfl (lv_at hl 1 rfl) ?_
  refine lv_aload_n hx hb d_La_law_459 rfl (lv_at hl 3 rfl) ?_
  refine lv_iload_n hx hb d_La_law_460 rfl (lv_at hl 0 rfl) ?_
  refine lv_iconst (v := nI 1) hx hb d_La_law_461 (by decide +kernel) ?_
  refine g_iadd C0 (z := 4 * t + 1) d_La_law_462 rfl ?_
  refine la_sld C0 hX0 hxs hbl hS1 (by omega) hL d_La_law_463 ?_
  refine lv_aload_n hx hb d_La_law_464 rfl (lv_at hl 3 rfl) ?_
  refine lv_iload_n hx hb d_La_law_465 rfl (lv_at hl 0 rfl) ?_
  refine lv_iconst (v := nI 2) hx hb d_La_law_466 (by decide +kernel) ?_
  refine g_iadd C0 (z := 4 * t + 2) d_La_law_467 rfl ?_
  refine la_sld C0 hX0 hxs hbl hS1 (by omega) hL d_La_law_468 ?_
  refine g_V C0 (k_Mo_letter l G (x + 262) S sp bf sv iz rr pd ln sts td ac (xs (4 * t + 1)) (xs (4 * t + 2)) hM) co_Mo_letter im_Mo_letter se_Mo_letter in_Mo gc_Mo_letter ml_La_60 ⟨Nat.le_of_ble_eq_true rfl, Nat.le_of_ble_eq_true rfl⟩ hK hMA.1 rfl hMA rfl hl.1 rfl (Nat.le_of_ble_eq_true rfl) d_La_law_469 ⟨(by show 270 + 36 * t + 0 ≤ 600000; omega), (by show 8085 + 342 * t + 0 ≤ 7302250; omega)⟩ (g_r rfl ?_)
  refine lv_icmp_eq (tgt := 931) hx hb d_La_law_472 (by decide) (fun _ => ?_) (fun hne => ?_)
  · refine W.widen (k := 270 + 36 * (t + 1)) (n := 8085 + 342 * (t + 1)) (by omega) (by omega) ?_
    exact kk X (S, sp, bf, sv, iz, rr, pd, ln, sts, td, ac) H locs ⟨hXA, hMA, hsz, hS, hR.mono (Nat.le_succ t)⟩ ls hl
  · exact absurd (a_Letter hs (xs (4 * t + 1)) (xs (4 * t + 2))) hne

set_option maxHeartbeats 4000000 in
set_option maxRecDepth 100000 in
theorem la_c11 (l : Launch) (G : gT) (C0 : CallFix p m c code 4 s #[.ref b] lw_g "GaleNamesLaw") (hK : gK G s) (hL : L ≤ 2048) (hX0 : va_X b L xs s s.heap) (hxs : x = s.heap.size) (hbl : b < s.heap.size) (h4 : 4 * t + 4 ≤ L) (hI : laI G s x t X M H locs) (kk : laK l G b x t p e s m below meth c Q) (ls : Array Slot) (hl : lv_has ls 4 [(3, .int (nI (4 * t))), (2, .ref (x + 262)), (1, .ref x), (0, .ref b)]) : W p l e room_1 s m #[.ref b] below meth c H locs (270 + 36 * t) (8085 + 342 * t) Q (F0 m 477 ls []) := by
  have hx := C0.1
  have hb := C0.2.1
  obtain ⟨S, sp, bf, sv, iz, rr, pd, ln, sts, td, ac⟩ := M
  obtain ⟨hXA, hMA, hsz, hS, hR⟩ := hI
  have ht6 : t ≤ 600 := by omega
  have hRB : RB t X.1 S := hR.1
  have hs : RS X.1 S := hRB.1
  have hP : RP X.2.1.1 pd ln := hR.2.1
  have hH : RH t X.2.2.1.1 X.2.2.1.2.2 bf sts := hR.2.2.1
  have hV : RV t X.2.2.2.1 X.2.2.2.2 iz sv := hR.2.2.2
  have hXO : XOk X := la_ok hR ht6
  have hM : mOk S := hRB.mOk (by omega)
  have h6 := hH.2.1
  have hln := hP.2.1
  have hpd := hP.2.2.2
  have hB := hRB.hB (by omega)
  have hch := hRB.hch
  have hiz : ∀ k, k < 2 → iz k < 2 := fun k hk => (hV k hk).1
  refine lv_aload_n hx hb d_La_law_477 rfl (lv_at hl 2 rfl) ?_
  refine lv_aload_n hx hb d_La_law_478 rfl (lv_at hl 3 rfl) ?_
  refine lv_iload_n hx hb d_La_law_479 rfl (lv_at hl 0 rfl) ?_
  refine lv_iconst (v := nI 1) hx hb d_La_law_480 (by decide +kernel) ?_
  refine g_iadd C0 (z := 4 * t + 1) d_La_law_481 rfl ?_
  refine la_sld C0 hX0 hxs hbl hS (by omega) hL d_La_law_482 ?_
  refine lv_aload_n hx hb d_La_law_483 rfl (lv_at hl 3 rfl) ?_
  refine lv_iload_n hx hb d_La_law_484 rfl (lv_at hl 0 rfl) ?_
  refine lv_iconst (v := nI 2) hx hb d_La_law_485 (by decide +kernel) ?_
  refine g_iadd C0 (z := 4 * t + 2) d_La_law_486 rfl ?_
  refine la_sld C0 hX0 hxs hbl hS (by omega) hL d_La_law_487 ?_
  refine lv_aload_n hx hb d_La_law_488 rfl (lv_at hl 3 rfl) ?_
  refine lv_iload_n hx hb d_La_law_489 rfl (lv_at hl 0 rfl) ?_
  refine lv_iconst (v := nI 3) hx hb d_La_law_490 (by decide +kernel) ?_
  refine g_iadd C0 (z := 4 * t + 3) d_La_law_491 rfl ?_
  refine la_sld C0 hX0 hxs hbl hS (by omega) hL d_La_law_492 ?_
  refine g_V C0 (k_Ga_listed l G x X (xs (4 * t + 1)) (xs (4 * t + 2)) (xs (4 * t + 3)) hXO) co_Ga_listed im_Ga_listed se_Ga_listed in_Ga gc_Ga_listed ml_La_61 ⟨Nat.le_of_ble_eq_true rfl, Nat.le_of_ble_eq_true rfl⟩ hK hXA.1 rfl hXA rfl hl.1 rfl (Nat.le_of_ble_eq_true rfl) d_La_law_493 ⟨(by show 270 + 36 * t + 0 ≤ 600000; omega), (by show 8085 + 342 * t + 0 ≤ 7302250; omega)⟩ (g_r rfl ?_)
  have hS1 := hS
  refine lv_aload_n hx hb d_La_law_496 rfl (lv_at hl 1 rfl) ?_
  refine lv_aload_n hx hb d_La_law_497 rfl (lv_at hl 3 rfl) ?_
  refine lv_iload_n hx hb d_La_law_498 rfl (lv_at hl 0 rfl) ?_
  refine lv_iconst (v := nI 1) hx hb d_La_law_499 (by decide +kernel) ?_
  refine g_iadd C0 (z := 4 * t + 1) d_La_law_500 rfl ?_
  refine la_sld C0 hX0 hxs hbl hS1 (by omega) hL d_La_law_501 ?_
  refine lv_aload_n hx hb d_La_law_502 rfl (lv_at hl 3 rfl) ?_
  refine lv_iload_n hx hb d_La_law_503 rfl (lv_at hl 0 rfl) ?_
  refine lv_iconst (v := nI 2) hx hb d_La_law_504 (by decide +kernel) ?_
  refine g_iadd C0 (z := 4 * t + 2) d_La_law_505 rfl ?_
  refine la_sld C0 hX0 hxs hbl hS1 (by omega) hL d_La_law_506 ?_
  refine lv_aload_n hx hb d_La_law_507 rfl (lv_at hl 3 rfl) ?_
  refine lv_iload_n hx hb d_La_law_508 rfl (lv_at hl 0 rfl) ?_
  refine lv_iconst (v := nI 3) hx hb d_La_law_509 (by decide +kernel) ?_
  refine g_iadd C0 (z := 4 * t + 3) d_La_law_510 rfl ?_
  refine la_sld C0 hX0 hxs hbl hS1 (by omega) hL d_La_law_511 ?_
  refine g_V C0 (k_Mo_listed l G (x + 262) S sp bf sv iz rr pd ln sts td ac (xs (4 * t + 1)) (xs (4 * t + 2)) (xs (4 * t + 3)) hM) co_Mo_listed im_Mo_listed se_Mo_listed in_Mo gc_Mo_listed ml_La_64 ⟨Nat.le_of_ble_eq_true rfl, Nat.le_of_ble_eq_true rfl⟩ hK hMA.1 rfl hMA rfl hl.1 rfl (Nat.le_of_ble_eq_true rfl) d_La_law_512 ⟨(by show 270 + 36 * t + 0 ≤ 600000; omega), (by show 8085 + 342 * t + 0 ≤ 7302250; omega)⟩ (g_r rfl ?_)
  refine lv_icmp_eq (tgt := 931) hx hb d_La_law_515 (by decide) (fun _ => ?_) (fun hne => ?_)
  · refine W.widen (k := 270 + 36 * (t + 1)) (n := 8085 + 342 * (t + 1)) (by omega) (by omega) ?_
    exact kk X (S, sp, bf, sv, iz, rr, pd, ln, sts, td, ac) H locs ⟨hXA, hMA, hsz, hS, hR.mono (Nat.le_succ t)⟩ ls hl
  · exact absurd (a_Listed hs (xs (4 * t + 1)) (xs (4 * t + 2)) (xs (4 * t + 3))) hne

set_option maxHeartbeats 4000000 in
set_option maxRecDepth 100000 in
theorem la_c12 (l : Launch) (G : gT) (C0 : CallFix p m c code 4 s #[.ref b] lw_g "GaleNamesLaw") (hK : gK G s) (hL : L ≤ 2048) (hX0 : va_X b L xs s s.heap) (hxs : x = s.heap.size) (hbl : b < s.heap.size) (h4 : 4 * t + 4 ≤ L) (hI : laI G s x t X M H locs) (kk : laK l G b x t p e s m below meth c Q) (ls : Array Slot) (hl : lv_has ls 4 [(3, .int (nI (4 * t))), (2, .ref (x + 262)), (1, .ref x), (0, .ref b)]) : W p l e room_1 s m #[.ref b] below meth c H locs (270 + 36 * t) (8085 + 342 * t) Q (F0 m 520 ls []) := by
  have hx := C0.1
  have hb := C0.2.1
  obtain ⟨S, sp, bf, sv, iz, rr, pd, ln, sts, td, ac⟩ := M
  obtain ⟨hXA, hMA, hsz, hS, hR⟩ := hI
  have ht6 : t ≤ 600 := by omega
  have hRB : RB t X.1 S := hR.1
  have hs : RS X.1 S := hRB.1
  have hP : RP X.2.1.1 pd ln := hR.2.1
  have hH : RH t X.2.2.1.1 X.2.2.1.2.2 bf sts := hR.2.2.1
  have hV : RV t X.2.2.2.1 X.2.2.2.2 iz sv := hR.2.2.2
  have hXO : XOk X := la_ok hR ht6
  have hM : mOk S := hRB.mOk (by omega)
  have h6 := hH.2.1
  have hln := hP.2.1
  have hpd := hP.2.2.2
  have hB := hRB.hB (by omega)
  have hch := hRB.hch
  have hiz : ∀ k, k < 2 → iz k < 2 := fun k hk => (hV k hk).1
  refine lv_aload_n hx hb d_La_law_520 rfl (lv_at hl 2 rfl) ?_
  refine lv_aload_n hx hb d_La_law_521 rfl (lv_at hl 3 rfl) ?_
  refine lv_iload_n hx hb d_La_law_522 rfl (lv_at hl 0 rfl) ?_
  refine lv_iconst (v := nI 1) hx hb d_La_law_523 (by decide +kernel) ?_
  refine g_iadd C0 (z := 4 * t + 1) d_La_law_524 rfl ?_
  refine la_sld C0 hX0 hxs hbl hS (by omega) hL d_La_law_525 ?_
  refine lv_aload_n hx hb d_La_law_526 rfl (lv_at hl 3 rfl) ?_
  refine lv_iload_n hx hb d_La_law_527 rfl (lv_at hl 0 rfl) ?_
  refine lv_iconst (v := nI 2) hx hb d_La_law_528 (by decide +kernel) ?_
  refine g_iadd C0 (z := 4 * t + 2) d_La_law_529 rfl ?_
  refine la_sld C0 hX0 hxs hbl hS (by omega) hL d_La_law_530 ?_
  refine g_V C0 (k_Ga_ofStorm l G x X (xs (4 * t + 1)) (xs (4 * t + 2)) hXO) co_Ga_ofStorm im_Ga_ofStorm se_Ga_ofStorm in_Ga gc_Ga_ofStorm ml_La_65 ⟨Nat.le_of_ble_eq_true rfl, Nat.le_of_ble_eq_true rfl⟩ hK hXA.1 rfl hXA rfl hl.1 rfl (Nat.le_of_ble_eq_true rfl) d_La_law_531 ⟨(by show 270 + 36 * t + 0 ≤ 600000; omega), (by show 8085 + 342 * t + 0 ≤ 7302250; omega)⟩ (g_r rfl ?_)
  have hS1 := hS
  refine lv_aload_n hx hb d_La_law_534 rfl (lv_at hl 1 rfl) ?_
  refine lv_aload_n hx hb d_La_law_535 rfl (lv_at hl 3 rfl) ?_
  refine lv_iload_n hx hb d_La_law_536 rfl (lv_at hl 0 rfl) ?_
  refine lv_iconst (v := nI 1) hx hb d_La_law_537 (by decide +kernel) ?_
  refine g_iadd C0 (z := 4 * t + 1) d_La_law_538 rfl ?_
  refine la_sld C0 hX0 hxs hbl hS1 (by omega) hL d_La_law_539 ?_
  refine lv_aload_n hx hb d_La_law_540 rfl (lv_at hl 3 rfl) ?_
  refine lv_iload_n hx hb d_La_law_541 rfl (lv_at hl 0 rfl) ?_
  refine lv_iconst (v := nI 2) hx hb d_La_law_542 (by decide +kernel) ?_
  refine g_iadd C0 (z := 4 * t + 2) d_La_law_543 rfl ?_
  refine la_sld C0 hX0 hxs hbl hS1 (by omega) hL d_La_law_544 ?_
  refine g_V C0 (k_Mo_ofStorm l G (x + 262) S sp bf sv iz rr pd ln sts td ac (xs (4 * t + 1)) (xs (4 * t + 2)) hM) co_Mo_ofStorm im_Mo_ofStorm se_Mo_ofStorm in_Mo gc_Mo_ofStorm ml_La_68 ⟨Nat.le_of_ble_eq_true rfl, Nat.le_of_ble_eq_true rfl⟩ hK hMA.1 rfl hMA rfl hl.1 rfl (Nat.le_of_ble_eq_true rfl) d_La_law_545 ⟨(by show 270 + 36 * t + 0 ≤ 600000; omega), (by show 8085 + 342 * t + 0 ≤ 7302250; omega)⟩ (g_r rfl ?_)
  refine lv_icmp_eq (tgt := 931) hx hb d_La_law_548 (by decide) (fun _ => ?_) (fun hne => ?_)
  · refine W.widen (k := 270 + 36 * (t + 1)) (n := 8085 + 342 * (t + 1)) (by omega) (by omega) ?_
    exact kk X (S, sp, bf, sv, iz, rr, pd, ln, sts, td, ac) H locs ⟨hXA, hMA, hsz, hS, hR.mono (Nat.le_succ t)⟩ ls hl
  · exact absurd (a_OfS hs (xs (4 * t + 1)) (xs (4 * t + 2))) hne

set_option maxHeartbeats 4000000 in
set_option maxRecDepth 100000 in
theorem la_c13 (l : Launch) (G : gT) (C0 : CallFix p m c code 4 s #[.ref b] lw_g "GaleNamesLaw") (hK : gK G s) (hL : L ≤ 2048) (hX0 : va_X b L xs s s.heap) (hxs : x = s.heap.size) (hbl : b < s.heap.size) (h4 : 4 * t + 4 ≤ L) (hI : laI G s x t X M H locs) (kk : laK l G b x t p e s m below meth c Q) (ls : Array Slot) (hl : lv_has ls 4 [(3, .int (nI (4 * t))), (2, .ref (x + 262)), (1, .ref x), (0, .ref b)]) : W p l e room_1 s m #[.ref b] below meth c H locs (270 + 36 * t) (8085 + 342 * t) Q (F0 m 553 ls []) := by
  have hx := C0.1
  have hb := C0.2.1
  obtain ⟨S, sp, bf, sv, iz, rr, pd, ln, sts, td, ac⟩ := M
  obtain ⟨hXA, hMA, hsz, hS, hR⟩ := hI
  have ht6 : t ≤ 600 := by omega
  have hRB : RB t X.1 S := hR.1
  have hs : RS X.1 S := hRB.1
  have hP : RP X.2.1.1 pd ln := hR.2.1
  have hH : RH t X.2.2.1.1 X.2.2.1.2.2 bf sts := hR.2.2.1
  have hV : RV t X.2.2.2.1 X.2.2.2.2 iz sv := hR.2.2.2
  have hXO : XOk X := la_ok hR ht6
  have hM : mOk S := hRB.mOk (by omega)
  have h6 := hH.2.1
  have hln := hP.2.1
  have hpd := hP.2.2.2
  have hB := hRB.hB (by omega)
  have hch := hRB.hch
  have hiz : ∀ k, k < 2 → iz k < 2 := fun k hk => (hV k hk).1
  refine lv_aload_n hx hb d_La_law_553 rfl (lv_at hl 2 rfl) ?_
  refine lv_aload_n hx hb d_La_law_554 rfl (lv_at hl 3 rfl) ?_
  refine lv_iload_n hx hb d_La_law_555 rfl (lv_at hl 0 rfl) ?_
  refine lv_iconst (v := nI 1) hx hb d_La_law_556 (by decide +kernel) ?_
  refine g_iadd C0 (z := 4 * t + 1) d_La_law_557 rfl ?_
  refine la_sld C0 hX0 hxs hbl hS (by omega) hL d_La_law_558 ?_
  refine lv_aload_n hx hb d_La_law_559 rfl (lv_at hl 3 rfl) ?_
  refine lv_iload_n hx hb d_La_law_560 rfl (lv_at hl 0 rfl) ?_
  refine lv_iconst (v := nI 2) hx hb d_La_law_561 (by decide +kernel) ?_
  refine g_iadd C0 (z := 4 * t + 2) d_La_law_562 rfl ?_
  refine la_sld C0 hX0 hxs hbl hS (by omega) hL d_La_law_563 ?_
  refine g_V C0 (k_Ga_ofNamesake l G x X (xs (4 * t + 1)) (xs (4 * t + 2)) hXO) co_Ga_ofNamesake im_Ga_ofNamesake se_Ga_ofNamesake in_Ga gc_Ga_ofNamesake ml_La_69 ⟨Nat.le_of_ble_eq_true rfl, Nat.le_of_ble_eq_true rfl⟩ hK hXA.1 rfl hXA rfl hl.1 rfl (Nat.le_of_ble_eq_true rfl) d_La_law_564 ⟨(by show 270 + 36 * t + 0 ≤ 600000; omega), (by show 8085 + 342 * t + 0 ≤ 7302250; omega)⟩ (g_r rfl ?_)
  have hS1 := hS
  refine lv_aload_n hx hb d_La_law_567 rfl (lv_at hl 1 rfl) ?_
  refine lv_aload_n hx hb d_La_law_568 rfl (lv_at hl 3 rfl) ?_
  refine lv_iload_n hx hb d_La_law_569 rfl (lv_at hl 0 rfl) ?_
  refine lv_iconst (v := nI 1) hx hb d_La_law_570 (by decide +kernel) ?_
  refine g_iadd C0 (z := 4 * t + 1) d_La_law_571 rfl ?_
  refine la_sld C0 hX0 hxs hbl hS1 (by omega) hL d_La_law_572 ?_
  refine lv_aload_n hx hb d_La_law_573 rfl (lv_at hl 3 rfl) ?_
  refine lv_iload_n hx hb d_La_law_574 rfl (lv_at hl 0 rfl) ?_
  refine lv_iconst (v := nI 2) hx hb d_La_law_575 (by decide +kernel) ?_
  refine g_iadd C0 (z := 4 * t + 2) d_La_law_576 rfl ?_
  refine la_sld C0 hX0 hxs hbl hS1 (by omega) hL d_La_law_577 ?_
  refine g_V C0 (k_Mo_ofNamesake l G (x + 262) S sp bf sv iz rr pd ln sts td ac (xs (4 * t + 1)) (xs (4 * t + 2)) hM) co_Mo_ofNamesake im_Mo_ofNamesake se_Mo_ofNamesake in_Mo gc_Mo_ofNamesake ml_La_72 ⟨Nat.le_of_ble_eq_true rfl, Nat.le_of_ble_eq_true rfl⟩ hK hMA.1 rfl hMA rfl hl.1 rfl (Nat.le_of_ble_eq_true rfl) d_La_law_578 ⟨(by show 270 + 36 * t + 0 ≤ 600000; omega), (by show 8085 + 342 * t + 0 ≤ 7302250; omega)⟩ (g_r rfl ?_)
  refine lv_icmp_eq (tgt := 931) hx hb d_La_law_581 (by decide) (fun _ => ?_) (fun hne => ?_)
  · refine W.widen (k := 270 + 36 * (t + 1)) (n := 8085 + 342 * (t + 1)) (by omega) (by omega) ?_
    exact kk X (S, sp, bf, sv, iz, rr, pd, ln, sts, td, ac) H locs ⟨hXA, hMA, hsz, hS, hR.mono (Nat.le_succ t)⟩ ls hl
  · exact absurd (a_OfN hs (xs (4 * t + 1)) (xs (4 * t + 2))) hne

set_option maxHeartbeats 4000000 in
set_option maxRecDepth 100000 in
theorem la_c14 (l : Launch) (G : gT) (C0 : CallFix p m c code 4 s #[.ref b] lw_g "GaleNamesLaw") (hK : gK G s) (hL : L ≤ 2048) (hX0 : va_X b L xs s s.heap) (hxs : x = s.heap.size) (hbl : b < s.heap.size) (h4 : 4 * t + 4 ≤ L) (hI : laI G s x t X M H locs) (kk : laK l G b x t p e s m below meth c Q) (ls : Array Slot) (hl : lv_has ls 4 [(3, .int (nI (4 * t))), (2, .ref (x + 262)), (1, .ref x), (0, .ref b)]) : W p l e room_1 s m #[.ref b] below meth c H locs (270 + 36 * t) (8085 + 342 * t) Q (F0 m 586 ls []) := by
  have hx := C0.1
  have hb := C0.2.1
  obtain ⟨S, sp, bf, sv, iz, rr, pd, ln, sts, td, ac⟩ := M
  obtain ⟨hXA, hMA, hsz, hS, hR⟩ := hI
  have ht6 : t ≤ 600 := by omega
  have hRB : RB t X.1 S := hR.1
  have hs : RS X.1 S := hRB.1
  have hP : RP X.2.1.1 pd ln := hR.2.1
  have hH : RH t X.2.2.1.1 X.2.2.1.2.2 bf sts := hR.2.2.1
  have hV : RV t X.2.2.2.1 X.2.2.2.2 iz sv := hR.2.2.2
  have hXO : XOk X := la_ok hR ht6
  have hM : mOk S := hRB.mOk (by omega)
  have h6 := hH.2.1
  have hln := hP.2.1
  have hpd := hP.2.2.2
  have hB := hRB.hB (by omega)
  have hch := hRB.hch
  have hiz : ∀ k, k < 2 → iz k < 2 := fun k hk => (hV k hk).1
  refine lv_aload_n hx hb d_La_law_586 rfl (lv_at hl 2 rfl) ?_
  refine lv_aload_n hx hb d_La_law_587 rfl (lv_at hl 3 rfl) ?_
  refine lv_iload_n hx hb d_La_law_588 rfl (lv_at hl 0 rfl) ?_
  refine lv_iconst (v := nI 1) hx hb d_La_law_589 (by decide +kernel) ?_
  refine g_iadd C0 (z := 4 * t + 1) d_La_law_590 rfl ?_
  refine la_sld C0 hX0 hxs hbl hS (by omega) hL d_La_law_591 ?_
  refine g_V C0 (k_Ga_ranked l G x X (xs (4 * t + 1)) hXO) co_Ga_ranked im_Ga_ranked se_Ga_ranked in_Ga gc_Ga_ranked ml_La_73 ⟨Nat.le_of_ble_eq_true rfl, Nat.le_of_ble_eq_true rfl⟩ hK hXA.1 rfl hXA rfl hl.1 rfl (Nat.le_of_ble_eq_true rfl) d_La_law_592 ⟨(by show 270 + 36 * t + 0 ≤ 600000; omega), (by show 8085 + 342 * t + 0 ≤ 7302250; omega)⟩ (g_r rfl ?_)
  have hS1 := hS
  refine lv_aload_n hx hb d_La_law_595 rfl (lv_at hl 1 rfl) ?_
  refine lv_aload_n hx hb d_La_law_596 rfl (lv_at hl 3 rfl) ?_
  refine lv_iload_n hx hb d_La_law_597 rfl (lv_at hl 0 rfl) ?_
  refine lv_iconst (v := nI 1) hx hb d_La_law_598 (by decide +kernel) ?_
  refine g_iadd C0 (z := 4 * t + 1) d_La_law_599 rfl ?_
  refine la_sld C0 hX0 hxs hbl hS1 (by omega) hL d_La_law_600 ?_
  refine g_V C0 (k_Mo_ranked l G (x + 262) S sp bf sv iz rr pd ln sts td ac (xs (4 * t + 1)) hM) co_Mo_ranked im_Mo_ranked se_Mo_ranked in_Mo gc_Mo_ranked ml_La_76 ⟨Nat.le_of_ble_eq_true rfl, Nat.le_of_ble_eq_true rfl⟩ hK hMA.1 rfl hMA rfl hl.1 rfl (Nat.le_of_ble_eq_true rfl) d_La_law_601 ⟨(by show 270 + 36 * t + 0 ≤ 600000; omega), (by show 8085 + 342 * t + 0 ≤ 7302250; omega)⟩ (g_r rfl ?_)
  refine lv_icmp_eq (tgt := 931) hx hb d_La_law_604 (by decide) (fun _ => ?_) (fun hne => ?_)
  · refine W.widen (k := 270 + 36 * (t + 1)) (n := 8085 + 342 * (t + 1)) (by omega) (by omega) ?_
    exact kk X (S, sp, bf, sv, iz, rr, pd, ln, sts, td, ac) H locs ⟨hXA, hMA, hsz, hS, hR.mono (Nat.le_succ t)⟩ ls hl
  · exact absurd (a_Ranked hs (xs (4 * t + 1))) hne

set_option maxHeartbeats 4000000 in
set_option maxRecDepth 100000 in
theorem la_c15 (l : Launch) (G : gT) (C0 : CallFix p m c code 4 s #[.ref b] lw_g "GaleNamesLaw") (hK : gK G s) (hL : L ≤ 2048) (hX0 : va_X b L xs s s.heap) (hxs : x = s.heap.size) (hbl : b < s.heap.size) (h4 : 4 * t + 4 ≤ L) (hI : laI G s x t X M H locs) (kk : laK l G b x t p e s m below meth c Q) (ls : Array Slot) (hl : lv_has ls 4 [(3, .int (nI (4 * t))), (2, .ref (x + 262)), (1, .ref x), (0, .ref b)]) : W p l e room_1 s m #[.ref b] below meth c H locs (270 + 36 * t) (8085 + 342 * t) Q (F0 m 609 ls []) := by
  have hx := C0.1
  have hb := C0.2.1
  obtain ⟨S, sp, bf, sv, iz, rr, pd, ln, sts, td, ac⟩ := M
  obtain ⟨hXA, hMA, hsz, hS, hR⟩ := hI
  have ht6 : t ≤ 600 := by omega
  have hRB : RB t X.1 S := hR.1
  have hs : RS X.1 S := hRB.1
  have hP : RP X.2.1.1 pd ln := hR.2.1
  have hH : RH t X.2.2.1.1 X.2.2.1.2.2 bf sts := hR.2.2.1
  have hV : RV t X.2.2.2.1 X.2.2.2.2 iz sv := hR.2.2.2
  have hXO : XOk X := la_ok hR ht6
  have hM : mOk S := hRB.mOk (by omega)
  have h6 := hH.2.1
  have hln := hP.2.1
  have hpd := hP.2.2.2
  have hB := hRB.hB (by omega)
  have hch := hRB.hch
  have hiz : ∀ k, k < 2 → iz k < 2 := fun k hk => (hV k hk).1
  refine lv_aload_n hx hb d_La_law_609 rfl (lv_at hl 2 rfl) ?_
  refine lv_aload_n hx hb d_La_law_610 rfl (lv_at hl 3 rfl) ?_
  refine lv_iload_n hx hb d_La_law_611 rfl (lv_at hl 0 rfl) ?_
  refine lv_iconst (v := nI 1) hx hb d_La_law_612 (by decide +kernel) ?_
  refine g_iadd C0 (z := 4 * t + 1) d_La_law_613 rfl ?_
  refine la_sld C0 hX0 hxs hbl hS (by omega) hL d_La_law_614 ?_
  refine g_V C0 (k_Ga_sign l G x X (xs (4 * t + 1)) hXO) co_Ga_sign im_Ga_sign se_Ga_sign in_Ga gc_Ga_sign ml_La_77 ⟨Nat.le_of_ble_eq_true rfl, Nat.le_of_ble_eq_true rfl⟩ hK hXA.1 rfl hXA rfl hl.1 rfl (Nat.le_of_ble_eq_true rfl) d_La_law_615 ⟨(by show 270 + 36 * t + 0 ≤ 600000; omega), (by show 8085 + 342 * t + 0 ≤ 7302250; omega)⟩ (g_r rfl ?_)
  have hS1 := hS
  refine lv_aload_n hx hb d_La_law_618 rfl (lv_at hl 1 rfl) ?_
  refine lv_aload_n hx hb d_La_law_619 rfl (lv_at hl 3 rfl) ?_
  refine lv_iload_n hx hb d_La_law_620 rfl (lv_at hl 0 rfl) ?_
  refine lv_iconst (v := nI 1) hx hb d_La_law_621 (by decide +kernel) ?_
  refine g_iadd C0 (z := 4 * t + 1) d_La_law_622 rfl ?_
  refine la_sld C0 hX0 hxs hbl hS1 (by omega) hL d_La_law_623 ?_
  refine g_V C0 (k_Mo_sign l G (x + 262) S sp bf sv iz rr pd ln sts td ac (xs (4 * t + 1)) hP.2.1) co_Mo_sign im_Mo_sign se_Mo_sign in_Mo gc_Mo_sign ml_La_80 ⟨Nat.le_of_ble_eq_true rfl, Nat.le_of_ble_eq_true rfl⟩ hK hMA.1 rfl hMA rfl hl.1 rfl (Nat.le_of_ble_eq_true rfl) d_La_law_624 ⟨(by show 270 + 36 * t + 0 ≤ 600000; omega), (by show 8085 + 342 * t + 0 ≤ 7302250; omega)⟩ (g_r rfl ?_)
  refine lv_icmp_eq (tgt := 931) hx hb d_La_law_627 (by decide) (fun _ => ?_) (fun hne => ?_)
  · refine W.widen (k := 270 + 36 * (t + 1)) (n := 8085 + 342 * (t + 1)) (by omega) (by omega) ?_
    exact kk X (S, sp, bf, sv, iz, rr, pd, ln, sts, td, ac) H locs ⟨hXA, hMA, hsz, hS, hR.mono (Nat.le_succ t)⟩ ls hl
  · exact absurd (a_Sign hP (xs (4 * t + 1))) hne

set_option maxHeartbeats 4000000 in
set_option maxRecDepth 100000 in
theorem la_c16 (l : Launch) (G : gT) (C0 : CallFix p m c code 4 s #[.ref b] lw_g "GaleNamesLaw") (hK : gK G s) (hL : L ≤ 2048) (hX0 : va_X b L xs s s.heap) (hxs : x = s.heap.size) (hbl : b < s.heap.size) (h4 : 4 * t + 4 ≤ L) (hI : laI G s x t X M H locs) (kk : laK l G b x t p e s m below meth c Q) (ls : Array Slot) (hl : lv_has ls 4 [(3, .int (nI (4 * t))), (2, .ref (x + 262)), (1, .ref x), (0, .ref b)]) : W p l e room_1 s m #[.ref b] below meth c H locs (270 + 36 * t) (8085 + 342 * t) Q (F0 m 632 ls []) := by
  have hx := C0.1
  have hb := C0.2.1
  obtain ⟨S, sp, bf, sv, iz, rr, pd, ln, sts, td, ac⟩ := M
  obtain ⟨hXA, hMA, hsz, hS, hR⟩ := hI
  have ht6 : t ≤ 600 := by omega
  have hRB : RB t X.1 S := hR.1
  have hs : RS X.1 S := hRB.1
  have hP : RP X.2.1.1 pd ln := hR.2.1
  have hH : RH t X.2.2.1.1 X.2.2.1.2.2 bf sts := hR.2.2.1
  have hV : RV t X.2.2.2.1 X.2.2.2.2 iz sv := hR.2.2.2
  have hXO : XOk X := la_ok hR ht6
  have hM : mOk S := hRB.mOk (by omega)
  have h6 := hH.2.1
  have hln := hP.2.1
  have hpd := hP.2.2.2
  have hB := hRB.hB (by omega)
  have hch := hRB.hch
  have hiz : ∀ k, k < 2 → iz k < 2 := fun k hk => (hV k hk).1
  refine lv_aload_n hx hb d_La_law_632 rfl (lv_at hl 2 rfl) ?_
  refine lv_aload_n hx hb d_La_law_633 rfl (lv_at hl 3 rfl) ?_
  refine lv_iload_n hx hb d_La_law_634 rfl (lv_at hl 0 rfl) ?_
  refine lv_iconst (v := nI 1) hx hb d_La_law_635 (by decide +kernel) ?_
  refine g_iadd C0 (z := 4 * t + 1) d_La_law_636 rfl ?_
  refine la_sld C0 hX0 hxs hbl hS (by omega) hL d_La_law_637 ?_
  refine g_V C0 (k_Ga_count l G x X (xs (4 * t + 1)) hXO) co_Ga_count im_Ga_count se_Ga_count in_Ga gc_Ga_count ml_La_81 ⟨Nat.le_of_ble_eq_true rfl, Nat.le_of_ble_eq_true rfl⟩ hK hXA.1 rfl hXA rfl hl.1 rfl (Nat.le_of_ble_eq_true rfl) d_La_law_638 ⟨(by show 270 + 36 * t + 0 ≤ 600000; omega), (by show 8085 + 342 * t + 0 ≤ 7302250; omega)⟩ (g_r rfl ?_)
  have hS1 := hS
  refine lv_aload_n hx hb d_La_law_641 rfl (lv_at hl 1 rfl) ?_
  refine lv_aload_n hx hb d_La_law_642 rfl (lv_at hl 3 rfl) ?_
  refine lv_iload_n hx hb d_La_law_643 rfl (lv_at hl 0 rfl) ?_
  refine lv_iconst (v := nI 1) hx hb d_La_law_644 (by decide +kernel) ?_
  refine g_iadd C0 (z := 4 * t + 1) d_La_law_645 rfl ?_
  refine la_sld C0 hX0 hxs hbl hS1 (by omega) hL d_La_law_646 ?_
  refine g_V C0 (k_Mo_count l G (x + 262) S sp bf sv iz rr pd ln sts td ac (xs (4 * t + 1)) hM) co_Mo_count im_Mo_count se_Mo_count in_Mo gc_Mo_count ml_La_84 ⟨Nat.le_of_ble_eq_true rfl, Nat.le_of_ble_eq_true rfl⟩ hK hMA.1 rfl hMA rfl hl.1 rfl (Nat.le_of_ble_eq_true rfl) d_La_law_647 ⟨(by show 270 + 36 * t + 0 ≤ 600000; omega), (by show 8085 + 342 * t + 0 ≤ 7302250; omega)⟩ (g_r rfl ?_)
  refine lv_icmp_eq (tgt := 931) hx hb d_La_law_650 (by decide) (fun _ => ?_) (fun hne => ?_)
  · refine W.widen (k := 270 + 36 * (t + 1)) (n := 8085 + 342 * (t + 1)) (by omega) (by omega) ?_
    exact kk X (S, sp, bf, sv, iz, rr, pd, ln, sts, td, ac) H locs ⟨hXA, hMA, hsz, hS, hR.mono (Nat.le_succ t)⟩ ls hl
  · exact absurd (a_Count hs hP.1 hH.1 (xs (4 * t + 1))) hne

set_option maxHeartbeats 4000000 in
set_option maxRecDepth 100000 in
theorem la_c17 (l : Launch) (G : gT) (C0 : CallFix p m c code 4 s #[.ref b] lw_g "GaleNamesLaw") (hK : gK G s) (hL : L ≤ 2048) (hX0 : va_X b L xs s s.heap) (hxs : x = s.heap.size) (hbl : b < s.heap.size) (h4 : 4 * t + 4 ≤ L) (hI : laI G s x t X M H locs) (kk : laK l G b x t p e s m below meth c Q) (ls : Array Slot) (hl : lv_has ls 4 [(3, .int (nI (4 * t))), (2, .ref (x + 262)), (1, .ref x), (0, .ref b)]) : W p l e room_1 s m #[.ref b] below meth c H locs (270 + 36 * t) (8085 + 342 * t) Q (F0 m 655 ls []) := by
  have hx := C0.1
  have hb := C0.2.1
  obtain ⟨S, sp, bf, sv, iz, rr, pd, ln, sts, td, ac⟩ := M
  obtain ⟨hXA, hMA, hsz, hS, hR⟩ := hI
  have ht6 : t ≤ 600 := by omega
  have hRB : RB t X.1 S := hR.1
  have hs : RS X.1 S := hRB.1
  have hP : RP X.2.1.1 pd ln := hR.2.1
  have hH : RH t X.2.2.1.1 X.2.2.1.2.2 bf sts := hR.2.2.1
  have hV : RV t X.2.2.2.1 X.2.2.2.2 iz sv := hR.2.2.2
  have hXO : XOk X := la_ok hR ht6
  have hM : mOk S := hRB.mOk (by omega)
  have h6 := hH.2.1
  have hln := hP.2.1
  have hpd := hP.2.2.2
  have hB := hRB.hB (by omega)
  have hch := hRB.hch
  have hiz : ∀ k, k < 2 → iz k < 2 := fun k hk => (hV k hk).1
  refine lv_aload_n hx hb d_La_law_655 rfl (lv_at hl 2 rfl) ?_
  refine g_V C0 (k_Ga_find l G x X  hXO) co_Ga_find im_Ga_find se_Ga_find in_Ga gc_Ga_find ml_La_85 ⟨Nat.le_of_ble_eq_true rfl, Nat.le_of_ble_eq_true rfl⟩ hK hXA.1 rfl hXA rfl hl.1 rfl (Nat.le_of_ble_eq_true rfl) d_La_law_656 ⟨(by show 270 + 36 * t + 0 ≤ 600000; omega), (by show 8085 + 342 * t + 0 ≤ 7302250; omega)⟩ (g_wi (free := fun q => x ≤ q) hS.2.2 (fun q h => h.1) (fun H1 locs1 hL1 ⟨hX1, hf1⟩ => ?_))
  have hS1 : va_S (fun q => x ≤ q) s.heap H1 locs1 := la_S hxs hS hf1 (Nat.le_refl _) hL1
  have hMA1 := hMA.fr hf1 (Or.inr (Nat.le_refl _))
  refine lv_aload_n hx hb d_La_law_659 rfl (lv_at hl 1 rfl) ?_
  refine g_V C0 (k_Mo_find l G (x + 262) S sp bf sv iz rr pd ln sts td ac  hln hpd hM) co_Mo_find im_Mo_find se_Mo_find in_Mo gc_Mo_find ml_La_88 ⟨Nat.le_of_ble_eq_true rfl, Nat.le_of_ble_eq_true rfl⟩ hK hMA1.1 rfl hMA1 rfl hl.1 rfl (Nat.le_of_ble_eq_true rfl) d_La_law_660 ⟨(by show 270 + 36 * t + 0 ≤ 600000; omega), (by show 8085 + 342 * t + 0 ≤ 7302250; omega)⟩ (g_wi (free := fun q => x ≤ q) hL1 (fun q h => (by have h2 := h.1; show x ≤ q; omega)) (fun H2 locs2 hL2 ⟨hM2, hf2⟩ => ?_))
  refine lv_icmp_eq (tgt := 931) hx hb d_La_law_663 (by decide) (fun _ => ?_) (fun hne => ?_)
  · refine W.widen (k := 270 + 36 * (t + 1)) (n := 8085 + 342 * (t + 1)) (by omega) (by omega) ?_
    have hRA := tz_find hR 
    exact kk _ _ H2 locs2 ⟨hX1.fr2 hf2, hM2, (by rw [hf2.1, hf1.1]; exact hsz), la_S hxs hS1 hf2 (by omega) hL2, hRA.2⟩ ls hl
  · exact absurd (tz_find hR ).1 hne

set_option maxHeartbeats 4000000 in
set_option maxRecDepth 100000 in
theorem la_c18 (l : Launch) (G : gT) (C0 : CallFix p m c code 4 s #[.ref b] lw_g "GaleNamesLaw") (hK : gK G s) (hL : L ≤ 2048) (hX0 : va_X b L xs s s.heap) (hxs : x = s.heap.size) (hbl : b < s.heap.size) (h4 : 4 * t + 4 ≤ L) (hI : laI G s x t X M H locs) (kk : laK l G b x t p e s m below meth c Q) (ls : Array Slot) (hl : lv_has ls 4 [(3, .int (nI (4 * t))), (2, .ref (x + 262)), (1, .ref x), (0, .ref b)]) : W p l e room_1 s m #[.ref b] below meth c H locs (270 + 36 * t) (8085 + 342 * t) Q (F0 m 668 ls []) := by
  have hx := C0.1
  have hb := C0.2.1
  obtain ⟨S, sp, bf, sv, iz, rr, pd, ln, sts, td, ac⟩ := M
  obtain ⟨hXA, hMA, hsz, hS, hR⟩ := hI
  have ht6 : t ≤ 600 := by omega
  have hRB : RB t X.1 S := hR.1
  have hs : RS X.1 S := hRB.1
  have hP : RP X.2.1.1 pd ln := hR.2.1
  have hH : RH t X.2.2.1.1 X.2.2.1.2.2 bf sts := hR.2.2.1
  have hV : RV t X.2.2.2.1 X.2.2.2.2 iz sv := hR.2.2.2
  have hXO : XOk X := la_ok hR ht6
  have hM : mOk S := hRB.mOk (by omega)
  have h6 := hH.2.1
  have hln := hP.2.1
  have hpd := hP.2.2.2
  have hB := hRB.hB (by omega)
  have hch := hRB.hch
  have hiz : ∀ k, k < 2 → iz k < 2 := fun k hk => (hV k hk).1
  refine lv_aload_n hx hb d_La_law_668 rfl (lv_at hl 2 rfl) ?_
  refine g_V C0 (k_Ga_beginning l G x X  hXO) co_Ga_beginning im_Ga_beginning se_Ga_beginning in_Ga gc_Ga_beginning ml_La_89 ⟨Nat.le_of_ble_eq_true rfl, Nat.le_of_ble_eq_true rfl⟩ hK hXA.1 rfl hXA rfl hl.1 rfl (Nat.le_of_ble_eq_true rfl) d_La_law_669 ⟨(by show 270 + 36 * t + 0 ≤ 600000; omega), (by show 8085 + 342 * t + 0 ≤ 7302250; omega)⟩ (g_wi (free := fun q => x ≤ q) hS.2.2 (fun q h => h.1) (fun H1 locs1 hL1 ⟨hX1, hf1⟩ => ?_))
  have hS1 : va_S (fun q => x ≤ q) s.heap H1 locs1 := la_S hxs hS hf1 (Nat.le_refl _) hL1
  have hMA1 := hMA.fr hf1 (Or.inr (Nat.le_refl _))
  refine lv_aload_n hx hb d_La_law_672 rfl (lv_at hl 1 rfl) ?_
  refine g_V C0 (k_Mo_beginning l G (x + 262) S sp bf sv iz rr pd ln sts td ac  hln hpd hM) co_Mo_beginning im_Mo_beginning se_Mo_beginning in_Mo gc_Mo_beginning ml_La_92 ⟨Nat.le_of_ble_eq_true rfl, Nat.le_of_ble_eq_true rfl⟩ hK hMA1.1 rfl hMA1 rfl hl.1 rfl (Nat.le_of_ble_eq_true rfl) d_La_law_673 ⟨(by show 270 + 36 * t + 0 ≤ 600000; omega), (by show 8085 + 342 * t + 0 ≤ 7302250; omega)⟩ (g_wi (free := fun q => x ≤ q) hL1 (fun q h => (by have h2 := h.1; show x ≤ q; omega)) (fun H2 locs2 hL2 ⟨hM2, hf2⟩ => ?_))
  refine lv_icmp_eq (tgt := 931) hx hb d_La_law_676 (by decide) (fun _ => ?_) (fun hne => ?_)
  · refine W.widen (k := 270 + 36 * (t + 1)) (n := 8085 + 342 * (t + 1)) (by omega) (by omega) ?_
    have hRA := tz_beg hR 
    exact kk _ _ H2 locs2 ⟨hX1.fr2 hf2, hM2, (by rw [hf2.1, hf1.1]; exact hsz), la_S hxs hS1 hf2 (by omega) hL2, hRA.2⟩ ls hl
  · exact absurd (tz_beg hR ).1 hne

set_option maxHeartbeats 4000000 in
set_option maxRecDepth 100000 in
theorem la_c19 (l : Launch) (G : gT) (C0 : CallFix p m c code 4 s #[.ref b] lw_g "GaleNamesLaw") (hK : gK G s) (hL : L ≤ 2048) (hX0 : va_X b L xs s s.heap) (hxs : x = s.heap.size) (hbl : b < s.heap.size) (h4 : 4 * t + 4 ≤ L) (hI : laI G s x t X M H locs) (kk : laK l G b x t p e s m below meth c Q) (ls : Array Slot) (hl : lv_has ls 4 [(3, .int (nI (4 * t))), (2, .ref (x + 262)), (1, .ref x), (0, .ref b)]) : W p l e room_1 s m #[.ref b] below meth c H locs (270 + 36 * t) (8085 + 342 * t) Q (F0 m 681 ls []) := by
  have hx := C0.1
  have hb := C0.2.1
  obtain ⟨S, sp, bf, sv, iz, rr, pd, ln, sts, td, ac⟩ := M
  obtain ⟨hXA, hMA, hsz, hS, hR⟩ := hI
  have ht6 : t ≤ 600 := by omega
  have hRB : RB t X.1 S := hR.1
  have hs : RS X.1 S := hRB.1
  have hP : RP X.2.1.1 pd ln := hR.2.1
  have hH : RH t X.2.2.1.1 X.2.2.1.2.2 bf sts := hR.2.2.1
  have hV : RV t X.2.2.2.1 X.2.2.2.2 iz sv := hR.2.2.2
  have hXO : XOk X := la_ok hR ht6
  have hM : mOk S := hRB.mOk (by omega)
  have h6 := hH.2.1
  have hln := hP.2.1
  have hpd := hP.2.2.2
  have hB := hRB.hB (by omega)
  have hch := hRB.hch
  have hiz : ∀ k, k < 2 → iz k < 2 := fun k hk => (hV k hk).1
  refine lv_aload_n hx hb d_La_law_681 rfl (lv_at hl 2 rfl) ?_
  refine lv_aload_n hx hb d_La_law_682 rfl (lv_at hl 3 rfl) ?_
  refine lv_iload_n hx hb d_La_law_683 rfl (lv_at hl 0 rfl) ?_
  refine lv_iconst (v := nI 1) hx hb d_La_law_684 (by decide +kernel) ?_
  refine g_iadd C0 (z := 4 * t + 1) d_La_law_685 rfl ?_
  refine la_sld C0 hX0 hxs hbl hS (by omega) hL d_La_law_686 ?_
  refine g_V C0 (k_Ga_next l G x X (xs (4 * t + 1)) hXO) co_Ga_next im_Ga_next se_Ga_next in_Ga gc_Ga_next ml_La_93 ⟨Nat.le_of_ble_eq_true rfl, Nat.le_of_ble_eq_true rfl⟩ hK hXA.1 rfl hXA rfl hl.1 rfl (Nat.le_of_ble_eq_true rfl) d_La_law_687 ⟨(by show 270 + 36 * t + 0 ≤ 600000; omega), (by show 8085 + 342 * t + 0 ≤ 7302250; omega)⟩ (g_r rfl ?_)
  have hS1 := hS
  refine lv_aload_n hx hb d_La_law_690 rfl (lv_at hl 1 rfl) ?_
  refine lv_aload_n hx hb d_La_law_691 rfl (lv_at hl 3 rfl) ?_
  refine lv_iload_n hx hb d_La_law_692 rfl (lv_at hl 0 rfl) ?_
  refine lv_iconst (v := nI 1) hx hb d_La_law_693 (by decide +kernel) ?_
  refine g_iadd C0 (z := 4 * t + 1) d_La_law_694 rfl ?_
  refine la_sld C0 hX0 hxs hbl hS1 (by omega) hL d_La_law_695 ?_
  refine g_V C0 (k_Mo_next l G (x + 262) S sp bf sv iz rr pd ln sts td ac (xs (4 * t + 1)) hM) co_Mo_next im_Mo_next se_Mo_next in_Mo gc_Mo_next ml_La_96 ⟨Nat.le_of_ble_eq_true rfl, Nat.le_of_ble_eq_true rfl⟩ hK hMA.1 rfl hMA rfl hl.1 rfl (Nat.le_of_ble_eq_true rfl) d_La_law_696 ⟨(by show 270 + 36 * t + 0 ≤ 600000; omega), (by show 8085 + 342 * t + 0 ≤ 7302250; omega)⟩ (g_r rfl ?_)
  refine lv_icmp_eq (tgt := 931) hx hb d_La_law_699 (by decide) (fun _ => ?_) (fun hne => ?_)
  · refine W.widen (k := 270 + 36 * (t + 1)) (n := 8085 + 342 * (t + 1)) (by omega) (by omega) ?_
    exact kk X (S, sp, bf, sv, iz, rr, pd, ln, sts, td, ac) H locs ⟨hXA, hMA, hsz, hS, hR.mono (Nat.le_succ t)⟩ ls hl
  · exact absurd (a_Next hs (xs (4 * t + 1))) hne
end
