/-! the law's start and its loop -/
theorem la_nw {w : Cond} (h : nestW w = true) {a : Array Value} {s : State} (hw : w.before a s = true) : va_Nw w s := by
  cases w <;> first | exact va_Nw.of rfl hw | exact absurd h (by simp [nestW])
theorem la_K {s : State} {a : Array Value} (hts : ∀ w ∈ lw_tbl, w.before a s = true) : ∃ G : gT, gK G s := by
  have htg : ∀ w ∈ lw_g, w.before a s = true := fun w h => hts w (List.mem_filter.mp h).1
  obtain ⟨c0, i0, k0⟩ := u_known (C := R_Hi) (T := F_Hi) (N := 2) (n := 2) htg il_Hi (htg _ is_Hi)
  obtain ⟨c1, i1, k1⟩ := u_known (C := R_Pa) (T := F_Pa) (N := 2) (n := 2) htg il_Pa (htg _ is_Pa)
  obtain ⟨c2, i2, k2⟩ := u_known (C := R_Ro) (T := F_Ro) (N := 2) (n := 2) htg il_Ro (htg _ is_Ro)
  obtain ⟨c3, i3, k3⟩ := u_known (C := R_Sl) (T := F_Sl) (N := 1) (n := 1) htg il_Sl (htg _ is_Sl)
  obtain ⟨c4, i4, k4⟩ := u_known (C := R_St) (T := F_St) (N := 13) (n := 13) htg il_St (htg _ is_St)
  obtain ⟨c5, i5, k5⟩ := u_known (C := R_Ga) (T := F_Ga) (N := 4) (n := 4) htg il_Ga (htg _ is_Ga)
  obtain ⟨c6, i6, k6⟩ := u_known (C := R_Mo) (T := F_Mo) (N := 11) (n := 11) htg il_Mo (htg _ is_Mo)
  obtain ⟨a0, kA0, cp0, a01, a02, a03⟩ := Cond.arrayClass_spec (htg _ ac_int)
  obtain ⟨a1, kA1, cp1, a11, a12, a13⟩ := Cond.arrayClass_spec (htg _ ac_char)
  obtain ⟨a2, kA2, cp2, a21, a22, a23⟩ := Cond.arrayClass_spec (htg _ ac_boolean)
  have hRo := hts _ ao_object_GaleNames_Row
  have hSt := hts _ ao_object_GaleNames_State
  obtain ⟨cp3, a3, kA3, a31, -, a33, a34, a35⟩ := Cond.arrayOver_spec hRo
  obtain ⟨cp4, a4, kA4, a41, -, a43, a44, a45⟩ := Cond.arrayOver_spec hSt
  refine ⟨((fun k => if k = 0 then c0 else if k = 1 then c1 else if k = 2 then c2 else if k = 3 then c3 else if k = 4 then c4 else if k = 5 then c5 else c6, fun k => if k = 0 then i0 else if k = 1 then i1 else if k = 2 then i2 else if k = 3 then i3 else if k = 4 then i4 else if k = 5 then i5 else i6), (a0, a1, a2, a3, a4)), ⟨fun k q hq => ?_, fun k q hq => ?_⟩, fun w hw => la_nw (List.mem_filter.mp hw).2 (hts w (List.mem_filter.mp hw).1), va_AO.of hRo, va_AO.of hSt⟩
  · match k, hq with
    | 0, hq => cases hq; exact k0
    | 1, hq => cases hq; exact k1
    | 2, hq => cases hq; exact k2
    | 3, hq => cases hq; exact k3
    | 4, hq => cases hq; exact k4
    | 5, hq => cases hq; exact k5
    | 6, hq => cases hq; exact k6
    | k + 7, hq => simp [vwCl] at hq
  · match k, hq with
    | 0, hq => cases hq; exact ⟨fun n z => ⟨(fun k h => by cases h), kA0, a02, cp0, a03⟩, a01⟩
    | 1, hq => cases hq; exact ⟨fun n z => ⟨(fun k h => by cases h), kA1, a12, cp1, a13⟩, a11⟩
    | 2, hq => cases hq; exact ⟨fun n z => ⟨(fun k h => by cases h), kA2, a22, cp2, a23⟩, a21⟩
    | 3, hq => cases hq; exact ⟨fun n z => ⟨(fun k h => by cases h), kA3, a33, cp3, a34⟩, kA3, cp3, a33, a34, a31, a35⟩
    | 4, hq => cases hq; exact ⟨fun n z => ⟨(fun k h => by cases h), kA4, a43, cp4, a44⟩, kA4, cp4, a43, a44, a41, a45⟩
    | k + 5, hq => simp at hq
/-- new ones are alike -/
theorem RS_0 : RS inS mS0 := by
  have e : ∀ k, k ≠ 0 → inS.2 k = (0, fun _ => 0) := fun k hk => if_neg hk
  have m : ∀ k, 3 ≤ k → mS0 k = 0 := fun k hk => by
    unfold mS0
    rw [vuN (by omega), vuN (by omega), vuN (by omega)]
  have m4 := m 4 (by decide)
  have m5 := m 5 (by decide)
  have m7 := m 7 (by decide)
  refine ⟨⟨(m 3 (by decide)).symm, by rw [m 3 (by decide)]; decide⟩, ⟨rfl, fun i hi => ?_⟩, ⟨by rw [m4]; decide, fun k k1 k2 => by rw [m4, e k (by omega)], fun n hn => ?_, fun a b ha => ?_⟩, fun a ha => ?_, ⟨by rw [m5]; decide, fun k k1 k2 => by rw [m5, e k (by omega)], fun g hg => ?_, fun g h hg => ?_⟩, ⟨by rw [m7]; decide, fun k k1 k2 => by rw [m7, e k (by omega)], fun g hg => ?_⟩, ⟨by rw [m 6 (by decide), m4]; rfl, by rw [m 8 (by decide), m7]; rfl⟩⟩
  · rcases (show i = 0 ∨ i = 1 ∨ i = 2 by omega) with rfl | rfl | rfl
    · rfl
    · rfl
    · rfl
  · rw [m4] at hn; exact absurd hn (Nat.not_lt_zero n)
  · rw [m4] at ha; exact absurd ha (Nat.not_lt_zero a)
  · have hq := m (409 + 9 * a) (by omega)
    rw [hq, e (5 + a) (by omega)]
    exact ⟨rfl, by decide, fun j hj => absurd hj (Nat.not_lt_zero j), fun i j hi => absurd hi (Nat.not_lt_zero i)⟩
  · rw [m5] at hg; exact absurd hg (Nat.not_lt_zero g)
  · rw [m5] at hg; exact absurd hg (Nat.not_lt_zero g)
  · rw [m7] at hg; exact absurd hg (Nat.not_lt_zero g)
theorem RX_0 : RX 0 inX inM := by
  refine ⟨⟨RS_0, fun k hk => ?_⟩, ⟨rfl, by decide, fun k hk => absurd hk (Nat.not_lt_zero k), fun k hk => by show 0 < _; decide⟩, ⟨rfl, by decide, fun j hj => absurd hj (Nat.not_lt_zero j)⟩, fun i hi => ⟨by show 0 < 2; decide, ⟨fun _ => rfl, fun _ => rfl⟩, fun q => absurd rfl q⟩⟩
  show mS0 k ≤ 200 + 50 * 0
  unfold mS0 va_up
  split
  · decide
  · split
    · decide
    · split
      · decide
      · exact Nat.zero_le _
theorem la_gt {i L : Nat} (hi : i < 2 ^ 30) (hL : L < 2 ^ 30) (h : ¬ nI L - nI 4 < nI i) : i + 4 ≤ L := by
  rcases Nat.lt_or_ge L 4 with q | q
  · exfalso
    apply h
    rw [Int32.lt_iff_toInt_lt, nI_toInt (by omega)]
    have : ∀ z : Nat, z < 4 → (nI z - nI 4).toInt < 0 := by decide +kernel
    have := this L q
    omega
  · rw [gI_sub q, nI_lti (by omega) (by omega)] at h
    omega
set_option maxHeartbeats 4000000 in
set_option maxRecDepth 100000 in
theorem la_loop {p : Program} {e : Env} {s : State} {m : MethodId} {below : List Frame} {meth : Method} {c : Code} {b L x : Nat} {xs : Nat → Int32} (l : Launch) (G : gT) (C0 : CallFix p m c code 4 s #[.ref b] lw_g "GaleNamesLaw") (hr : meth.sig.returnType = ret) (hlocks : meth.locks = false) (hK : gK G s) (hL : L ≤ 2048) (hX0 : va_X b L xs s s.heap) (hxs : x = s.heap.size) (hbl : b < s.heap.size) :
    ∀ (fu t : Nat) (X : XS) (M : MS) (H : Heap) (locs : List Loc), L + 4 - 4 * t < fu → 4 * t ≤ L → laI G s x t X M H locs → ∀ ls : Array Slot, lv_has ls 4 [(3, .int (nI (4 * t))), (2, .ref (x + 262)), (1, .ref x), (0, .ref b)] → W p l e room_1 s m #[.ref b] below meth c H locs (270 + 36 * t) (8085 + 342 * t) (lw_Z below #[.ref b] s) (F0 m 18 ls []) := by
  have hx := C0.1
  have hb := C0.2.1
  intro fu
  induction fu with
  | zero => intro t X M H locs hfu; exact absurd hfu (Nat.not_lt_zero _)
  | succ fu ih =>
    intro t X M H locs hfu h4t hI ls hl
    have hS := hI.2.2.2.1
    refine lv_iload_n hx hb d_La_law_18 rfl (lv_at hl 0 rfl) ?_
    refine lv_aload_n hx hb d_La_law_19 rfl (lv_at hl 3 rfl) ?_
    refine va_slen hx hb hX0 hbl (show ¬ x ≤ b by omega) hS d_La_law_20 ?_
    refine lv_iconst (v := nI 4) hx hb d_La_law_21 (by decide +kernel) ?_
    refine lv_isub hx hb d_La_law_22 ?_
    refine lv_icmp_gt (tgt := 937) hx hb d_La_law_23 (by decide) (fun _ => ?_) (fun hc => ?_)
    · refine lv_iconst (v := 1) hx hb d_La_law_937 (by decide +kernel) ?_
      refine va_forget (fun q hq => by rw [← hxs]; exact hS.2.2 q hq) ?_
      refine W.widen (k := 600000) (n := 7302250) (by omega) (by omega) ?_
      exact lw_ret hx hb hr hlocks d_La_law_938
    · have h4 : 4 * t + 4 ≤ L := la_gt (by omega) (by omega) hc
      have kk : laK l G b x t p e s m below meth c (lw_Z below #[.ref b] s) := fun X' M' H' locs' hI' ls hl => by
        refine lv_iinc (v := nI (4 * (t + 1))) (lv' := [(3, .int (nI (4 * (t + 1)))), (2, .ref (x + 262)), (1, .ref x), (0, .ref b)]) hx hb d_La_law_931 hl (k := 0) rfl (by rw [show Int32.ofInt 4 = nI 4 by decide +kernel]; exact gI_add _ _) (by decide) rfl (fun ls hl => ?_)
        refine lv_goto (tgt := 18) hx hb d_La_law_934 (by decide) ?_
        exact ih (t + 1) X' M' H' locs' (by omega) (by omega) hI' ls hl
      refine lv_aload_n hx hb d_La_law_26 rfl (lv_at hl 3 rfl) ?_
      refine lv_iload_n hx hb d_La_law_27 rfl (lv_at hl 0 rfl) ?_
      refine la_sld C0 hX0 hxs hbl hS (by omega) hL d_La_law_28 ?_
      refine lv_bipush (v := nI 31) hx hb d_La_law_29 (by decide +kernel) ?_
      refine lv_iand hx hb d_La_law_31 ?_
      rcases inR_or (xs (4 * t) &&& nI 31) 29 with ht | ⟨it, hit, hit31, het⟩
      · refine lv_tableOut (tgt := 931) hx hb d_La_law_32 (inR_out ht (by decide)) (by decide) ?_
        refine W.widen (k := 270 + 36 * (t + 1)) (n := 8085 + 342 * (t + 1)) (by omega) (by omega) ?_
        exact kk X M H locs ⟨hI.1, hI.2.1, hI.2.2.1, hS, hI.2.2.2.2.mono (Nat.le_succ t)⟩ ls hl
      · rw [het]
        match it, hit with
        | 0, _ =>
          refine lv_tableIn (tgt := 164) hx hb d_La_law_32 (by decide +kernel) (by decide +kernel) (show _ = some _ from rfl) (by decide +kernel) ?_
          exact la_c0 l G C0 hK hL hX0 hxs hbl h4 hI kk ls hl
        | 1, _ =>
          refine lv_tableIn (tgt := 197) hx hb d_La_law_32 (by decide +kernel) (by decide +kernel) (show _ = some _ from rfl) (by decide +kernel) ?_
          exact la_c1 l G C0 hK hL hX0 hxs hbl h4 hI kk ls hl
        | 2, _ =>
          refine lv_tableIn (tgt := 230) hx hb d_La_law_32 (by decide +kernel) (by decide +kernel) (show _ = some _ from rfl) (by decide +kernel) ?_
          exact la_c2 l G C0 hK hL hX0 hxs hbl h4 hI kk ls hl
        | 3, _ =>
          refine lv_tableIn (tgt := 273) hx hb d_La_law_32 (by decide +kernel) (by decide +kernel) (show _ = some _ from rfl) (by decide +kernel) ?_
          exact la_c3 l G C0 hK hL hX0 hxs hbl h4 hI kk ls hl
        | 4, _ =>
          refine lv_tableIn (tgt := 296) hx hb d_La_law_32 (by decide +kernel) (by decide +kernel) (show _ = some _ from rfl) (by decide +kernel) ?_
          exact la_c4 l G C0 hK hL hX0 hxs hbl h4 hI kk ls hl
        | 5, _ =>
          refine lv_tableIn (tgt := 329) hx hb d_La_law_32 (by decide +kernel) (by decide +kernel) (show _ = some _ from rfl) (by decide +kernel) ?_
          exact la_c5 l G C0 hK hL hX0 hxs hbl h4 hI kk ls hl
        | 6, _ =>
          refine lv_tableIn (tgt := 342) hx hb d_La_law_32 (by decide +kernel) (by decide +kernel) (show _ = some _ from rfl) (by decide +kernel) ?_
          exact la_c6 l G C0 hK hL hX0 hxs hbl h4 hI kk ls hl
        | 7, _ =>
          refine lv_tableIn (tgt := 355) hx hb d_La_law_32 (by decide +kernel) (by decide +kernel) (show _ = some _ from rfl) (by decide +kernel) ?_
          exact la_c7 l G C0 hK hL hX0 hxs hbl h4 hI kk ls hl
        | 8, _ =>
          refine lv_tableIn (tgt := 378) hx hb d_La_law_32 (by decide +kernel) (by decide +kernel) (show _ = some _ from rfl) (by decide +kernel) ?_
          exact la_c8 l G C0 hK hL hX0 hxs hbl h4 hI kk ls hl
        | 9, _ =>
          refine lv_tableIn (tgt := 411) hx hb d_La_law_32 (by decide +kernel) (by decide +kernel) (show _ = some _ from rfl) (by decide +kernel) ?_
          exact la_c9 l G C0 hK hL hX0 hxs hbl h4 hI kk ls hl
        | 10, _ =>
          refine lv_tableIn (tgt := 444) hx hb d_La_law_32 (by decide +kernel) (by decide +kernel) (show _ = some _ from rfl) (by decide +kernel) ?_
          exact la_c10 l G C0 hK hL hX0 hxs hbl h4 hI kk ls hl
        | 11, _ =>
          refine lv_tableIn (tgt := 477) hx hb d_La_law_32 (by decide +kernel) (by decide +kernel) (show _ = some _ from rfl) (by decide +kernel) ?_
          exact la_c11 l G C0 hK hL hX0 hxs hbl h4 hI kk ls hl
        | 12, _ =>
          refine lv_tableIn (tgt := 520) hx hb d_La_law_32 (by decide +kernel) (by decide +kernel) (show _ = some _ from rfl) (by decide +kernel) ?_
          exact la_c12 l G C0 hK hL hX0 hxs hbl h4 hI kk ls hl
        | 13, _ =>
          refine lv_tableIn (tgt := 553) hx hb d_La_law_32 (by decide +kernel) (by decide +kernel) (show _ = some _ from rfl) (by decide +kernel) ?_
          exact la_c13 l G C0 hK hL hX0 hxs hbl h4 hI kk ls hl
        | 14, _ =>
          refine lv_tableIn (tgt := 586) hx hb d_La_law_32 (by decide +kernel) (by decide +kernel) (show _ = some _ from rfl) (by decide +kernel) ?_
          exact la_c14 l G C0 hK hL hX0 hxs hbl h4 hI kk ls hl
        | 15, _ =>
          refine lv_tableIn (tgt := 609) hx hb d_La_law_32 (by decide +kernel) (by decide +kernel) (show _ = some _ from rfl) (by decide +kernel) ?_
          exact la_c15 l G C0 hK hL hX0 hxs hbl h4 hI kk ls hl
        | 16, _ =>
          refine lv_tableIn (tgt := 632) hx hb d_La_law_32 (by decide +kernel) (by decide +kernel) (show _ = some _ from rfl) (by decide +kernel) ?_
          exact la_c16 l G C0 hK hL hX0 hxs hbl h4 hI kk ls hl
        | 17, _ =>
          refine lv_tableIn (tgt := 655) hx hb d_La_law_32 (by decide +kernel) (by decide +kernel) (show _ = some _ from rfl) (by decide +kernel) ?_
          exact la_c17 l G C0 hK hL hX0 hxs hbl h4 hI kk ls hl
        | 18, _ =>
          refine lv_tableIn (tgt := 668) hx hb d_La_law_32 (by decide +kernel) (by decide +kernel) (show _ = some _ from rfl) (by decide +kernel) ?_
          exact la_c18 l G C0 hK hL hX0 hxs hbl h4 hI kk ls hl
        | 19, _ =>
          refine lv_tableIn (tgt := 681) hx hb d_La_law_32 (by decide +kernel) (by decide +kernel) (show _ = some _ from rfl) (by decide +kernel) ?_
          exact la_c19 l G C0 hK hL hX0 hxs hbl h4 hI kk ls hl
        | 20, _ =>
          refine lv_tableIn (tgt := 704) hx hb d_La_law_32 (by decide +kernel) (by decide +kernel) (show _ = some _ from rfl) (by decide +kernel) ?_
          exact la_c20 l G C0 hK hL hX0 hxs hbl h4 hI kk ls hl
        | 21, _ =>
          refine lv_tableIn (tgt := 737) hx hb d_La_law_32 (by decide +kernel) (by decide +kernel) (show _ = some _ from rfl) (by decide +kernel) ?_
          exact la_c21 l G C0 hK hL hX0 hxs hbl h4 hI kk ls hl
        | 22, _ =>
          refine lv_tableIn (tgt := 760) hx hb d_La_law_32 (by decide +kernel) (by decide +kernel) (show _ = some _ from rfl) (by decide +kernel) ?_
          exact la_c22 l G C0 hK hL hX0 hxs hbl h4 hI kk ls hl
        | 23, _ =>
          refine lv_tableIn (tgt := 793) hx hb d_La_law_32 (by decide +kernel) (by decide +kernel) (show _ = some _ from rfl) (by decide +kernel) ?_
          exact la_c23 l G C0 hK hL hX0 hxs hbl h4 hI kk ls hl
        | 24, _ =>
          refine lv_tableIn (tgt := 846) hx hb d_La_law_32 (by decide +kernel) (by decide +kernel) (show _ = some _ from rfl) (by decide +kernel) ?_
          exact la_c24 l G C0 hK hL hX0 hxs hbl h4 hI kk ls hl
        | 25, _ =>
          refine lv_tableIn (tgt := 859) hx hb d_La_law_32 (by decide +kernel) (by decide +kernel) (show _ = some _ from rfl) (by decide +kernel) ?_
          exact la_c25 l G C0 hK hL hX0 hxs hbl h4 hI kk ls hl
        | 26, _ =>
          refine lv_tableIn (tgt := 872) hx hb d_La_law_32 (by decide +kernel) (by decide +kernel) (show _ = some _ from rfl) (by decide +kernel) ?_
          exact la_c26 l G C0 hK hL hX0 hxs hbl h4 hI kk ls hl
        | 27, _ =>
          refine lv_tableIn (tgt := 885) hx hb d_La_law_32 (by decide +kernel) (by decide +kernel) (show _ = some _ from rfl) (by decide +kernel) ?_
          exact la_c27 l G C0 hK hL hX0 hxs hbl h4 hI kk ls hl
        | 28, _ =>
          refine lv_tableIn (tgt := 908) hx hb d_La_law_32 (by decide +kernel) (by decide +kernel) (show _ = some _ from rfl) (by decide +kernel) ?_
          exact la_c28 l G C0 hK hL hX0 hxs hbl h4 hI kk ls hl
        | it + 29, hit => omega
