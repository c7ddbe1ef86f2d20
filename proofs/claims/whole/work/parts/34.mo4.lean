/-! one name more; one off a list -/
theorem vu_s {f : Nat → Nat} {i v : Nat} : va_up f i v i = v := if_pos rfl
theorem vu_n {f : Nat → Nat} {i v k : Nat} (h : k ≠ i) : va_up f i v k = f k := if_neg h
theorem ovo_lt {f g : Nat → Nat} {a i k : Nat} (h : k < a) : ovo f g a i k = g k := if_neg (by omega)
theorem ovo_ge {f g : Nat → Nat} {a i k : Nat} (h : a + i ≤ k) : ovo f g a i k = g k := if_neg (by omega)
theorem ovo_in {f g : Nat → Nat} {a i k : Nat} (h : k < i) : ovo f g a i (a + k) = f k := by
  unfold ovo; rw [if_pos (by omega), Nat.add_sub_cancel_left]
def lS (S rr pd : Nat → Nat) (w : Nat) : Nat → Nat := va_up (ovo (fun x => pd (rr (2 * w) + x)) (va_up (ovo (fun _ => 0) S (9 + 10 * S 4) 10) (9 + 10 * S 4) (rr (2 * w + 1))) (9 + 10 * S 4 + 1) (rr (2 * w + 1))) 4 (S 4 + 1)
def mLv (S rr pd : Nat → Nat) (w : Nat) : Int32 := if mKn S rr pd w = none then nI (S 4) else oI (-6) (mKn S rr pd w)
def mLS (S rr pd : Nat → Nat) (w : Nat) : Nat → Nat := if mKn S rr pd w = none then lS S rr pd w else S
def tkJ (S : Nat → Nat) (q p j : Nat) : Nat → Nat := fun x => if q + 1 + p ≤ x ∧ x < q + 1 + j then S (x + 1) else S x
theorem tkJ_0 (S : Nat → Nat) (q p : Nat) : tkJ S q p p = S := by funext x; unfold tkJ; rw [if_neg (by omega)]
theorem tkJ_s {S : Nat → Nat} {q p j : Nat} (h : p ≤ j) : va_up (tkJ S q p j) (q + 1 + j) (tkJ S q p j (q + 2 + j)) = tkJ S q p (j + 1) := by
  funext x; unfold va_up tkJ
  by_cases e : x = q + 1 + j
  · subst e; rw [if_pos rfl, if_neg (by omega), if_pos (by omega), show q + 1 + j + 1 = q + 2 + j by omega]
  · rw [if_neg e]
    by_cases h2 : q + 1 + p ≤ x ∧ x < q + 1 + j
    · rw [if_pos h2, if_pos (by omega)]
    · rw [if_neg h2, if_neg (by omega)]
theorem tkJ_q {S : Nat → Nat} {q p j : Nat} : tkJ S q p j q = S q := by unfold tkJ; rw [if_neg (by omega)]
def tkF (S : Nat → Nat) (q p : Nat) : Nat → Nat := va_up (tkJ S q p (S q - 1)) q (S q - 1)

set_option maxHeartbeats 4000000 in
set_option maxRecDepth 100000 in
theorem k_Mo_putBack (l : Launch) (G : gT) (o : Nat) (S sp bf sv iz rr pd : Nat → Nat) (ln sts td ac : Nat)  : gM l y_Mo_putBack c_Mo_putBack 2 none 0 0 0 0 G [.ref o] (fun H => MAt G o S sp bf sv iz rr pd ln sts td ac H) (wv (fun H H1 => MAt G o (ovr sp S 541) sp bf sv iz rr pd ln sts td ac H1 ∧ gFr o (o + 8) H H1)) (gRg o (o + 8)) := by
  refine g_enter "GaleNamesModel" (by decide +kernel) rfl (Nat.le_of_ble_eq_true rfl) ?_
  intro p e s m args below meth c C0 hlk hr hnm hP hK ls hl
  have hx := C0.1
  have hb := C0.2.1
  have hl : lv_has ls 2 [(0, .ref o)] := hl
  refine lv_iconst (v := nI 0) hx hb d_Mo_putBack_0 (by decide +kernel) ?_
  refine lv_istore_n (lv' := [(1, .int (nI 0)), (0, .ref o)]) hx hb d_Mo_putBack_1 rfl hl (by decide) rfl (fun ls hl => ?_)
  have lp2 : ∀ (fu : Nat) (i : Nat) (H : Heap) (locs : List Loc), (541 - i) < fu → i ≤ 541 → (∀ qq ∈ locs, (gRg o (o + 8)) qq.base) → MAt G o (ovr sp S i) sp bf sv iz rr pd ln sts td ac H → gFr o (o + 8) s.heap H → ∀ ls : Array Slot, lv_has ls 2 [(1, .int (nI i)), (0, .ref o)] → W p l e ({ frames := 0, cells := 0, slots := 0, locals := 0 } : Room) s m args below meth c H locs 0 0 (MQ below (gQ (wv (fun H H1 => MAt G o (ovr sp S 541) sp bf sv iz rr pd ln sts td ac H1 ∧ gFr o (o + 8) H H1))) args s 0 0 (gRg o (o + 8))) (F0 m 2 ls []) := by
    intro fu
    induction fu with
    | zero => intro i H locs hfu; exact absurd hfu (Nat.not_lt_zero _)
    | succ fu ih2 =>
      intro i H locs hfu hi hL hP hF ls hl
      refine lv_iload_n hx hb d_Mo_putBack_2 rfl (lv_at hl 0 rfl) ?_
      refine lv_sipush (v := nI 541) hx hb d_Mo_putBack_3 (by decide +kernel) ?_
      refine g_cge (tgt := 27) C0 d_Mo_putBack_6 (by decide) (by first | omega | exact hM.b (by omega) | exact hR.p (by omega)) (by first | omega | exact hM.b (by omega) | exact hR.p (by omega)) (fun c_6 => ?_) (fun c_6 => ?_)
      · skip
        have ei : i = 541 := by omega
        subst ei
        refine g_vret C0 hlk hr d_Mo_putBack_27 hL ?_
        exact ⟨rfl, ⟨hP.1, hP.2.1, hP.2.2.1, hP.2.2.2.1, hP.2.2.2.2.1, hP.2.2.2.2.2.1, hP.2.2.2.2.2.2.1, hP.2.2.2.2.2.2.2⟩, hF⟩
      · skip
        refine lv_aload_n hx hb d_Mo_putBack_9 rfl (lv_at hl 1 rfl) ?_
        refine g_get C0 hK il_Mo hP.1 rfl 0 (by decide) fl_Mo_7 rfl d_Mo_putBack_10 ?_
        refine lv_iload_n hx hb d_Mo_putBack_13 rfl (lv_at hl 0 rfl) ?_
        refine lv_aload_n hx hb d_Mo_putBack_14 rfl (lv_at hl 1 rfl) ?_
        refine g_get C0 hK il_Mo hP.1 rfl 1 (by decide) fl_Mo_13 rfl d_Mo_putBack_15 ?_
        refine lv_iload_n hx hb d_Mo_putBack_18 rfl (lv_at hl 0 rfl) ?_
        refine g_iald C0 hK hP.2.2.1 (by omega) (by omega) d_Mo_putBack_19 ?_
        refine g_iast (free := gRg o (o + 8)) C0 hK hP.2.1 (by omega) (by omega) d_Mo_putBack_20 hL (gRg.mk (by omega) (by omega)) (fun H_1 locs hL hA_2 hc_3 => ?_)
        refine lv_iinc (v := (nI (i + 1))) (lv' := [(1, .int (nI (i + 1))), (0, .ref o)]) hx hb d_Mo_putBack_21 hl (k := 0) rfl (gI_inc _) (by decide) rfl (fun ls hl => ?_)
        refine lv_goto (tgt := 2) hx hb d_Mo_putBack_24 (by decide) ?_
        exact ih2 (i + 1) H_1 locs (by omega) (by omega) hL (by rw [← ovr_s]; exact ⟨(hP.1.ch hc_3 (by omega)), hA_2, (hP.2.2.1.ch hc_3 (by omega)), (hP.2.2.2.1.ch hc_3 (by omega)), (hP.2.2.2.2.1.ch hc_3 (by omega)), (hP.2.2.2.2.2.1.ch hc_3 (by omega)), (hP.2.2.2.2.2.2.1.ch hc_3 (by omega)), (hP.2.2.2.2.2.2.2.ch hc_3 (by omega))⟩) (hF.tr (gFr.ch hc_3 (by omega) (by omega))) ls (lv_sub hl [0, 1] rfl)
  exact lp2 ((541 - 0) + 1) 0 s.heap [] (by omega) (by omega) (t_nil (free := gRg o (o + 8))) (by rw [ovr_0]; exact ⟨hP.1, hP.2.1, hP.2.2.1, hP.2.2.2.1, hP.2.2.2.2.1, hP.2.2.2.2.2.1, hP.2.2.2.2.2.2.1, hP.2.2.2.2.2.2.2⟩) gFr.rf ls (lv_sub hl [0, 1] rfl)

set_option maxHeartbeats 4000000 in
set_option maxRecDepth 100000 in
theorem k_Mo_takesOff (l : Launch) (G : gT) (o : Nat) (S sp bf sv iz rr pd : Nat → Nat) (ln sts td ac : Nat) (ct k p2 : Nat) (hc : ct < 2) (hk : k < 3) (hp2 : p2 < S (409 + 27 * ct + 9 * k)) (hM : mOk S) : gM l y_Mo_takesOff c_Mo_takesOff 6 none 1 21 0 0 G [.ref o, .int (nI ct), .int (nI k), .int (nI p2)] (fun H => MAt G o S sp bf sv iz rr pd ln sts td ac H) (wv (fun H H1 => MAt G o (tkF S (409 + 27 * ct + 9 * k) p2) sp bf sv iz rr pd ln sts td ac H1 ∧ gFr o (o + 8) H H1)) (gRg o (o + 8)) := by
  refine g_enter "GaleNamesModel" (by decide +kernel) rfl (Nat.le_of_ble_eq_true rfl) ?_
  intro p e s m args below meth c C0 hlk hr hnm hP hK ls hl
  have hx := C0.1
  have hb := C0.2.1
  have hl : lv_has ls 6 [(0, .ref o), (1, .int (nI ct)), (2, .int (nI k)), (3, .int (nI p2))] := hl
  have hn40 := hM.n
  have hg16 := hM.g
  have hk10 := hM.k
  have hl8 := hM.l hc hk
  refine lv_iload_n hx hb d_Mo_takesOff_0 rfl (lv_at hl 1 rfl) ?_
  refine lv_iload_n hx hb d_Mo_takesOff_1 rfl (lv_at hl 2 rfl) ?_
  refine g_S C0 (k_Mo_l l G ct k) co_Mo_l sm_Mo_l in_Mo gc_Mo_l ml_Mo_68 ⟨Nat.le_of_ble_eq_true rfl, Nat.le_of_ble_eq_true rfl⟩ hK trivial rfl hl.1 rfl (Nat.le_of_ble_eq_true rfl) d_Mo_takesOff_2 ⟨Nat.le_of_ble_eq_true rfl, Nat.le_of_ble_eq_true rfl⟩ (g_r rfl ?_)
  refine lv_istore (lv' := [(4, .int (nI (409 + 27 * ct + 9 * k))), (0, .ref o), (1, .int (nI ct)), (2, .int (nI k)), (3, .int (nI p2))]) hx hb d_Mo_takesOff_5 hl (by decide) rfl (fun ls hl => ?_)
  refine lv_iload_n hx hb d_Mo_takesOff_7 rfl (lv_at hl 4 rfl) ?_
  refine lv_istore (lv' := [(5, .int (nI p2)), (4, .int (nI (409 + 27 * ct + 9 * k))), (0, .ref o), (1, .int (nI ct)), (2, .int (nI k)), (3, .int (nI p2))]) hx hb d_Mo_takesOff_8 hl (by decide) rfl (fun ls hl => ?_)
  have lp10 : ∀ (fu : Nat) (j : Nat) (H : Heap) (locs : List Loc), (S (409 + 27 * ct + 9 * k) - j) < fu → p2 ≤ j → j ≤ S (409 + 27 * ct + 9 * k) - 1 → (∀ qq ∈ locs, (gRg o (o + 8)) qq.base) → MAt G o (tkJ S (409 + 27 * ct + 9 * k) p2 j) sp bf sv iz rr pd ln sts td ac H → gFr o (o + 8) s.heap H → ∀ ls : Array Slot, lv_has ls 6 [(5, .int (nI j)), (4, .int (nI (409 + 27 * ct + 9 * k))), (0, .ref o), (1, .int (nI ct)), (2, .int (nI k)), (3, .int (nI p2))] → W p l e ({ frames := 1, cells := 0, slots := 0, locals := 21 } : Room) s m args below meth c H locs 0 0 (MQ below (gQ (wv (fun H H1 => MAt G o (tkF S (409 + 27 * ct + 9 * k) p2) sp bf sv iz rr pd ln sts td ac H1 ∧ gFr o (o + 8) H H1))) args s 0 0 (gRg o (o + 8))) (F0 m 10 ls []) := by
    intro fu
    induction fu with
    | zero => intro j H locs hfu; exact absurd hfu (Nat.not_lt_zero _)
    | succ fu ih10 =>
      intro j H locs hfu hj1 hj2 hL hP hF ls hl
      refine lv_iload hx hb d_Mo_takesOff_10 (lv_at hl 0 rfl) ?_
      have hq : tkJ S (409 + 27 * ct + 9 * k) p2 j (409 + 27 * ct + 9 * k) = S (409 + 27 * ct + 9 * k) := tkJ_q
      refine lv_aload_n hx hb d_Mo_takesOff_12 rfl (lv_at hl 2 rfl) ?_
      refine g_get C0 hK il_Mo hP.1 rfl 0 (by decide) fl_Mo_7 rfl d_Mo_takesOff_13 ?_
      refine lv_iload hx hb d_Mo_takesOff_16 (lv_at hl 1 rfl) ?_
      refine g_iald C0 hK hP.2.1 (by omega) (by omega) d_Mo_takesOff_18 ?_
      refine lv_iconst (v := nI 1) hx hb d_Mo_takesOff_19 (by decide +kernel) ?_
      refine g_isub C0 (z := ((tkJ S (409 + 27 * ct + 9 * k) p2 j) (409 + 27 * ct + 9 * k)) - 1) d_Mo_takesOff_20 (by omega) ?_
      refine g_cge (tgt := 54) C0 d_Mo_takesOff_21 (by decide) (by first | omega | exact hM.b (by omega) | exact hR.p (by omega)) (by first | omega | exact hM.b (by omega) | exact hR.p (by omega)) (fun c_21 => ?_) (fun c_21 => ?_)
      · skip
        have ej : j = S (409 + 27 * ct + 9 * k) - 1 := by omega
        have hE : va_up (tkJ S (409 + 27 * ct + 9 * k) p2 j) (409 + 27 * ct + 9 * k) (tkJ S (409 + 27 * ct + 9 * k) p2 j (409 + 27 * ct + 9 * k) - 1) = tkF S (409 + 27 * ct + 9 * k) p2 := by
          rw [hq, ej]; rfl
        refine lv_aload_n hx hb d_Mo_takesOff_54 rfl (lv_at hl 2 rfl) ?_
        refine g_get C0 hK il_Mo hP.1 rfl 0 (by decide) fl_Mo_7 rfl d_Mo_takesOff_55 ?_
        refine lv_iload hx hb d_Mo_takesOff_58 (lv_at hl 1 rfl) ?_
        refine lv_dup2_11 hx hb d_Mo_takesOff_60 rfl rfl ?_
        refine g_iald C0 hK hP.2.1 (by omega) (by omega) d_Mo_takesOff_61 ?_
        refine lv_iconst (v := nI 1) hx hb d_Mo_takesOff_62 (by decide +kernel) ?_
        refine g_isub C0 (z := ((tkJ S (409 + 27 * ct + 9 * k) p2 j) (409 + 27 * ct + 9 * k)) - 1) d_Mo_takesOff_63 (by omega) ?_
        refine g_iast (free := gRg o (o + 8)) C0 hK hP.2.1 (by omega) (by omega) d_Mo_takesOff_64 hL (gRg.mk (by omega) (by omega)) (fun H_1 locs hL hA_2 hc_3 => ?_)
        refine g_vret C0 hlk hr d_Mo_takesOff_65 hL ?_
        exact ⟨rfl, (by rw [← hE]; exact ⟨(hP.1.ch hc_3 (by omega)), hA_2, (hP.2.2.1.ch hc_3 (by omega)), (hP.2.2.2.1.ch hc_3 (by omega)), (hP.2.2.2.2.1.ch hc_3 (by omega)), (hP.2.2.2.2.2.1.ch hc_3 (by omega)), (hP.2.2.2.2.2.2.1.ch hc_3 (by omega)), (hP.2.2.2.2.2.2.2.ch hc_3 (by omega))⟩), (hF.tr (gFr.ch hc_3 (by omega) (by omega)))⟩
      · skip
        refine lv_aload_n hx hb d_Mo_takesOff_24 rfl (lv_at hl 2 rfl) ?_
        refine g_get C0 hK il_Mo hP.1 rfl 0 (by decide) fl_Mo_7 rfl d_Mo_takesOff_25 ?_
        refine lv_iload hx hb d_Mo_takesOff_28 (lv_at hl 1 rfl) ?_
        refine lv_iconst (v := nI 1) hx hb d_Mo_takesOff_30 (by decide +kernel) ?_
        refine g_iadd C0 (z := 409 + 27 * ct + 9 * k + 1) d_Mo_takesOff_31 rfl ?_
        refine lv_iload hx hb d_Mo_takesOff_32 (lv_at hl 0 rfl) ?_
        refine g_iadd C0 (z := 409 + 27 * ct + 9 * k + 1 + j) d_Mo_takesOff_34 rfl ?_
        refine lv_aload_n hx hb d_Mo_takesOff_35 rfl (lv_at hl 2 rfl) ?_
        refine g_get C0 hK il_Mo hP.1 rfl 0 (by decide) fl_Mo_7 rfl d_Mo_takesOff_36 ?_
        refine lv_iload hx hb d_Mo_takesOff_39 (lv_at hl 1 rfl) ?_
        refine lv_iconst (v := nI 2) hx hb d_Mo_takesOff_41 (by decide +kernel) ?_
        refine g_iadd C0 (z := 409 + 27 * ct + 9 * k + 2) d_Mo_takesOff_42 rfl ?_
        refine lv_iload hx hb d_Mo_takesOff_43 (lv_at hl 0 rfl) ?_
        refine g_iadd C0 (z := 409 + 27 * ct + 9 * k + 2 + j) d_Mo_takesOff_45 rfl ?_
        refine g_iald C0 hK hP.2.1 (by omega) (by omega) d_Mo_takesOff_46 ?_
        refine g_iast (free := gRg o (o + 8)) C0 hK hP.2.1 (by omega) (by omega) d_Mo_takesOff_47 hL (gRg.mk (by omega) (by omega)) (fun H_4 locs hL hA_5 hc_6 => ?_)
        refine lv_iinc (v := (nI (j + 1))) (lv' := [(5, .int (nI (j + 1))), (4, .int (nI (409 + 27 * ct + 9 * k))), (0, .ref o), (1, .int (nI ct)), (2, .int (nI k)), (3, .int (nI p2))]) hx hb d_Mo_takesOff_48 hl (k := 0) rfl (gI_inc _) (by decide) rfl (fun ls hl => ?_)
        refine lv_goto (tgt := 10) hx hb d_Mo_takesOff_51 (by decide) ?_
        exact ih10 (j + 1) H_4 locs (by omega) (by omega) (by omega) hL (by rw [← tkJ_s hj1]; exact ⟨(hP.1.ch hc_6 (by omega)), hA_5, (hP.2.2.1.ch hc_6 (by omega)), (hP.2.2.2.1.ch hc_6 (by omega)), (hP.2.2.2.2.1.ch hc_6 (by omega)), (hP.2.2.2.2.2.1.ch hc_6 (by omega)), (hP.2.2.2.2.2.2.1.ch hc_6 (by omega)), (hP.2.2.2.2.2.2.2.ch hc_6 (by omega))⟩) (hF.tr (gFr.ch hc_6 (by omega) (by omega))) ls (lv_sub hl [0, 1, 2, 3, 4, 5] rfl)
  exact lp10 ((S (409 + 27 * ct + 9 * k) - p2) + 1) p2 s.heap [] (by omega) (by omega) (by omega) (t_nil (free := gRg o (o + 8))) (by rw [tkJ_0]; exact ⟨hP.1, hP.2.1, hP.2.2.1, hP.2.2.2.1, hP.2.2.2.2.1, hP.2.2.2.2.2.1, hP.2.2.2.2.2.2.1, hP.2.2.2.2.2.2.2⟩) gFr.rf ls (lv_sub hl [0, 1, 2, 3, 4, 5] rfl)

set_option maxHeartbeats 4000000 in
set_option maxRecDepth 100000 in
theorem k_Mo_learns (l : Launch) (G : gT) (o : Nat) (S sp bf sv iz rr pd : Nat → Nat) (ln sts td ac : Nat) (w : Nat) (hw : w < td) (h40 : mKn S rr pd w = none → S 4 < 40) (hM : mOk S) (hR : rOk rr pd td) : gM l y_Mo_learns c_Mo_learns 5 (some .int) 2 45 0 0 G [.ref o, .int (nI w)] (fun H => MAt G o S sp bf sv iz rr pd ln sts td ac H) (wi (.int (mLv S rr pd w)) (fun H H1 => MAt G o (mLS S rr pd w) sp bf sv iz rr pd ln sts td ac H1 ∧ gFr o (o + 8) H H1)) (gRg o (o + 8)) := by
  refine g_enter "GaleNamesModel" (by decide +kernel) rfl (Nat.le_of_ble_eq_true rfl) ?_
  intro p e s m args below meth c C0 hlk hr hnm hP hK ls hl
  have hx := C0.1
  have hb := C0.2.1
  have hl : lv_has ls 5 [(0, .ref o), (1, .int (nI w))] := hl
  have hn40 := hM.n
  have hg16 := hM.g
  have hk10 := hM.k
  have htd := hR.1
  have hwa := hR.a hw
  have hwl := hR.l hw
  refine lv_aload_n hx hb d_Mo_learns_0 rfl (lv_at hl 0 rfl) ?_
  refine lv_iload_n hx hb d_Mo_learns_1 rfl (lv_at hl 1 rfl) ?_
  refine g_V C0 (k_Mo_known l G o S sp bf sv iz rr pd ln sts td ac w (by omega) hM hR) co_Mo_known im_Mo_known se_Mo_known in_Mo gc_Mo_known ml_Mo_61 ⟨Nat.le_of_ble_eq_true rfl, Nat.le_of_ble_eq_true rfl⟩ hK hP.1 rfl ⟨hP.1, hP.2.1, hP.2.2.1, hP.2.2.2.1, hP.2.2.2.2.1, hP.2.2.2.2.2.1, hP.2.2.2.2.2.2.1, hP.2.2.2.2.2.2.2⟩ rfl hl.1 rfl (Nat.le_of_ble_eq_true rfl) d_Mo_learns_2 ⟨Nat.le_of_ble_eq_true rfl, Nat.le_of_ble_eq_true rfl⟩ (g_r rfl ?_)
  refine lv_istore_n (lv' := [(2, .int (oI (-6) (mKn S rr pd w))), (0, .ref o), (1, .int (nI w))]) hx hb d_Mo_learns_5 rfl hl (by decide) rfl (fun ls hl => ?_)
  refine lv_iload_n hx hb d_Mo_learns_6 rfl (lv_at hl 0 rfl) ?_
  refine lv_bipush (v := -6) hx hb d_Mo_learns_7 (by decide +kernel) ?_
  refine lv_icmp_eq (tgt := 14) hx hb d_Mo_learns_9 (by decide) (fun c_9 => ?_) (fun c_9 => ?_)
  · skip
    have c_9 : mKn S rr pd w = none := (oI6_n (fun i h => Nat.lt_of_lt_of_le (lF_s h).1 (by omega))).mp c_9
    have h40 := h40 c_9
    refine lv_aload_n hx hb d_Mo_learns_14 rfl (lv_at hl 1 rfl) ?_
    refine g_get C0 hK il_Mo hP.1 rfl 0 (by decide) fl_Mo_7 rfl d_Mo_learns_15 ?_
    refine lv_iconst (v := nI 4) hx hb d_Mo_learns_18 (by decide +kernel) ?_
    refine g_iald C0 hK hP.2.1 (by omega) (by omega) d_Mo_learns_19 ?_
    refine g_S C0 (k_Mo_n l G (S 4)) co_Mo_n sm_Mo_n in_Mo gc_Mo_n ml_Mo_57 ⟨Nat.le_of_ble_eq_true rfl, Nat.le_of_ble_eq_true rfl⟩ hK trivial rfl hl.1 rfl (Nat.le_of_ble_eq_true rfl) d_Mo_learns_20 ⟨Nat.le_of_ble_eq_true rfl, Nat.le_of_ble_eq_true rfl⟩ (g_r rfl ?_)
    refine lv_istore_n (lv' := [(3, .int (nI (9 + 10 * (S 4)))), (2, .int (oI (-6) (mKn S rr pd w))), (0, .ref o), (1, .int (nI w))]) hx hb d_Mo_learns_23 rfl hl (by decide) rfl (fun ls hl => ?_)
    refine lv_iconst (v := nI 0) hx hb d_Mo_learns_24 (by decide +kernel) ?_
    refine lv_istore (lv' := [(4, .int (nI 0)), (3, .int (nI (9 + 10 * (S 4)))), (2, .int (oI (-6) (mKn S rr pd w))), (0, .ref o), (1, .int (nI w))]) hx hb d_Mo_learns_25 hl (by decide) rfl (fun ls hl => ?_)
    have lp27 : ∀ (fu : Nat) (i : Nat) (H : Heap) (locs : List Loc), (10 - i) < fu → i ≤ 10 → (∀ qq ∈ locs, (gRg o (o + 8)) qq.base) → MAt G o (ovo (fun _ => 0) S (9 + 10 * S 4) i) sp bf sv iz rr pd ln sts td ac H → gFr o (o + 8) s.heap H → ∀ ls : Array Slot, lv_has ls 5 [(4, .int (nI i)), (3, .int (nI (9 + 10 * (S 4)))), (2, .int (oI (-6) (mKn S rr pd w))), (0, .ref o), (1, .int (nI w))] → W p l e ({ frames := 2, cells := 0, slots := 0, locals := 45 } : Room) s m args below meth c H locs 0 0 (MQ below (gQ (wi (.int (mLv S rr pd w)) (fun H H1 => MAt G o (mLS S rr pd w) sp bf sv iz rr pd ln sts td ac H1 ∧ gFr o (o + 8) H H1))) args s 0 0 (gRg o (o + 8))) (F0 m 27 ls []) := by
      intro fu
      induction fu with
      | zero => intro i H locs hfu; exact absurd hfu (Nat.not_lt_zero _)
      | succ fu ih27 =>
        intro i H locs hfu hi hL hP hF ls hl
        refine lv_iload hx hb d_Mo_learns_27 (lv_at hl 0 rfl) ?_
        refine lv_bipush (v := nI 10) hx hb d_Mo_learns_29 (by decide +kernel) ?_
        refine g_cge (tgt := 50) C0 d_Mo_learns_31 (by decide) (by first | omega | exact hM.b (by omega) | exact hR.p (by omega)) (by first | omega | exact hM.b (by omega) | exact hR.p (by omega)) (fun c_31 => ?_) (fun c_31 => ?_)
        · skip
          have ei : i = 10 := by omega
          subst ei
          refine lv_aload_n hx hb d_Mo_learns_50 rfl (lv_at hl 3 rfl) ?_
          refine g_get C0 hK il_Mo hP.1 rfl 0 (by decide) fl_Mo_7 rfl d_Mo_learns_51 ?_
          refine lv_iload_n hx hb d_Mo_learns_54 rfl (lv_at hl 1 rfl) ?_
          refine lv_aload_n hx hb d_Mo_learns_55 rfl (lv_at hl 3 rfl) ?_
          refine g_get C0 hK il_Mo hP.1 rfl 5 (by decide) fl_Mo_26 rfl d_Mo_learns_56 ?_
          refine lv_iconst (v := nI 2) hx hb d_Mo_learns_59 (by decide +kernel) ?_
          refine lv_iload_n hx hb d_Mo_learns_60 rfl (lv_at hl 4 rfl) ?_
          refine g_imul C0 (z := 2 * w) d_Mo_learns_61 rfl ?_
          refine lv_iconst (v := nI 1) hx hb d_Mo_learns_62 (by decide +kernel) ?_
          refine g_iadd C0 (z := 2 * w + 1) d_Mo_learns_63 rfl ?_
          refine g_iald C0 hK hP.2.2.2.2.2.2.1 (by omega) (by omega) d_Mo_learns_64 ?_
          refine g_iast (free := gRg o (o + 8)) C0 hK hP.2.1 (by omega) (by omega) d_Mo_learns_65 hL (gRg.mk (by omega) (by omega)) (fun H_1 locs hL hA_2 hc_3 => ?_)
          refine lv_iconst (v := nI 0) hx hb d_Mo_learns_66 (by decide +kernel) ?_
          refine lv_istore (lv' := [(4, .int (nI 0)), (3, .int (nI (9 + 10 * (S 4)))), (2, .int (oI (-6) (mKn S rr pd w))), (0, .ref o), (1, .int (nI w))]) hx hb d_Mo_learns_67 hl (by decide) rfl (fun ls hl => ?_)
          have lp69 : ∀ (fu : Nat) (j : Nat) (H : Heap) (locs : List Loc), (rr (2 * w + 1) - j) < fu → j ≤ rr (2 * w + 1) → (∀ qq ∈ locs, (gRg o (o + 8)) qq.base) → MAt G o (ovo (fun x => pd (rr (2 * w) + x)) (va_up (ovo (fun _ => 0) S (9 + 10 * S 4) 10) (9 + 10 * S 4) (rr (2 * w + 1))) (9 + 10 * S 4 + 1) j) sp bf sv iz rr pd ln sts td ac H → gFr o (o + 8) s.heap H → ∀ ls : Array Slot, lv_has ls 5 [(4, .int (nI j)), (3, .int (nI (9 + 10 * (S 4)))), (2, .int (oI (-6) (mKn S rr pd w))), (0, .ref o), (1, .int (nI w))] → W p l e ({ frames := 2, cells := 0, slots := 0, locals := 45 } : Room) s m args below meth c H locs 0 0 (MQ below (gQ (wi (.int (mLv S rr pd w)) (fun H H1 => MAt G o (mLS S rr pd w) sp bf sv iz rr pd ln sts td ac H1 ∧ gFr o (o + 8) H H1))) args s 0 0 (gRg o (o + 8))) (F0 m 69 ls []) := by
            intro fu
            induction fu with
            | zero => intro j H locs hfu; exact absurd hfu (Nat.not_lt_zero _)
            | succ fu ih69 =>
              intro j H locs hfu hj hL hP hF ls hl
              refine lv_iload hx hb d_Mo_learns_69 (lv_at hl 0 rfl) ?_
              have hlen : (ovo (fun x => pd (rr (2 * w) + x)) (va_up (ovo (fun _ => 0) S (9 + 10 * S 4) 10) (9 + 10 * S 4) (rr (2 * w + 1))) (9 + 10 * S 4 + 1) j) (9 + 10 * S 4) = rr (2 * w + 1) := by rw [ovo_lt (by omega), vu_s]
              refine lv_aload_n hx hb d_Mo_learns_71 rfl (lv_at hl 3 rfl) ?_
              refine g_get C0 hK il_Mo hP.1 rfl 0 (by decide) fl_Mo_7 rfl d_Mo_learns_72 ?_
              refine lv_iload_n hx hb d_Mo_learns_75 rfl (lv_at hl 1 rfl) ?_
              refine g_iald C0 hK hP.2.1 (by omega) (by omega) d_Mo_learns_76 ?_
              refine g_cge (tgt := 113) C0 d_Mo_learns_77 (by decide) (by first | omega | exact hM.b (by omega) | exact hR.p (by omega)) (by first | omega | exact hM.b (by omega) | exact hR.p (by omega)) (fun c_77 => ?_) (fun c_77 => ?_)
              · skip
                have ej : j = rr (2 * w + 1) := by omega
                have h4 : (ovo (fun x => pd (rr (2 * w) + x)) (va_up (ovo (fun _ => 0) S (9 + 10 * S 4) 10) (9 + 10 * S 4) (rr (2 * w + 1))) (9 + 10 * S 4 + 1) j) 4 = S 4 := by rw [ovo_lt (by omega), vu_n (by omega), ovo_lt (by omega)]
                have hE : va_up (ovo (fun x => pd (rr (2 * w) + x)) (va_up (ovo (fun _ => 0) S (9 + 10 * S 4) 10) (9 + 10 * S 4) (rr (2 * w + 1))) (9 + 10 * S 4 + 1) j) 4 ((ovo (fun x => pd (rr (2 * w) + x)) (va_up (ovo (fun _ => 0) S (9 + 10 * S 4) 10) (9 + 10 * S 4) (rr (2 * w + 1))) (9 + 10 * S 4 + 1) j) 4 + 1) = lS S rr pd w := by rw [h4, ej]; rfl
                refine lv_aload_n hx hb d_Mo_learns_113 rfl (lv_at hl 3 rfl) ?_
                refine g_get C0 hK il_Mo hP.1 rfl 0 (by decide) fl_Mo_7 rfl d_Mo_learns_114 ?_
                refine lv_iconst (v := nI 4) hx hb d_Mo_learns_117 (by decide +kernel) ?_
                refine lv_dup2_11 hx hb d_Mo_learns_118 rfl rfl ?_
                refine g_iald C0 hK hP.2.1 (by omega) (by omega) d_Mo_learns_119 ?_
                refine lv_iconst (v := nI 1) hx hb d_Mo_learns_120 (by decide +kernel) ?_
                refine g_iadd C0 (z := (ovo (fun x => pd (rr (2 * w) + x)) (va_up (ovo (fun _ => 0) S (9 + 10 * S 4) 10) (9 + 10 * S 4) (rr (2 * w + 1))) (9 + 10 * S 4 + 1) j) 4 + 1) d_Mo_learns_121 rfl ?_
                refine g_iast (free := gRg o (o + 8)) C0 hK hP.2.1 (by omega) (by omega) d_Mo_learns_122 hL (gRg.mk (by omega) (by omega)) (fun H_4 locs hL hA_5 hc_6 => ?_)
                have h5 : (va_up (ovo (fun x => pd (rr (2 * w) + x)) (va_up (ovo (fun _ => 0) S (9 + 10 * S 4) 10) (9 + 10 * S 4) (rr (2 * w + 1))) (9 + 10 * S 4 + 1) j) 4 ((ovo (fun x => pd (rr (2 * w) + x)) (va_up (ovo (fun _ => 0) S (9 + 10 * S 4) 10) (9 + 10 * S 4) (rr (2 * w + 1))) (9 + 10 * S 4 + 1) j) 4 + 1)) 4 = S 4 + 1 := by rw [hE]; rfl
                refine lv_aload_n hx hb d_Mo_learns_123 rfl (lv_at hl 3 rfl) ?_
                refine g_get C0 hK il_Mo (hP.1.ch hc_6 (by omega)) rfl 0 (by decide) fl_Mo_7 rfl d_Mo_learns_124 ?_
                refine lv_iconst (v := nI 4) hx hb d_Mo_learns_127 (by decide +kernel) ?_
                refine g_iald C0 hK hA_5 (by omega) (by omega) d_Mo_learns_128 ?_
                refine lv_iconst (v := nI 1) hx hb d_Mo_learns_129 (by decide +kernel) ?_
                refine g_isub C0 (z := ((va_up (ovo (fun x => pd (rr (2 * w) + x)) (va_up (ovo (fun _ => 0) S (9 + 10 * S 4) 10) (9 + 10 * S 4) (rr (2 * w + 1))) (9 + 10 * S 4 + 1) j) 4 ((ovo (fun x => pd (rr (2 * w) + x)) (va_up (ovo (fun _ => 0) S (9 + 10 * S 4) 10) (9 + 10 * S 4) (rr (2 * w + 1))) (9 + 10 * S 4 + 1) j) 4 + 1)) 4) - 1) d_Mo_learns_130 (by omega) ?_
                refine g_iret C0 hlk hr d_Mo_learns_131 hL ?_
                exact ⟨rdI (by rw [mLv, if_pos c_9, h5]; rfl), (by rw [mLS, if_pos c_9, ← hE]; exact ⟨(hP.1.ch hc_6 (by omega)), hA_5, (hP.2.2.1.ch hc_6 (by omega)), (hP.2.2.2.1.ch hc_6 (by omega)), (hP.2.2.2.2.1.ch hc_6 (by omega)), (hP.2.2.2.2.2.1.ch hc_6 (by omega)), (hP.2.2.2.2.2.2.1.ch hc_6 (by omega)), (hP.2.2.2.2.2.2.2.ch hc_6 (by omega))⟩), (hF.tr (gFr.ch hc_6 (by omega) (by omega)))⟩
              · skip
                refine lv_aload_n hx hb d_Mo_learns_80 rfl (lv_at hl 3 rfl) ?_
                refine g_get C0 hK il_Mo hP.1 rfl 0 (by decide) fl_Mo_7 rfl d_Mo_learns_81 ?_
                refine lv_iload_n hx hb d_Mo_learns_84 rfl (lv_at hl 1 rfl) ?_
                refine lv_iconst (v := nI 1) hx hb d_Mo_learns_85 (by decide +kernel) ?_
                refine g_iadd C0 (z := 9 + 10 * (S 4) + 1) d_Mo_learns_86 rfl ?_
                refine lv_iload hx hb d_Mo_learns_87 (lv_at hl 0 rfl) ?_
                refine g_iadd C0 (z := 9 + 10 * (S 4) + 1 + j) d_Mo_learns_89 rfl ?_
                refine lv_aload_n hx hb d_Mo_learns_90 rfl (lv_at hl 3 rfl) ?_
                refine g_get C0 hK il_Mo hP.1 rfl 6 (by decide) fl_Mo_29 rfl d_Mo_learns_91 ?_
                refine lv_aload_n hx hb d_Mo_learns_94 rfl (lv_at hl 3 rfl) ?_
                refine g_get C0 hK il_Mo hP.1 rfl 5 (by decide) fl_Mo_26 rfl d_Mo_learns_95 ?_
                refine lv_iconst (v := nI 2) hx hb d_Mo_learns_98 (by decide +kernel) ?_
                refine lv_iload_n hx hb d_Mo_learns_99 rfl (lv_at hl 4 rfl) ?_
                refine g_imul C0 (z := 2 * w) d_Mo_learns_100 rfl ?_
                refine g_iald C0 hK hP.2.2.2.2.2.2.1 (by omega) (by omega) d_Mo_learns_101 ?_
                refine lv_iload hx hb d_Mo_learns_102 (lv_at hl 0 rfl) ?_
                refine g_iadd C0 (z := rr (2 * w) + j) d_Mo_learns_104 rfl ?_
                refine g_cald C0 hK hP.2.2.2.2.2.2.2 (by omega) (by omega) d_Mo_learns_105 ?_
                refine g_iast (free := gRg o (o + 8)) C0 hK hP.2.1 (by omega) (by omega) d_Mo_learns_106 hL (gRg.mk (by omega) (by omega)) (fun H_7 locs hL hA_8 hc_9 => ?_)
                refine lv_iinc (v := (nI (j + 1))) (lv' := [(4, .int (nI (j + 1))), (3, .int (nI (9 + 10 * (S 4)))), (2, .int (oI (-6) (mKn S rr pd w))), (0, .ref o), (1, .int (nI w))]) hx hb d_Mo_learns_107 hl (k := 0) rfl (gI_inc _) (by decide) rfl (fun ls hl => ?_)
                refine lv_goto (tgt := 69) hx hb d_Mo_learns_110 (by decide) ?_
                exact ih69 (j + 1) H_7 locs (by omega) (by omega) hL (by rw [← ovo_s]; exact ⟨(hP.1.ch hc_9 (by omega)), hA_8, (hP.2.2.1.ch hc_9 (by omega)), (hP.2.2.2.1.ch hc_9 (by omega)), (hP.2.2.2.2.1.ch hc_9 (by omega)), (hP.2.2.2.2.2.1.ch hc_9 (by omega)), (hP.2.2.2.2.2.2.1.ch hc_9 (by omega)), (hP.2.2.2.2.2.2.2.ch hc_9 (by omega))⟩) (hF.tr (gFr.ch hc_9 (by omega) (by omega))) ls (lv_sub hl [0, 1, 2, 3, 4] rfl)
          exact lp69 ((rr (2 * w + 1) - 0) + 1) 0 H_1 locs (by omega) (by omega) hL (by rw [ovo_0]; exact ⟨(hP.1.ch hc_3 (by omega)), hA_2, (hP.2.2.1.ch hc_3 (by omega)), (hP.2.2.2.1.ch hc_3 (by omega)), (hP.2.2.2.2.1.ch hc_3 (by omega)), (hP.2.2.2.2.2.1.ch hc_3 (by omega)), (hP.2.2.2.2.2.2.1.ch hc_3 (by omega)), (hP.2.2.2.2.2.2.2.ch hc_3 (by omega))⟩) (hF.tr (gFr.ch hc_3 (by omega) (by omega))) ls (lv_sub hl [0, 1, 2, 3, 4] rfl)
        · skip
          refine lv_aload_n hx hb d_Mo_learns_34 rfl (lv_at hl 3 rfl) ?_
          refine g_get C0 hK il_Mo hP.1 rfl 0 (by decide) fl_Mo_7 rfl d_Mo_learns_35 ?_
          refine lv_iload_n hx hb d_Mo_learns_38 rfl (lv_at hl 1 rfl) ?_
          refine lv_iload hx hb d_Mo_learns_39 (lv_at hl 0 rfl) ?_
          refine g_iadd C0 (z := 9 + 10 * (S 4) + i) d_Mo_learns_41 rfl ?_
          refine lv_iconst (v := nI 0) hx hb d_Mo_learns_42 (by decide +kernel) ?_
          refine g_iast (free := gRg o (o + 8)) C0 hK hP.2.1 (by omega) (by omega) d_Mo_learns_43 hL (gRg.mk (by omega) (by omega)) (fun H_10 locs hL hA_11 hc_12 => ?_)
          refine lv_iinc (v := (nI (i + 1))) (lv' := [(4, .int (nI (i + 1))), (3, .int (nI (9 + 10 * (S 4)))), (2, .int (oI (-6) (mKn S rr pd w))), (0, .ref o), (1, .int (nI w))]) hx hb d_Mo_learns_44 hl (k := 0) rfl (gI_inc _) (by decide) rfl (fun ls hl => ?_)
          refine lv_goto (tgt := 27) hx hb d_Mo_learns_47 (by decide) ?_
          exact ih27 (i + 1) H_10 locs (by omega) (by omega) hL (by rw [← ovo_s]; exact ⟨(hP.1.ch hc_12 (by omega)), hA_11, (hP.2.2.1.ch hc_12 (by omega)), (hP.2.2.2.1.ch hc_12 (by omega)), (hP.2.2.2.2.1.ch hc_12 (by omega)), (hP.2.2.2.2.2.1.ch hc_12 (by omega)), (hP.2.2.2.2.2.2.1.ch hc_12 (by omega)), (hP.2.2.2.2.2.2.2.ch hc_12 (by omega))⟩) (hF.tr (gFr.ch hc_12 (by omega) (by omega))) ls (lv_sub hl [0, 1, 2, 3, 4] rfl)
    exact lp27 ((10 - 0) + 1) 0 s.heap [] (by omega) (by omega) (t_nil (free := gRg o (o + 8))) (by rw [ovo_0]; exact ⟨hP.1, hP.2.1, hP.2.2.1, hP.2.2.2.1, hP.2.2.2.2.1, hP.2.2.2.2.2.1, hP.2.2.2.2.2.2.1, hP.2.2.2.2.2.2.2⟩) gFr.rf ls (lv_sub hl [0, 1, 2, 3, 4] rfl)
  · skip
    have c_9 : ¬ mKn S rr pd w = none := fun q => c_9 ((oI6_n (fun i h => Nat.lt_of_lt_of_le (lF_s h).1 (by omega))).mpr q)
    refine lv_iload_n hx hb d_Mo_learns_12 rfl (lv_at hl 0 rfl) ?_
    refine g_iret C0 hlk hr d_Mo_learns_13 (t_nil (free := gRg o (o + 8))) ?_
    exact ⟨rdI (by rw [mLv, if_neg c_9]), (by rw [mLS, if_neg c_9]; exact ⟨hP.1, hP.2.1, hP.2.2.1, hP.2.2.2.1, hP.2.2.2.2.1, hP.2.2.2.2.2.1, hP.2.2.2.2.2.2.1, hP.2.2.2.2.2.2.2⟩), gFr.rf⟩
