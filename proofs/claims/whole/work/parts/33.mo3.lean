/-! rows copied; the pad's reading -/
def ovr (f g : Nat → Nat) (i : Nat) : Nat → Nat := fun k => if k < i then f k else g k
theorem ovr_0 (f g : Nat → Nat) : ovr f g 0 = g := by funext k; unfold ovr; rw [if_neg (Nat.not_lt_zero _)]
theorem ovr_s (f g : Nat → Nat) (i : Nat) : va_up (ovr f g i) i (f i) = ovr f g (i + 1) := by
  funext k; unfold va_up ovr
  by_cases h : k = i
  · subst h; rw [if_pos rfl, if_pos (Nat.lt_succ_self _)]
  · rw [if_neg h]
    by_cases h2 : k < i
    · rw [if_pos h2, if_pos (by omega)]
    · rw [if_neg h2, if_neg (by omega)]
def ovo (f g : Nat → Nat) (a i : Nat) : Nat → Nat := fun k => if a ≤ k ∧ k < a + i then f (k - a) else g k
theorem ovo_0 (f g : Nat → Nat) (a : Nat) : ovo f g a 0 = g := by funext k; unfold ovo; rw [if_neg (by omega)]
theorem ovo_s (f g : Nat → Nat) (a i : Nat) : va_up (ovo f g a i) (a + i) (f i) = ovo f g a (i + 1) := by
  funext k; unfold va_up ovo
  by_cases h : k = a + i
  · subst h; rw [if_pos rfl, if_pos (by omega), Nat.add_sub_cancel_left]
  · rw [if_neg h]
    by_cases h2 : a ≤ k ∧ k < a + i
    · rw [if_pos h2, if_pos (by omega)]
    · rw [if_neg h2, if_neg (by omega)]
def shB (f : Nat → Nat) (i : Nat) : Nat → Nat := fun k => if k < i then f (541 + k) else f k
theorem shB_0 (f : Nat → Nat) : shB f 0 = f := by funext k; unfold shB; rw [if_neg (Nat.not_lt_zero _)]
theorem shB_s (f : Nat → Nat) (i : Nat) : va_up (shB f i) i (shB f i (541 + i)) = shB f (i + 1) := by
  funext k; unfold va_up shB
  by_cases h : k = i
  · subst h; rw [if_pos rfl, if_neg (by omega), if_pos (Nat.lt_succ_self _)]
  · rw [if_neg h]
    by_cases h2 : k < i
    · rw [if_pos h2, if_pos (by omega)]
    · rw [if_neg h2, if_neg (by omega)]
def rcB (sp bf : Nat → Nat) (sts : Nat) : Nat → Nat := if sts = 6 then ovo sp (shB bf 2705) (541 * (sts - 1)) 541 else ovo sp bf (541 * sts) 541
def rcN (sts : Nat) : Nat := if sts = 6 then sts - 1 + 1 else sts + 1
def wEnd (pd : Nat → Nat) (ln a : Nat) : Nat := a + pfx (fun j => mLt pd ln (a + j)) 6
theorem mLt_lt {pd : Nat → Nat} {ln a : Nat} (h : mLt pd ln a = true) : a < ln := by
  unfold mLt at h
  rw [Bool.and_eq_true, Bool.and_eq_true] at h
  exact of_decide_eq_true h.1.1
def rUp (rr : Nat → Nat) (td a e : Nat) : Nat → Nat := va_up (va_up rr (2 * td) a) (2 * td + 1) (e - a)

set_option maxHeartbeats 4000000 in
set_option maxRecDepth 100000 in
theorem k_Mo_hold (l : Launch) (G : gT) (o : Nat) (S sp bf sv iz rr pd : Nat → Nat) (ln sts td ac : Nat)  : gM l y_Mo_hold c_Mo_hold 2 none 0 0 0 0 G [.ref o] (fun H => MAt G o S sp bf sv iz rr pd ln sts td ac H) (wv (fun H H1 => MAt G o S (ovr S sp 541) bf sv iz rr pd ln sts td ac H1 ∧ gFr o (o + 8) H H1)) (gRg o (o + 8)) := by
  refine g_enter "GaleNamesModel" (by decide +kernel) rfl (Nat.le_of_ble_eq_true rfl) ?_
  intro p e s m args below meth c C0 hlk hr hnm hP hK ls hl
  have hx := C0.1
  have hb := C0.2.1
  have hl : lv_has ls 2 [(0, .ref o)] := hl
  refine lv_iconst (v := nI 0) hx hb d_Mo_hold_0 (by decide +kernel) ?_
  refine lv_istore_n (lv' := [(1, .int (nI 0)), (0, .ref o)]) hx hb d_Mo_hold_1 rfl hl (by decide) rfl (fun ls hl => ?_)
  have lp2 : ∀ (fu : Nat) (i : Nat) (H : Heap) (locs : List Loc), (541 - i) < fu → i ≤ 541 → (∀ qq ∈ locs, (gRg o (o + 8)) qq.base) → MAt G o S (ovr S sp i) bf sv iz rr pd ln sts td ac H → gFr o (o + 8) s.heap H → ∀ ls : Array Slot, lv_has ls 2 [(1, .int (nI i)), (0, .ref o)] → W p l e ({ frames := 0, cells := 0, slots := 0, locals := 0 } : Room) s m args below meth c H locs 0 0 (MQ below (gQ (wv (fun H H1 => MAt G o S (ovr S sp 541) bf sv iz rr pd ln sts td ac H1 ∧ gFr o (o + 8) H H1))) args s 0 0 (gRg o (o + 8))) (F0 m 2 ls []) := by
    intro fu
    induction fu with
    | zero => intro i H locs hfu; exact absurd hfu (Nat.not_lt_zero _)
    | succ fu ih2 =>
      intro i H locs hfu hi hL hP hF ls hl
      refine lv_iload_n hx hb d_Mo_hold_2 rfl (lv_at hl 0 rfl) ?_
      refine lv_sipush (v := nI 541) hx hb d_Mo_hold_3 (by decide +kernel) ?_
      refine g_cge (tgt := 27) C0 d_Mo_hold_6 (by decide) (by first | omega | exact hM.b (by omega) | exact hR.p (by omega)) (by first | omega | exact hM.b (by omega) | exact hR.p (by omega)) (fun c_6 => ?_) (fun c_6 => ?_)
      · skip
        have ei : i = 541 := by omega
        subst ei
        refine g_vret C0 hlk hr d_Mo_hold_27 hL ?_
        exact ⟨rfl, ⟨hP.1, hP.2.1, hP.2.2.1, hP.2.2.2.1, hP.2.2.2.2.1, hP.2.2.2.2.2.1, hP.2.2.2.2.2.2.1, hP.2.2.2.2.2.2.2⟩, hF⟩
      · skip
        refine lv_aload_n hx hb d_Mo_hold_9 rfl (lv_at hl 1 rfl) ?_
        refine g_get C0 hK il_Mo hP.1 rfl 1 (by decide) fl_Mo_13 rfl d_Mo_hold_10 ?_
        refine lv_iload_n hx hb d_Mo_hold_13 rfl (lv_at hl 0 rfl) ?_
        refine lv_aload_n hx hb d_Mo_hold_14 rfl (lv_at hl 1 rfl) ?_
        refine g_get C0 hK il_Mo hP.1 rfl 0 (by decide) fl_Mo_7 rfl d_Mo_hold_15 ?_
        refine lv_iload_n hx hb d_Mo_hold_18 rfl (lv_at hl 0 rfl) ?_
        refine g_iald C0 hK hP.2.1 (by omega) (by omega) d_Mo_hold_19 ?_
        refine g_iast (free := gRg o (o + 8)) C0 hK hP.2.2.1 (by omega) (by omega) d_Mo_hold_20 hL (gRg.mk (by omega) (by omega)) (fun H_1 locs hL hA_2 hc_3 => ?_)
        refine lv_iinc (v := (nI (i + 1))) (lv' := [(1, .int (nI (i + 1))), (0, .ref o)]) hx hb d_Mo_hold_21 hl (k := 0) rfl (gI_inc _) (by decide) rfl (fun ls hl => ?_)
        refine lv_goto (tgt := 2) hx hb d_Mo_hold_24 (by decide) ?_
        exact ih2 (i + 1) H_1 locs (by omega) (by omega) hL (by rw [← ovr_s]; exact ⟨(hP.1.ch hc_3 (by omega)), (hP.2.1.ch hc_3 (by omega)), hA_2, (hP.2.2.2.1.ch hc_3 (by omega)), (hP.2.2.2.2.1.ch hc_3 (by omega)), (hP.2.2.2.2.2.1.ch hc_3 (by omega)), (hP.2.2.2.2.2.2.1.ch hc_3 (by omega)), (hP.2.2.2.2.2.2.2.ch hc_3 (by omega))⟩) (hF.tr (gFr.ch hc_3 (by omega) (by omega))) ls (lv_sub hl [0, 1] rfl)
  exact lp2 ((541 - 0) + 1) 0 s.heap [] (by omega) (by omega) (t_nil (free := gRg o (o + 8))) (by rw [ovr_0]; exact ⟨hP.1, hP.2.1, hP.2.2.1, hP.2.2.2.1, hP.2.2.2.2.1, hP.2.2.2.2.2.1, hP.2.2.2.2.2.2.1, hP.2.2.2.2.2.2.2⟩) gFr.rf ls (lv_sub hl [0, 1] rfl)

set_option maxHeartbeats 4000000 in
set_option maxRecDepth 100000 in
theorem k_Mo_recorded (l : Launch) (G : gT) (o : Nat) (S sp bf sv iz rr pd : Nat → Nat) (ln sts td ac : Nat) (x : Int32) (hs6 : sts ≤ 6) : gM l y_Mo_recorded c_Mo_recorded 3 (some .int) 0 0 0 0 G [.ref o, .int x] (fun H => MAt G o S sp bf sv iz rr pd ln sts td ac H) (wi (.int x) (fun H H1 => MAt G o S sp (rcB sp bf sts) sv iz rr pd ln (rcN sts) td ac H1 ∧ gFr o (o + 8) H H1)) (gRg o (o + 8)) := by
  refine g_enter "GaleNamesModel" (by decide +kernel) rfl (Nat.le_of_ble_eq_true rfl) ?_
  intro p e s m args below meth c C0 hlk hr hnm hP hK ls hl
  have hx := C0.1
  have hb := C0.2.1
  have hl : lv_has ls 3 [(0, .ref o), (1, .int x)] := hl
  refine lv_aload_n hx hb d_Mo_recorded_0 rfl (lv_at hl 0 rfl) ?_
  refine g_get C0 hK il_Mo hP.1 rfl 8 (by decide) fl_Mo_37 rfl d_Mo_recorded_1 ?_
  refine lv_bipush (v := nI 6) hx hb d_Mo_recorded_4 (by decide +kernel) ?_
  refine g_cne (tgt := 50) C0 d_Mo_recorded_6 (by decide) (by first | omega | exact hM.b (by omega) | exact hR.p (by omega)) (by first | omega | exact hM.b (by omega) | exact hR.p (by omega)) (fun c_6 => ?_) (fun c_6 => ?_)
  · skip
    refine lv_iconst (v := nI 0) hx hb d_Mo_recorded_50 (by decide +kernel) ?_
    refine lv_istore_n (lv' := [(2, .int (nI 0)), (0, .ref o), (1, .int x)]) hx hb d_Mo_recorded_51 rfl hl (by decide) rfl (fun ls hl => ?_)
    have lp52 : ∀ (fu : Nat) (n : Nat) (H : Heap) (locs : List Loc), (541 - n) < fu → n ≤ 541 → (∀ qq ∈ locs, (gRg o (o + 8)) qq.base) → MAt G o S sp (ovo sp bf (541 * sts) n) sv iz rr pd ln sts td ac H → gFr o (o + 8) s.heap H → ∀ ls : Array Slot, lv_has ls 3 [(2, .int (nI n)), (0, .ref o), (1, .int x)] → W p l e ({ frames := 0, cells := 0, slots := 0, locals := 0 } : Room) s m args below meth c H locs 0 0 (MQ below (gQ (wi (.int x) (fun H H1 => MAt G o S sp (rcB sp bf sts) sv iz rr pd ln (rcN sts) td ac H1 ∧ gFr o (o + 8) H H1))) args s 0 0 (gRg o (o + 8))) (F0 m 52 ls []) := by
      intro fu
      induction fu with
      | zero => intro n H locs hfu; exact absurd hfu (Nat.not_lt_zero _)
      | succ fu ih52 =>
        intro n H locs hfu hn hL hP hF ls hl
        refine lv_iload_n hx hb d_Mo_recorded_52 rfl (lv_at hl 0 rfl) ?_
        refine lv_sipush (v := nI 541) hx hb d_Mo_recorded_53 (by decide +kernel) ?_
        refine g_cge (tgt := 86) C0 d_Mo_recorded_56 (by decide) (by first | omega | exact hM.b (by omega) | exact hR.p (by omega)) (by first | omega | exact hM.b (by omega) | exact hR.p (by omega)) (fun c_56 => ?_) (fun c_56 => ?_)
        · skip
          have en : n = 541 := by omega
          subst en
          refine lv_aload_n hx hb d_Mo_recorded_86 rfl (lv_at hl 1 rfl) ?_
          refine lv_dup hx hb d_Mo_recorded_87 rfl ?_
          refine g_get C0 hK il_Mo hP.1 rfl 8 (by decide) fl_Mo_37 rfl d_Mo_recorded_88 ?_
          refine lv_iconst (v := nI 1) hx hb d_Mo_recorded_91 (by decide +kernel) ?_
          refine g_iadd C0 (z := sts + 1) d_Mo_recorded_92 rfl ?_
          refine g_put (free := gRg o (o + 8)) C0 hK il_Mo tk_Mo nm_Mo hP.1 rfl 8 (by decide) fl_Mo_37 rfl rfl rfl (Nat.le_of_ble_eq_true rfl) d_Mo_recorded_93 hL (gRg.mk (by omega) (by omega)) (fun H_1 locs hL hA_2 hc_3 => ?_)
          have hA_2 : gE G o (eO 6 [.ref (o + 1), .ref (o + 2), .ref (o + 3), .ref (o + 4), .ref (o + 5), .ref (o + 6), .ref (o + 7), .int (nI ln), .int (nI (sts + 1)), .int (nI td), .int (nI ac)]) H_1 := hA_2
          refine lv_iload_n hx hb d_Mo_recorded_96 rfl (lv_at hl 2 rfl) ?_
          refine g_iret C0 hlk hr d_Mo_recorded_97 hL ?_
          exact ⟨rfl, (by rw [rcB, rcN, if_neg c_6, if_neg c_6]; exact ⟨hA_2, (hP.2.1.ch hc_3 (by omega)), (hP.2.2.1.ch hc_3 (by omega)), (hP.2.2.2.1.ch hc_3 (by omega)), (hP.2.2.2.2.1.ch hc_3 (by omega)), (hP.2.2.2.2.2.1.ch hc_3 (by omega)), (hP.2.2.2.2.2.2.1.ch hc_3 (by omega)), (hP.2.2.2.2.2.2.2.ch hc_3 (by omega))⟩), (hF.tr (gFr.ch hc_3 (by omega) (by omega)))⟩
        · skip
          refine lv_aload_n hx hb d_Mo_recorded_59 rfl (lv_at hl 1 rfl) ?_
          refine g_get C0 hK il_Mo hP.1 rfl 2 (by decide) fl_Mo_16 rfl d_Mo_recorded_60 ?_
          refine lv_sipush (v := nI 541) hx hb d_Mo_recorded_63 (by decide +kernel) ?_
          refine lv_aload_n hx hb d_Mo_recorded_66 rfl (lv_at hl 1 rfl) ?_
          refine g_get C0 hK il_Mo hP.1 rfl 8 (by decide) fl_Mo_37 rfl d_Mo_recorded_67 ?_
          refine g_imul C0 (z := 541 * sts) d_Mo_recorded_70 rfl ?_
          refine lv_iload_n hx hb d_Mo_recorded_71 rfl (lv_at hl 0 rfl) ?_
          refine g_iadd C0 (z := 541 * sts + n) d_Mo_recorded_72 rfl ?_
          refine lv_aload_n hx hb d_Mo_recorded_73 rfl (lv_at hl 1 rfl) ?_
          refine g_get C0 hK il_Mo hP.1 rfl 1 (by decide) fl_Mo_13 rfl d_Mo_recorded_74 ?_
          refine lv_iload_n hx hb d_Mo_recorded_77 rfl (lv_at hl 0 rfl) ?_
          refine g_iald C0 hK hP.2.2.1 (by omega) (by omega) d_Mo_recorded_78 ?_
          refine g_iast (free := gRg o (o + 8)) C0 hK hP.2.2.2.1 (by omega) (by omega) d_Mo_recorded_79 hL (gRg.mk (by omega) (by omega)) (fun H_4 locs hL hA_5 hc_6 => ?_)
          refine lv_iinc (v := (nI (n + 1))) (lv' := [(2, .int (nI (n + 1))), (0, .ref o), (1, .int x)]) hx hb d_Mo_recorded_80 hl (k := 0) rfl (gI_inc _) (by decide) rfl (fun ls hl => ?_)
          refine lv_goto (tgt := 52) hx hb d_Mo_recorded_83 (by decide) ?_
          exact ih52 (n + 1) H_4 locs (by omega) (by omega) hL (by rw [← ovo_s]; exact ⟨(hP.1.ch hc_6 (by omega)), (hP.2.1.ch hc_6 (by omega)), (hP.2.2.1.ch hc_6 (by omega)), hA_5, (hP.2.2.2.2.1.ch hc_6 (by omega)), (hP.2.2.2.2.2.1.ch hc_6 (by omega)), (hP.2.2.2.2.2.2.1.ch hc_6 (by omega)), (hP.2.2.2.2.2.2.2.ch hc_6 (by omega))⟩) (hF.tr (gFr.ch hc_6 (by omega) (by omega))) ls (lv_sub hl [0, 1, 2] rfl)
    exact lp52 ((541 - 0) + 1) 0 s.heap [] (by omega) (by omega) (t_nil (free := gRg o (o + 8))) (by rw [ovo_0]; exact ⟨hP.1, hP.2.1, hP.2.2.1, hP.2.2.2.1, hP.2.2.2.2.1, hP.2.2.2.2.2.1, hP.2.2.2.2.2.2.1, hP.2.2.2.2.2.2.2⟩) gFr.rf ls (lv_sub hl [0, 1, 2] rfl)
  · skip
    refine lv_iconst (v := nI 0) hx hb d_Mo_recorded_9 (by decide +kernel) ?_
    refine lv_istore_n (lv' := [(2, .int (nI 0)), (0, .ref o), (1, .int x)]) hx hb d_Mo_recorded_10 rfl hl (by decide) rfl (fun ls hl => ?_)
    have lp11 : ∀ (fu : Nat) (i : Nat) (H : Heap) (locs : List Loc), (2705 - i) < fu → i ≤ 2705 → (∀ qq ∈ locs, (gRg o (o + 8)) qq.base) → MAt G o S sp (shB bf i) sv iz rr pd ln sts td ac H → gFr o (o + 8) s.heap H → ∀ ls : Array Slot, lv_has ls 3 [(2, .int (nI i)), (0, .ref o), (1, .int x)] → W p l e ({ frames := 0, cells := 0, slots := 0, locals := 0 } : Room) s m args below meth c H locs 0 0 (MQ below (gQ (wi (.int x) (fun H H1 => MAt G o S sp (rcB sp bf sts) sv iz rr pd ln (rcN sts) td ac H1 ∧ gFr o (o + 8) H H1))) args s 0 0 (gRg o (o + 8))) (F0 m 11 ls []) := by
      intro fu
      induction fu with
      | zero => intro i H locs hfu; exact absurd hfu (Nat.not_lt_zero _)
      | succ fu ih11 =>
        intro i H locs hfu hi hL hP hF ls hl
        refine lv_iload_n hx hb d_Mo_recorded_11 rfl (lv_at hl 0 rfl) ?_
        refine lv_sipush (v := nI 2705) hx hb d_Mo_recorded_12 (by decide +kernel) ?_
        refine g_cge (tgt := 40) C0 d_Mo_recorded_15 (by decide) (by first | omega | exact hM.b (by omega) | exact hR.p (by omega)) (by first | omega | exact hM.b (by omega) | exact hR.p (by omega)) (fun c_15 => ?_) (fun c_15 => ?_)
        · skip
          have ei : i = 2705 := by omega
          subst ei
          refine lv_aload_n hx hb d_Mo_recorded_40 rfl (lv_at hl 1 rfl) ?_
          refine lv_dup hx hb d_Mo_recorded_41 rfl ?_
          refine g_get C0 hK il_Mo hP.1 rfl 8 (by decide) fl_Mo_37 rfl d_Mo_recorded_42 ?_
          refine lv_iconst (v := nI 1) hx hb d_Mo_recorded_45 (by decide +kernel) ?_
          refine g_isub C0 (z := sts - 1) d_Mo_recorded_46 (by omega) ?_
          refine g_put (free := gRg o (o + 8)) C0 hK il_Mo tk_Mo nm_Mo hP.1 rfl 8 (by decide) fl_Mo_37 rfl rfl rfl (Nat.le_of_ble_eq_true rfl) d_Mo_recorded_47 hL (gRg.mk (by omega) (by omega)) (fun H_7 locs hL hA_8 hc_9 => ?_)
          have hA_8 : gE G o (eO 6 [.ref (o + 1), .ref (o + 2), .ref (o + 3), .ref (o + 4), .ref (o + 5), .ref (o + 6), .ref (o + 7), .int (nI ln), .int (nI (sts - 1)), .int (nI td), .int (nI ac)]) H_7 := hA_8
          refine lv_iconst (v := nI 0) hx hb d_Mo_recorded_50 (by decide +kernel) ?_
          refine lv_istore_n (lv' := [(2, .int (nI 0)), (0, .ref o), (1, .int x)]) hx hb d_Mo_recorded_51 rfl hl (by decide) rfl (fun ls hl => ?_)
          have lp52 : ∀ (fu : Nat) (n : Nat) (H : Heap) (locs : List Loc), (541 - n) < fu → n ≤ 541 → (∀ qq ∈ locs, (gRg o (o + 8)) qq.base) → MAt G o S sp (ovo sp (shB bf 2705) (541 * (sts - 1)) n) sv iz rr pd ln (sts - 1) td ac H → gFr o (o + 8) s.heap H → ∀ ls : Array Slot, lv_has ls 3 [(2, .int (nI n)), (0, .ref o), (1, .int x)] → W p l e ({ frames := 0, cells := 0, slots := 0, locals := 0 } : Room) s m args below meth c H locs 0 0 (MQ below (gQ (wi (.int x) (fun H H1 => MAt G o S sp (rcB sp bf sts) sv iz rr pd ln (rcN sts) td ac H1 ∧ gFr o (o + 8) H H1))) args s 0 0 (gRg o (o + 8))) (F0 m 52 ls []) := by
            intro fu
            induction fu with
            | zero => intro n H locs hfu; exact absurd hfu (Nat.not_lt_zero _)
            | succ fu ih52 =>
              intro n H locs hfu hn hL hP hF ls hl
              refine lv_iload_n hx hb d_Mo_recorded_52 rfl (lv_at hl 0 rfl) ?_
              refine lv_sipush (v := nI 541) hx hb d_Mo_recorded_53 (by decide +kernel) ?_
              refine g_cge (tgt := 86) C0 d_Mo_recorded_56 (by decide) (by first | omega | exact hM.b (by omega) | exact hR.p (by omega)) (by first | omega | exact hM.b (by omega) | exact hR.p (by omega)) (fun c_56 => ?_) (fun c_56 => ?_)
              · skip
                have en : n = 541 := by omega
                subst en
                refine lv_aload_n hx hb d_Mo_recorded_86 rfl (lv_at hl 1 rfl) ?_
                refine lv_dup hx hb d_Mo_recorded_87 rfl ?_
                refine g_get C0 hK il_Mo hP.1 rfl 8 (by decide) fl_Mo_37 rfl d_Mo_recorded_88 ?_
                refine lv_iconst (v := nI 1) hx hb d_Mo_recorded_91 (by decide +kernel) ?_
                refine g_iadd C0 (z := sts - 1 + 1) d_Mo_recorded_92 rfl ?_
                refine g_put (free := gRg o (o + 8)) C0 hK il_Mo tk_Mo nm_Mo hP.1 rfl 8 (by decide) fl_Mo_37 rfl rfl rfl (Nat.le_of_ble_eq_true rfl) d_Mo_recorded_93 hL (gRg.mk (by omega) (by omega)) (fun H_10 locs hL hA_11 hc_12 => ?_)
                have hA_11 : gE G o (eO 6 [.ref (o + 1), .ref (o + 2), .ref (o + 3), .ref (o + 4), .ref (o + 5), .ref (o + 6), .ref (o + 7), .int (nI ln), .int (nI (sts - 1 + 1)), .int (nI td), .int (nI ac)]) H_10 := hA_11
                refine lv_iload_n hx hb d_Mo_recorded_96 rfl (lv_at hl 2 rfl) ?_
                refine g_iret C0 hlk hr d_Mo_recorded_97 hL ?_
                exact ⟨rfl, (by rw [rcB, rcN, if_pos c_6, if_pos c_6]; exact ⟨hA_11, (hP.2.1.ch hc_12 (by omega)), (hP.2.2.1.ch hc_12 (by omega)), (hP.2.2.2.1.ch hc_12 (by omega)), (hP.2.2.2.2.1.ch hc_12 (by omega)), (hP.2.2.2.2.2.1.ch hc_12 (by omega)), (hP.2.2.2.2.2.2.1.ch hc_12 (by omega)), (hP.2.2.2.2.2.2.2.ch hc_12 (by omega))⟩), (hF.tr (gFr.ch hc_12 (by omega) (by omega)))⟩
              · skip
                refine lv_aload_n hx hb d_Mo_recorded_59 rfl (lv_at hl 1 rfl) ?_
                refine g_get C0 hK il_Mo hP.1 rfl 2 (by decide) fl_Mo_16 rfl d_Mo_recorded_60 ?_
                refine lv_sipush (v := nI 541) hx hb d_Mo_recorded_63 (by decide +kernel) ?_
                refine lv_aload_n hx hb d_Mo_recorded_66 rfl (lv_at hl 1 rfl) ?_
                refine g_get C0 hK il_Mo hP.1 rfl 8 (by decide) fl_Mo_37 rfl d_Mo_recorded_67 ?_
                refine g_imul C0 (z := 541 * (sts - 1)) d_Mo_recorded_70 rfl ?_
                refine lv_iload_n hx hb d_Mo_recorded_71 rfl (lv_at hl 0 rfl) ?_
                refine g_iadd C0 (z := 541 * (sts - 1) + n) d_Mo_recorded_72 rfl ?_
                refine lv_aload_n hx hb d_Mo_recorded_73 rfl (lv_at hl 1 rfl) ?_
                refine g_get C0 hK il_Mo hP.1 rfl 1 (by decide) fl_Mo_13 rfl d_Mo_recorded_74 ?_
                refine lv_iload_n hx hb d_Mo_recorded_77 rfl (lv_at hl 0 rfl) ?_
                refine g_iald C0 hK hP.2.2.1 (by omega) (by omega) d_Mo_recorded_78 ?_
                refine g_iast (free := gRg o (o + 8)) C0 hK hP.2.2.2.1 (by omega) (by omega) d_Mo_recorded_79 hL (gRg.mk (by omega) (by omega)) (fun H_13 locs hL hA_14 hc_15 => ?_)
                refine lv_iinc (v := (nI (n + 1))) (lv' := [(2, .int (nI (n + 1))), (0, .ref o), (1, .int x)]) hx hb d_Mo_recorded_80 hl (k := 0) rfl (gI_inc _) (by decide) rfl (fun ls hl => ?_)
                refine lv_goto (tgt := 52) hx hb d_Mo_recorded_83 (by decide) ?_
                exact ih52 (n + 1) H_13 locs (by omega) (by omega) hL (by rw [← ovo_s]; exact ⟨(hP.1.ch hc_15 (by omega)), (hP.2.1.ch hc_15 (by omega)), (hP.2.2.1.ch hc_15 (by omega)), hA_14, (hP.2.2.2.2.1.ch hc_15 (by omega)), (hP.2.2.2.2.2.1.ch hc_15 (by omega)), (hP.2.2.2.2.2.2.1.ch hc_15 (by omega)), (hP.2.2.2.2.2.2.2.ch hc_15 (by omega))⟩) (hF.tr (gFr.ch hc_15 (by omega) (by omega))) ls (lv_sub hl [0, 1, 2] rfl)
          exact lp52 ((541 - 0) + 1) 0 H_7 locs (by omega) (by omega) hL (by rw [ovo_0]; exact ⟨hA_8, (hP.2.1.ch hc_9 (by omega)), (hP.2.2.1.ch hc_9 (by omega)), (hP.2.2.2.1.ch hc_9 (by omega)), (hP.2.2.2.2.1.ch hc_9 (by omega)), (hP.2.2.2.2.2.1.ch hc_9 (by omega)), (hP.2.2.2.2.2.2.1.ch hc_9 (by omega)), (hP.2.2.2.2.2.2.2.ch hc_9 (by omega))⟩) (hF.tr (gFr.ch hc_9 (by omega) (by omega))) ls (lv_sub hl [0, 1, 2] rfl)
        · skip
          refine lv_aload_n hx hb d_Mo_recorded_18 rfl (lv_at hl 1 rfl) ?_
          refine g_get C0 hK il_Mo hP.1 rfl 2 (by decide) fl_Mo_16 rfl d_Mo_recorded_19 ?_
          refine lv_iload_n hx hb d_Mo_recorded_22 rfl (lv_at hl 0 rfl) ?_
          refine lv_aload_n hx hb d_Mo_recorded_23 rfl (lv_at hl 1 rfl) ?_
          refine g_get C0 hK il_Mo hP.1 rfl 2 (by decide) fl_Mo_16 rfl d_Mo_recorded_24 ?_
          refine lv_sipush (v := nI 541) hx hb d_Mo_recorded_27 (by decide +kernel) ?_
          refine lv_iload_n hx hb d_Mo_recorded_30 rfl (lv_at hl 0 rfl) ?_
          refine g_iadd C0 (z := 541 + i) d_Mo_recorded_31 rfl ?_
          refine g_iald C0 hK hP.2.2.2.1 (by omega) (by omega) d_Mo_recorded_32 ?_
          refine g_iast (free := gRg o (o + 8)) C0 hK hP.2.2.2.1 (by omega) (by omega) d_Mo_recorded_33 hL (gRg.mk (by omega) (by omega)) (fun H_16 locs hL hA_17 hc_18 => ?_)
          refine lv_iinc (v := (nI (i + 1))) (lv' := [(2, .int (nI (i + 1))), (0, .ref o), (1, .int x)]) hx hb d_Mo_recorded_34 hl (k := 0) rfl (gI_inc _) (by decide) rfl (fun ls hl => ?_)
          refine lv_goto (tgt := 11) hx hb d_Mo_recorded_37 (by decide) ?_
          exact ih11 (i + 1) H_16 locs (by omega) (by omega) hL (by rw [← shB_s]; exact ⟨(hP.1.ch hc_18 (by omega)), (hP.2.1.ch hc_18 (by omega)), (hP.2.2.1.ch hc_18 (by omega)), hA_17, (hP.2.2.2.2.1.ch hc_18 (by omega)), (hP.2.2.2.2.2.1.ch hc_18 (by omega)), (hP.2.2.2.2.2.2.1.ch hc_18 (by omega)), (hP.2.2.2.2.2.2.2.ch hc_18 (by omega))⟩) (hF.tr (gFr.ch hc_18 (by omega) (by omega))) ls (lv_sub hl [0, 1, 2] rfl)
    exact lp11 ((2705 - 0) + 1) 0 s.heap [] (by omega) (by omega) (t_nil (free := gRg o (o + 8))) (by rw [shB_0]; exact ⟨hP.1, hP.2.1, hP.2.2.1, hP.2.2.2.1, hP.2.2.2.2.1, hP.2.2.2.2.2.1, hP.2.2.2.2.2.2.1, hP.2.2.2.2.2.2.2⟩) gFr.rf ls (lv_sub hl [0, 1, 2] rfl)

set_option maxHeartbeats 4000000 in
set_option maxRecDepth 100000 in
theorem k_Mo_readsName (l : Launch) (G : gT) (o : Nat) (S sp bf sv iz rr pd : Nat → Nat) (ln sts td ac : Nat) (hln : ln ≤ 80) (hpd : ∀ k, k < 80 → pd k < 2 ^ 16) (hac : ac ≤ ln) (htd : td ≤ 29) : gM l y_Mo_readsName c_Mo_readsName 3 (some .boolean) 1 20 0 0 G [.ref o] (fun H => MAt G o S sp bf sv iz rr pd ln sts td ac H) (wi (.int (bI (decide (1 < wEnd pd ln ac - ac)))) (fun H H1 => MAt G o S sp bf sv iz (rUp rr td ac (wEnd pd ln ac)) pd ln sts (td + (if 1 < wEnd pd ln ac - ac then 1 else 0)) (wEnd pd ln ac) H1 ∧ gFr o (o + 8) H H1)) (gRg o (o + 8)) := by
  refine g_enter "GaleNamesModel" (by decide +kernel) rfl (Nat.le_of_ble_eq_true rfl) ?_
  intro p e s m args below meth c C0 hlk hr hnm hP hK ls hl
  have hx := C0.1
  have hb := C0.2.1
  have hl : lv_has ls 3 [(0, .ref o)] := hl
  refine lv_aload_n hx hb d_Mo_readsName_0 rfl (lv_at hl 0 rfl) ?_
  refine g_get C0 hK il_Mo hP.1 rfl 10 (by decide) fl_Mo_41 rfl d_Mo_readsName_1 ?_
  refine lv_istore_n (lv' := [(1, .int (nI ac)), (0, .ref o)]) hx hb d_Mo_readsName_4 rfl hl (by decide) rfl (fun ls hl => ?_)
  have lp5 : ∀ (fu : Nat) (t : Nat) (H : Heap) (locs : List Loc), (6 - t) < fu → t ≤ 6 → ac + t ≤ ln → (∀ j, j < t → (fun j => mLt pd ln (ac + j)) j = true) → (∀ qq ∈ locs, (gRg o (o + 8)) qq.base) → MAt G o S sp bf sv iz rr pd ln sts td (ac + t) H → gFr o (o + 8) s.heap H → ∀ ls : Array Slot, lv_has ls 3 [(1, .int (nI ac)), (0, .ref o)] → W p l e ({ frames := 1, cells := 0, slots := 0, locals := 20 } : Room) s m args below meth c H locs 0 0 (MQ below (gQ (wi (.int (bI (decide (1 < wEnd pd ln ac - ac)))) (fun H H1 => MAt G o S sp bf sv iz (rUp rr td ac (wEnd pd ln ac)) pd ln sts (td + (if 1 < wEnd pd ln ac - ac then 1 else 0)) (wEnd pd ln ac) H1 ∧ gFr o (o + 8) H H1))) args s 0 0 (gRg o (o + 8))) (F0 m 5 ls []) := by
    intro fu
    induction fu with
    | zero => intro t H locs hfu; exact absurd hfu (Nat.not_lt_zero _)
    | succ fu ih5 =>
      intro t H locs hfu ht hal hj hL hP hF ls hl
      refine lv_aload_n hx hb d_Mo_readsName_5 rfl (lv_at hl 1 rfl) ?_
      refine g_get C0 hK il_Mo hP.1 rfl 10 (by decide) fl_Mo_41 rfl d_Mo_readsName_6 ?_
      refine lv_iload_n hx hb d_Mo_readsName_9 rfl (lv_at hl 0 rfl) ?_
      refine g_isub C0 (z := (ac + t) - ac) d_Mo_readsName_10 (by omega) ?_
      refine lv_bipush (v := nI 6) hx hb d_Mo_readsName_11 (by decide +kernel) ?_
      refine g_cge (tgt := 36) C0 d_Mo_readsName_13 (by decide) (by first | omega | exact hM.b (by omega) | exact hR.p (by omega)) (by first | omega | exact hM.b (by omega) | exact hR.p (by omega)) (fun c_13 => ?_) (fun c_13 => ?_)
      · skip
        have he : wEnd pd ln ac = ac + t := by
          unfold wEnd
          rw [pfx_at (i := t) (by omega) hj (fun h6 => by first | exact absurd h6 (by omega) | exact c_20)]
        rw [he]
        refine lv_aload_n hx hb d_Mo_readsName_36 rfl (lv_at hl 1 rfl) ?_
        refine g_get C0 hK il_Mo hP.1 rfl 5 (by decide) fl_Mo_26 rfl d_Mo_readsName_37 ?_
        refine lv_iconst (v := nI 2) hx hb d_Mo_readsName_40 (by decide +kernel) ?_
        refine lv_aload_n hx hb d_Mo_readsName_41 rfl (lv_at hl 1 rfl) ?_
        refine g_get C0 hK il_Mo hP.1 rfl 9 (by decide) fl_Mo_51 rfl d_Mo_readsName_42 ?_
        refine g_imul C0 (z := 2 * td) d_Mo_readsName_45 rfl ?_
        refine lv_iload_n hx hb d_Mo_readsName_46 rfl (lv_at hl 0 rfl) ?_
        refine g_iast (free := gRg o (o + 8)) C0 hK hP.2.2.2.2.2.2.1 (by omega) (by omega) d_Mo_readsName_47 hL (gRg.mk (by omega) (by omega)) (fun H_1 locs hL hA_2 hc_3 => ?_)
        refine lv_aload_n hx hb d_Mo_readsName_48 rfl (lv_at hl 1 rfl) ?_
        refine g_get C0 hK il_Mo (hP.1.ch hc_3 (by omega)) rfl 5 (by decide) fl_Mo_26 rfl d_Mo_readsName_49 ?_
        refine lv_iconst (v := nI 2) hx hb d_Mo_readsName_52 (by decide +kernel) ?_
        refine lv_aload_n hx hb d_Mo_readsName_53 rfl (lv_at hl 1 rfl) ?_
        refine g_get C0 hK il_Mo (hP.1.ch hc_3 (by omega)) rfl 9 (by decide) fl_Mo_51 rfl d_Mo_readsName_54 ?_
        refine g_imul C0 (z := 2 * td) d_Mo_readsName_57 rfl ?_
        refine lv_iconst (v := nI 1) hx hb d_Mo_readsName_58 (by decide +kernel) ?_
        refine g_iadd C0 (z := 2 * td + 1) d_Mo_readsName_59 rfl ?_
        refine lv_aload_n hx hb d_Mo_readsName_60 rfl (lv_at hl 1 rfl) ?_
        refine g_get C0 hK il_Mo (hP.1.ch hc_3 (by omega)) rfl 10 (by decide) fl_Mo_41 rfl d_Mo_readsName_61 ?_
        refine lv_iload_n hx hb d_Mo_readsName_64 rfl (lv_at hl 0 rfl) ?_
        refine g_isub C0 (z := (ac + t) - ac) d_Mo_readsName_65 (by omega) ?_
        refine g_iast (free := gRg o (o + 8)) C0 hK hA_2 (by omega) (by omega) d_Mo_readsName_66 hL (gRg.mk (by omega) (by omega)) (fun H_4 locs hL hA_5 hc_6 => ?_)
        refine lv_aload_n hx hb d_Mo_readsName_67 rfl (lv_at hl 1 rfl) ?_
        refine g_get C0 hK il_Mo ((hP.1.ch hc_3 (by omega)).ch hc_6 (by omega)) rfl 10 (by decide) fl_Mo_41 rfl d_Mo_readsName_68 ?_
        refine lv_iload_n hx hb d_Mo_readsName_71 rfl (lv_at hl 0 rfl) ?_
        refine g_isub C0 (z := (ac + t) - ac) d_Mo_readsName_72 (by omega) ?_
        refine lv_iconst (v := nI 1) hx hb d_Mo_readsName_73 (by decide +kernel) ?_
        refine g_cle (tgt := 81) C0 d_Mo_readsName_74 (by decide) (by first | omega | exact hM.b (by omega) | exact hR.p (by omega)) (by first | omega | exact hM.b (by omega) | exact hR.p (by omega)) (fun c_74 => ?_) (fun c_74 => ?_)
        · skip
          refine lv_iconst (v := nI 0) hx hb d_Mo_readsName_81 (by decide +kernel) ?_
          refine lv_istore_n (lv' := [(2, .int (nI 0)), (1, .int (nI ac)), (0, .ref o)]) hx hb d_Mo_readsName_82 rfl hl (by decide) rfl (fun ls hl => ?_)
          refine lv_aload_n hx hb d_Mo_readsName_83 rfl (lv_at hl 2 rfl) ?_
          refine lv_dup hx hb d_Mo_readsName_84 rfl ?_
          refine g_get C0 hK il_Mo ((hP.1.ch hc_3 (by omega)).ch hc_6 (by omega)) rfl 9 (by decide) fl_Mo_51 rfl d_Mo_readsName_85 ?_
          refine lv_iload_n hx hb d_Mo_readsName_88 rfl (lv_at hl 0 rfl) ?_
          refine lv_if_eq (tgt := 96) hx hb d_Mo_readsName_89 (by decide) (fun c_89 => ?_) (fun c_89 => ?_)
          · skip
            refine lv_iconst (v := nI 0) hx hb d_Mo_readsName_96 (by decide +kernel) ?_
            refine g_iadd C0 (z := td) d_Mo_readsName_97 rfl ?_
            refine g_put (free := gRg o (o + 8)) C0 hK il_Mo tk_Mo nm_Mo ((hP.1.ch hc_3 (by omega)).ch hc_6 (by omega)) rfl 9 (by decide) fl_Mo_51 rfl rfl rfl (Nat.le_of_ble_eq_true rfl) d_Mo_readsName_98 hL (gRg.mk (by omega) (by omega)) (fun H_7 locs hL hA_8 hc_9 => ?_)
            have hA_8 : gE G o (eO 6 [.ref (o + 1), .ref (o + 2), .ref (o + 3), .ref (o + 4), .ref (o + 5), .ref (o + 6), .ref (o + 7), .int (nI ln), .int (nI sts), .int (nI td), .int (nI (ac + t))]) H_7 := hA_8
            refine lv_iload_n hx hb d_Mo_readsName_101 rfl (lv_at hl 0 rfl) ?_
            refine g_zret (b := false) C0 hlk hr d_Mo_readsName_102 hL ?_
            exact ⟨rdB (decide_eq_false (by omega)), (by rw [if_neg (by omega)]; exact ⟨hA_8, (((hP.2.1.ch hc_3 (by omega)).ch hc_6 (by omega)).ch hc_9 (by omega)), (((hP.2.2.1.ch hc_3 (by omega)).ch hc_6 (by omega)).ch hc_9 (by omega)), (((hP.2.2.2.1.ch hc_3 (by omega)).ch hc_6 (by omega)).ch hc_9 (by omega)), (((hP.2.2.2.2.1.ch hc_3 (by omega)).ch hc_6 (by omega)).ch hc_9 (by omega)), (((hP.2.2.2.2.2.1.ch hc_3 (by omega)).ch hc_6 (by omega)).ch hc_9 (by omega)), (hA_5.ch hc_9 (by omega)), (((hP.2.2.2.2.2.2.2.ch hc_3 (by omega)).ch hc_6 (by omega)).ch hc_9 (by omega))⟩), (((hF.tr (gFr.ch hc_3 (by omega) (by omega))).tr (gFr.ch hc_6 (by omega) (by omega))).tr (gFr.ch hc_9 (by omega) (by omega)))⟩
          · first | exact absurd c_89 (by decide) | exact absurd rfl c_89
        · skip
          refine lv_iconst (v := nI 1) hx hb d_Mo_readsName_77 (by decide +kernel) ?_
          refine lv_goto (tgt := 82) hx hb d_Mo_readsName_78 (by decide) ?_
          refine lv_istore_n (lv' := [(2, .int (nI 1)), (1, .int (nI ac)), (0, .ref o)]) hx hb d_Mo_readsName_82 rfl hl (by decide) rfl (fun ls hl => ?_)
          refine lv_aload_n hx hb d_Mo_readsName_83 rfl (lv_at hl 2 rfl) ?_
          refine lv_dup hx hb d_Mo_readsName_84 rfl ?_
          refine g_get C0 hK il_Mo ((hP.1.ch hc_3 (by omega)).ch hc_6 (by omega)) rfl 9 (by decide) fl_Mo_51 rfl d_Mo_readsName_85 ?_
          refine lv_iload_n hx hb d_Mo_readsName_88 rfl (lv_at hl 0 rfl) ?_
          refine lv_if_eq (tgt := 96) hx hb d_Mo_readsName_89 (by decide) (fun c_89 => ?_) (fun c_89 => ?_)
          · first | exact absurd c_89 (by decide) | exact absurd rfl c_89
          · skip
            refine lv_iconst (v := nI 1) hx hb d_Mo_readsName_92 (by decide +kernel) ?_
            refine lv_goto (tgt := 97) hx hb d_Mo_readsName_93 (by decide) ?_
            refine g_iadd C0 (z := td + 1) d_Mo_readsName_97 rfl ?_
            refine g_put (free := gRg o (o + 8)) C0 hK il_Mo tk_Mo nm_Mo ((hP.1.ch hc_3 (by omega)).ch hc_6 (by omega)) rfl 9 (by decide) fl_Mo_51 rfl rfl rfl (Nat.le_of_ble_eq_true rfl) d_Mo_readsName_98 hL (gRg.mk (by omega) (by omega)) (fun H_10 locs hL hA_11 hc_12 => ?_)
            have hA_11 : gE G o (eO 6 [.ref (o + 1), .ref (o + 2), .ref (o + 3), .ref (o + 4), .ref (o + 5), .ref (o + 6), .ref (o + 7), .int (nI ln), .int (nI sts), .int (nI (td + 1)), .int (nI (ac + t))]) H_10 := hA_11
            refine lv_iload_n hx hb d_Mo_readsName_101 rfl (lv_at hl 0 rfl) ?_
            refine g_zret (b := true) C0 hlk hr d_Mo_readsName_102 hL ?_
            exact ⟨rdB (decide_eq_true (by omega)), (by rw [if_pos (by omega)]; exact ⟨hA_11, (((hP.2.1.ch hc_3 (by omega)).ch hc_6 (by omega)).ch hc_12 (by omega)), (((hP.2.2.1.ch hc_3 (by omega)).ch hc_6 (by omega)).ch hc_12 (by omega)), (((hP.2.2.2.1.ch hc_3 (by omega)).ch hc_6 (by omega)).ch hc_12 (by omega)), (((hP.2.2.2.2.1.ch hc_3 (by omega)).ch hc_6 (by omega)).ch hc_12 (by omega)), (((hP.2.2.2.2.2.1.ch hc_3 (by omega)).ch hc_6 (by omega)).ch hc_12 (by omega)), (hA_5.ch hc_12 (by omega)), (((hP.2.2.2.2.2.2.2.ch hc_3 (by omega)).ch hc_6 (by omega)).ch hc_12 (by omega))⟩), (((hF.tr (gFr.ch hc_3 (by omega) (by omega))).tr (gFr.ch hc_6 (by omega) (by omega))).tr (gFr.ch hc_12 (by omega) (by omega)))⟩
      · skip
        refine lv_aload_n hx hb d_Mo_readsName_16 rfl (lv_at hl 1 rfl) ?_
        refine g_V C0 (k_Mo_isLetter l G o S sp bf sv iz rr pd ln sts td (ac + t) (by omega) hpd (by omega)) co_Mo_isLetter im_Mo_isLetter se_Mo_isLetter in_Mo gc_Mo_isLetter ml_Mo_47 ⟨Nat.le_of_ble_eq_true rfl, Nat.le_of_ble_eq_true rfl⟩ hK hP.1 rfl ⟨hP.1, hP.2.1, hP.2.2.1, hP.2.2.2.1, hP.2.2.2.2.1, hP.2.2.2.2.2.1, hP.2.2.2.2.2.2.1, hP.2.2.2.2.2.2.2⟩ rfl hl.1 rfl (Nat.le_of_ble_eq_true rfl) d_Mo_readsName_17 ⟨Nat.le_of_ble_eq_true rfl, Nat.le_of_ble_eq_true rfl⟩ (g_r rfl ?_)
        refine g_zeq (tgt := 36) C0 d_Mo_readsName_20 (by decide) (fun c_20 => ?_) (fun c_20 => ?_)
        · skip
          have he : wEnd pd ln ac = ac + t := by
            unfold wEnd
            rw [pfx_at (i := t) (by omega) hj (fun h6 => by first | exact absurd h6 (by omega) | exact c_20)]
          rw [he]
          refine lv_aload_n hx hb d_Mo_readsName_36 rfl (lv_at hl 1 rfl) ?_
          refine g_get C0 hK il_Mo hP.1 rfl 5 (by decide) fl_Mo_26 rfl d_Mo_readsName_37 ?_
          refine lv_iconst (v := nI 2) hx hb d_Mo_readsName_40 (by decide +kernel) ?_
          refine lv_aload_n hx hb d_Mo_readsName_41 rfl (lv_at hl 1 rfl) ?_
          refine g_get C0 hK il_Mo hP.1 rfl 9 (by decide) fl_Mo_51 rfl d_Mo_readsName_42 ?_
          refine g_imul C0 (z := 2 * td) d_Mo_readsName_45 rfl ?_
          refine lv_iload_n hx hb d_Mo_readsName_46 rfl (lv_at hl 0 rfl) ?_
          refine g_iast (free := gRg o (o + 8)) C0 hK hP.2.2.2.2.2.2.1 (by omega) (by omega) d_Mo_readsName_47 hL (gRg.mk (by omega) (by omega)) (fun H_13 locs hL hA_14 hc_15 => ?_)
          refine lv_aload_n hx hb d_Mo_readsName_48 rfl (lv_at hl 1 rfl) ?_
          refine g_get C0 hK il_Mo (hP.1.ch hc_15 (by omega)) rfl 5 (by decide) fl_Mo_26 rfl d_Mo_readsName_49 ?_
          refine lv_iconst (v := nI 2) hx hb d_Mo_readsName_52 (by decide +kernel) ?_
          refine lv_aload_n hx hb d_Mo_readsName_53 rfl (lv_at hl 1 rfl) ?_
          refine g_get C0 hK il_Mo (hP.1.ch hc_15 (by omega)) rfl 9 (by decide) fl_Mo_51 rfl d_Mo_readsName_54 ?_
          refine g_imul C0 (z := 2 * td) d_Mo_readsName_57 rfl ?_
          refine lv_iconst (v := nI 1) hx hb d_Mo_readsName_58 (by decide +kernel) ?_
          refine g_iadd C0 (z := 2 * td + 1) d_Mo_readsName_59 rfl ?_
          refine lv_aload_n hx hb d_Mo_readsName_60 rfl (lv_at hl 1 rfl) ?_
          refine g_get C0 hK il_Mo (hP.1.ch hc_15 (by omega)) rfl 10 (by decide) fl_Mo_41 rfl d_Mo_readsName_61 ?_
          refine lv_iload_n hx hb d_Mo_readsName_64 rfl (lv_at hl 0 rfl) ?_
          refine g_isub C0 (z := (ac + t) - ac) d_Mo_readsName_65 (by omega) ?_
          refine g_iast (free := gRg o (o + 8)) C0 hK hA_14 (by omega) (by omega) d_Mo_readsName_66 hL (gRg.mk (by omega) (by omega)) (fun H_16 locs hL hA_17 hc_18 => ?_)
          refine lv_aload_n hx hb d_Mo_readsName_67 rfl (lv_at hl 1 rfl) ?_
          refine g_get C0 hK il_Mo ((hP.1.ch hc_15 (by omega)).ch hc_18 (by omega)) rfl 10 (by decide) fl_Mo_41 rfl d_Mo_readsName_68 ?_
          refine lv_iload_n hx hb d_Mo_readsName_71 rfl (lv_at hl 0 rfl) ?_
          refine g_isub C0 (z := (ac + t) - ac) d_Mo_readsName_72 (by omega) ?_
          refine lv_iconst (v := nI 1) hx hb d_Mo_readsName_73 (by decide +kernel) ?_
          refine g_cle (tgt := 81) C0 d_Mo_readsName_74 (by decide) (by first | omega | exact hM.b (by omega) | exact hR.p (by omega)) (by first | omega | exact hM.b (by omega) | exact hR.p (by omega)) (fun c_74 => ?_) (fun c_74 => ?_)
          · skip
            refine lv_iconst (v := nI 0) hx hb d_Mo_readsName_81 (by decide +kernel) ?_
            refine lv_istore_n (lv' := [(2, .int (nI 0)), (1, .int (nI ac)), (0, .ref o)]) hx hb d_Mo_readsName_82 rfl hl (by decide) rfl (fun ls hl => ?_)
            refine lv_aload_n hx hb d_Mo_readsName_83 rfl (lv_at hl 2 rfl) ?_
            refine lv_dup hx hb d_Mo_readsName_84 rfl ?_
            refine g_get C0 hK il_Mo ((hP.1.ch hc_15 (by omega)).ch hc_18 (by omega)) rfl 9 (by decide) fl_Mo_51 rfl d_Mo_readsName_85 ?_
            refine lv_iload_n hx hb d_Mo_readsName_88 rfl (lv_at hl 0 rfl) ?_
            refine lv_if_eq (tgt := 96) hx hb d_Mo_readsName_89 (by decide) (fun c_89 => ?_) (fun c_89 => ?_)
            · skip
              refine lv_iconst (v := nI 0) hx hb d_Mo_readsName_96 (by decide +kernel) ?_
              refine g_iadd C0 (z := td) d_Mo_readsName_97 rfl ?_
              refine g_put (free := gRg o (o + 8)) C0 hK il_Mo tk_Mo nm_Mo ((hP.1.ch hc_15 (by omega)).ch hc_18 (by omega)) rfl 9 (by decide) fl_Mo_51 rfl rfl rfl (Nat.le_of_ble_eq_true rfl) d_Mo_readsName_98 hL (gRg.mk (by omega) (by omega)) (fun H_19 locs hL hA_20 hc_21 => ?_)
              have hA_20 : gE G o (eO 6 [.ref (o + 1), .ref (o + 2), .ref (o + 3), .ref (o + 4), .ref (o + 5), .ref (o + 6), .ref (o + 7), .int (nI ln), .int (nI sts), .int (nI td), .int (nI (ac + t))]) H_19 := hA_20
              refine lv_iload_n hx hb d_Mo_readsName_101 rfl (lv_at hl 0 rfl) ?_
              refine g_zret (b := false) C0 hlk hr d_Mo_readsName_102 hL ?_
              exact ⟨rdB (decide_eq_false (by omega)), (by rw [if_neg (by omega)]; exact ⟨hA_20, (((hP.2.1.ch hc_15 (by omega)).ch hc_18 (by omega)).ch hc_21 (by omega)), (((hP.2.2.1.ch hc_15 (by omega)).ch hc_18 (by omega)).ch hc_21 (by omega)), (((hP.2.2.2.1.ch hc_15 (by omega)).ch hc_18 (by omega)).ch hc_21 (by omega)), (((hP.2.2.2.2.1.ch hc_15 (by omega)).ch hc_18 (by omega)).ch hc_21 (by omega)), (((hP.2.2.2.2.2.1.ch hc_15 (by omega)).ch hc_18 (by omega)).ch hc_21 (by omega)), (hA_17.ch hc_21 (by omega)), (((hP.2.2.2.2.2.2.2.ch hc_15 (by omega)).ch hc_18 (by omega)).ch hc_21 (by omega))⟩), (((hF.tr (gFr.ch hc_15 (by omega) (by omega))).tr (gFr.ch hc_18 (by omega) (by omega))).tr (gFr.ch hc_21 (by omega) (by omega)))⟩
            · first | exact absurd c_89 (by decide) | exact absurd rfl c_89
          · skip
            refine lv_iconst (v := nI 1) hx hb d_Mo_readsName_77 (by decide +kernel) ?_
            refine lv_goto (tgt := 82) hx hb d_Mo_readsName_78 (by decide) ?_
            refine lv_istore_n (lv' := [(2, .int (nI 1)), (1, .int (nI ac)), (0, .ref o)]) hx hb d_Mo_readsName_82 rfl hl (by decide) rfl (fun ls hl => ?_)
            refine lv_aload_n hx hb d_Mo_readsName_83 rfl (lv_at hl 2 rfl) ?_
            refine lv_dup hx hb d_Mo_readsName_84 rfl ?_
            refine g_get C0 hK il_Mo ((hP.1.ch hc_15 (by omega)).ch hc_18 (by omega)) rfl 9 (by decide) fl_Mo_51 rfl d_Mo_readsName_85 ?_
            refine lv_iload_n hx hb d_Mo_readsName_88 rfl (lv_at hl 0 rfl) ?_
            refine lv_if_eq (tgt := 96) hx hb d_Mo_readsName_89 (by decide) (fun c_89 => ?_) (fun c_89 => ?_)
            · first | exact absurd c_89 (by decide) | exact absurd rfl c_89
            · skip
              refine lv_iconst (v := nI 1) hx hb d_Mo_readsName_92 (by decide +kernel) ?_
              refine lv_goto (tgt := 97) hx hb d_Mo_readsName_93 (by decide) ?_
              refine g_iadd C0 (z := td + 1) d_Mo_readsName_97 rfl ?_
              refine g_put (free := gRg o (o + 8)) C0 hK il_Mo tk_Mo nm_Mo ((hP.1.ch hc_15 (by omega)).ch hc_18 (by omega)) rfl 9 (by decide) fl_Mo_51 rfl rfl rfl (Nat.le_of_ble_eq_true rfl) d_Mo_readsName_98 hL (gRg.mk (by omega) (by omega)) (fun H_22 locs hL hA_23 hc_24 => ?_)
              have hA_23 : gE G o (eO 6 [.ref (o + 1), .ref (o + 2), .ref (o + 3), .ref (o + 4), .ref (o + 5), .ref (o + 6), .ref (o + 7), .int (nI ln), .int (nI sts), .int (nI (td + 1)), .int (nI (ac + t))]) H_22 := hA_23
              refine lv_iload_n hx hb d_Mo_readsName_101 rfl (lv_at hl 0 rfl) ?_
              refine g_zret (b := true) C0 hlk hr d_Mo_readsName_102 hL ?_
              exact ⟨rdB (decide_eq_true (by omega)), (by rw [if_pos (by omega)]; exact ⟨hA_23, (((hP.2.1.ch hc_15 (by omega)).ch hc_18 (by omega)).ch hc_24 (by omega)), (((hP.2.2.1.ch hc_15 (by omega)).ch hc_18 (by omega)).ch hc_24 (by omega)), (((hP.2.2.2.1.ch hc_15 (by omega)).ch hc_18 (by omega)).ch hc_24 (by omega)), (((hP.2.2.2.2.1.ch hc_15 (by omega)).ch hc_18 (by omega)).ch hc_24 (by omega)), (((hP.2.2.2.2.2.1.ch hc_15 (by omega)).ch hc_18 (by omega)).ch hc_24 (by omega)), (hA_17.ch hc_24 (by omega)), (((hP.2.2.2.2.2.2.2.ch hc_15 (by omega)).ch hc_18 (by omega)).ch hc_24 (by omega))⟩), (((hF.tr (gFr.ch hc_15 (by omega) (by omega))).tr (gFr.ch hc_18 (by omega) (by omega))).tr (gFr.ch hc_24 (by omega) (by omega)))⟩
        · skip
          refine lv_aload_n hx hb d_Mo_readsName_23 rfl (lv_at hl 1 rfl) ?_
          refine lv_dup hx hb d_Mo_readsName_24 rfl ?_
          refine g_get C0 hK il_Mo hP.1 rfl 10 (by decide) fl_Mo_41 rfl d_Mo_readsName_25 ?_
          refine lv_iconst (v := nI 1) hx hb d_Mo_readsName_28 (by decide +kernel) ?_
          refine g_iadd C0 (z := ac + t + 1) d_Mo_readsName_29 rfl ?_
          refine g_put (free := gRg o (o + 8)) C0 hK il_Mo tk_Mo nm_Mo hP.1 rfl 10 (by decide) fl_Mo_41 rfl rfl rfl (Nat.le_of_ble_eq_true rfl) d_Mo_readsName_30 hL (gRg.mk (by omega) (by omega)) (fun H_25 locs hL hA_26 hc_27 => ?_)
          have hA_26 : gE G o (eO 6 [.ref (o + 1), .ref (o + 2), .ref (o + 3), .ref (o + 4), .ref (o + 5), .ref (o + 6), .ref (o + 7), .int (nI ln), .int (nI sts), .int (nI td), .int (nI (ac + t + 1))]) H_25 := hA_26
          refine lv_goto (tgt := 5) hx hb d_Mo_readsName_33 (by decide) ?_
          exact ih5 (t + 1) H_25 locs (by omega) (by omega) (mLt_lt c_20) (all_s hj c_20) hL (⟨hA_26, (hP.2.1.ch hc_27 (by omega)), (hP.2.2.1.ch hc_27 (by omega)), (hP.2.2.2.1.ch hc_27 (by omega)), (hP.2.2.2.2.1.ch hc_27 (by omega)), (hP.2.2.2.2.2.1.ch hc_27 (by omega)), (hP.2.2.2.2.2.2.1.ch hc_27 (by omega)), (hP.2.2.2.2.2.2.2.ch hc_27 (by omega))⟩) (hF.tr (gFr.ch hc_27 (by omega) (by omega))) ls (lv_sub hl [0, 1] rfl)
  exact lp5 ((6 - 0) + 1) 0 s.heap [] (by omega) (by omega) (by omega) all_0 (t_nil (free := gRg o (o + 8))) (⟨hP.1, hP.2.1, hP.2.2.1, hP.2.2.2.1, hP.2.2.2.2.1, hP.2.2.2.2.2.1, hP.2.2.2.2.2.2.1, hP.2.2.2.2.2.2.2⟩) gFr.rf ls (lv_sub hl [0, 1] rfl)

theorem wEnd_ge (pd : Nat → Nat) (ln a : Nat) : a ≤ wEnd pd ln a := Nat.le_add_right _ _
theorem wEnd_le {pd : Nat → Nat} {ln a : Nat} (h : a ≤ ln) : wEnd pd ln a ≤ ln := by
  unfold wEnd
  rcases e : pfx (fun j => mLt pd ln (a + j)) 6 with _ | k
  · exact h
  · have h1 := pfx_t (p := fun j => mLt pd ln (a + j)) (n := 6) (j := k) (by rw [e]; exact Nat.lt_succ_self _)
    have h2 : a + k < ln := mLt_lt h1
    omega
def fQ (pd : Nat → Nat) (ln : Nat) : Nat → Nat → Nat → (Nat → Nat) → Bool → Nat × Nat × (Nat → Nat) × Bool
  | 0, a, t, r, b => (a, t, r, b)
  | u + 1, a, t, r, b => if b = true ∧ a < ln then (if pd a = 44 then fQ pd ln u (wEnd pd ln (a + 1)) (t + (if 1 < wEnd pd ln (a + 1) - (a + 1) then 1 else 0)) (rUp r t (a + 1) (wEnd pd ln (a + 1))) (decide (1 < wEnd pd ln (a + 1) - (a + 1))) else (a, t, r, false)) else (a, t, r, b)
theorem fQ_0 {pd : Nat → Nat} {ln u a t : Nat} {r : Nat → Nat} : fQ pd ln u a t r false = (a, t, r, false) := by
  cases u with
  | zero => rfl
  | succ u => unfold fQ; rw [if_neg (fun h => Bool.false_ne_true h.1)]
theorem fQ_e {pd : Nat → Nat} {ln u a t : Nat} {r : Nat → Nat} {b : Bool} (h : ¬ a < ln) : fQ pd ln u a t r b = (a, t, r, b) := by
  cases u with
  | zero => rfl
  | succ u => unfold fQ; rw [if_neg (fun q => h q.2)]
theorem fQ_c {pd : Nat → Nat} {ln u a t : Nat} {r : Nat → Nat} (h : a < ln) (h2 : pd a = 44) : fQ pd ln (u + 1) a t r true = fQ pd ln u (wEnd pd ln (a + 1)) (t + (if 1 < wEnd pd ln (a + 1) - (a + 1) then 1 else 0)) (rUp r t (a + 1) (wEnd pd ln (a + 1))) (decide (1 < wEnd pd ln (a + 1) - (a + 1))) := by
  rw [fQ, if_pos ⟨rfl, h⟩, if_pos h2]
theorem fQ_n {pd : Nat → Nat} {ln u a t : Nat} {r : Nat → Nat} (h : a < ln) (h2 : ¬ pd a = 44) : fQ pd ln (u + 1) a t r true = (a, t, r, false) := by
  rw [fQ, if_pos ⟨rfl, h⟩, if_neg h2]
def mFq (pd : Nat → Nat) (ln : Nat) (rr : Nat → Nat) : Nat × Nat × (Nat → Nat) × Bool := fQ pd ln 82 (wEnd pd ln 0) (0 + (if 1 < wEnd pd ln 0 - 0 then 1 else 0)) (rUp rr 0 0 (wEnd pd ln 0)) (decide (1 < wEnd pd ln 0 - 0))
def mFo (q : Nat × Nat × (Nat → Nat) × Bool) : Int32 := if q.2.2.2 = true then -1 else nI q.1

set_option maxHeartbeats 4000000 in
set_option maxRecDepth 100000 in
theorem k_Mo_faultOf (l : Launch) (G : gT) (o : Nat) (S sp bf sv iz rr pd : Nat → Nat) (ln sts td ac : Nat) (hln : ln ≤ 80) (hpd : ∀ k, k < 80 → pd k < 2 ^ 16)  : gM l y_Mo_faultOf c_Mo_faultOf 2 (some .int) 2 42 0 0 G [.ref o] (fun H => MAt G o S sp bf sv iz rr pd ln sts td ac H) (wi (.int (mFo (mFq pd ln rr))) (fun H H1 => MAt G o S sp bf sv iz ((mFq pd ln rr).2.2.1) pd ln sts ((mFq pd ln rr).2.1) ((mFq pd ln rr).1) H1 ∧ gFr o (o + 8) H H1)) (gRg o (o + 8)) := by
  refine g_enter "GaleNamesModel" (by decide +kernel) rfl (Nat.le_of_ble_eq_true rfl) ?_
  intro p e s m args below meth c C0 hlk hr hnm hP hK ls hl
  have hx := C0.1
  have hb := C0.2.1
  have hl : lv_has ls 2 [(0, .ref o)] := hl
  refine lv_aload_n hx hb d_Mo_faultOf_0 rfl (lv_at hl 0 rfl) ?_
  refine lv_iconst (v := nI 0) hx hb d_Mo_faultOf_1 (by decide +kernel) ?_
  refine g_put (free := gRg o (o + 8)) C0 hK il_Mo tk_Mo nm_Mo hP.1 rfl 10 (by decide) fl_Mo_41 rfl rfl rfl (Nat.le_of_ble_eq_true rfl) d_Mo_faultOf_2 (t_nil (free := gRg o (o + 8))) (gRg.mk (by omega) (by omega)) (fun H_1 locs hL hA_2 hc_3 => ?_)
  have hA_2 : gE G o (eO 6 [.ref (o + 1), .ref (o + 2), .ref (o + 3), .ref (o + 4), .ref (o + 5), .ref (o + 6), .ref (o + 7), .int (nI ln), .int (nI sts), .int (nI td), .int (nI 0)]) H_1 := hA_2
  refine lv_aload_n hx hb d_Mo_faultOf_5 rfl (lv_at hl 0 rfl) ?_
  refine lv_iconst (v := nI 0) hx hb d_Mo_faultOf_6 (by decide +kernel) ?_
  refine g_put (free := gRg o (o + 8)) C0 hK il_Mo tk_Mo nm_Mo hA_2 rfl 9 (by decide) fl_Mo_51 rfl rfl rfl (Nat.le_of_ble_eq_true rfl) d_Mo_faultOf_7 hL (gRg.mk (by omega) (by omega)) (fun H_4 locs hL hA_5 hc_6 => ?_)
  have hA_5 : gE G o (eO 6 [.ref (o + 1), .ref (o + 2), .ref (o + 3), .ref (o + 4), .ref (o + 5), .ref (o + 6), .ref (o + 7), .int (nI ln), .int (nI sts), .int (nI 0), .int (nI 0)]) H_4 := hA_5
  refine lv_aload_n hx hb d_Mo_faultOf_10 rfl (lv_at hl 0 rfl) ?_
  refine g_V C0 (k_Mo_readsName l G o S sp bf sv iz rr pd ln sts 0 0 (by omega) hpd (by omega) (by omega)) co_Mo_readsName im_Mo_readsName se_Mo_readsName in_Mo gc_Mo_readsName ml_Mo_54 ⟨Nat.le_of_ble_eq_true rfl, Nat.le_of_ble_eq_true rfl⟩ hK hA_5 rfl ⟨hA_5, ((hP.2.1.ch hc_3 (by omega)).ch hc_6 (by omega)), ((hP.2.2.1.ch hc_3 (by omega)).ch hc_6 (by omega)), ((hP.2.2.2.1.ch hc_3 (by omega)).ch hc_6 (by omega)), ((hP.2.2.2.2.1.ch hc_3 (by omega)).ch hc_6 (by omega)), ((hP.2.2.2.2.2.1.ch hc_3 (by omega)).ch hc_6 (by omega)), ((hP.2.2.2.2.2.2.1.ch hc_3 (by omega)).ch hc_6 (by omega)), ((hP.2.2.2.2.2.2.2.ch hc_3 (by omega)).ch hc_6 (by omega))⟩ rfl hl.1 rfl (Nat.le_of_ble_eq_true rfl) d_Mo_faultOf_11 ⟨Nat.le_of_ble_eq_true rfl, Nat.le_of_ble_eq_true rfl⟩ (g_wi (free := gRg o (o + 8)) hL (fun _ h => h) (fun H_7 locs hL ⟨hR_8, hf_9⟩ => ?_))
  refine lv_istore_n (lv' := [(1, .int (bI (decide (1 < wEnd pd ln 0 - 0)))), (0, .ref o)]) hx hb d_Mo_faultOf_14 rfl hl (by decide) rfl (fun ls hl => ?_)
  have lp15 : ∀ (fu : Nat) (a : Nat) (t : Nat) (r : Nat → Nat) (u : Nat) (b : Bool) (H : Heap) (locs : List Loc), (u) < fu → a ≤ ln → 3 * t ≤ a + 1 → (b = true → ln - a < u) → mFq pd ln rr = fQ pd ln u a t r b → (∀ qq ∈ locs, (gRg o (o + 8)) qq.base) → MAt G o S sp bf sv iz r pd ln sts t a H → gFr o (o + 8) s.heap H → ∀ ls : Array Slot, lv_has ls 2 [(1, .int (bI b)), (0, .ref o)] → W p l e ({ frames := 2, cells := 0, slots := 0, locals := 42 } : Room) s m args below meth c H locs 0 0 (MQ below (gQ (wi (.int (mFo (mFq pd ln rr))) (fun H H1 => MAt G o S sp bf sv iz ((mFq pd ln rr).2.2.1) pd ln sts ((mFq pd ln rr).2.1) ((mFq pd ln rr).1) H1 ∧ gFr o (o + 8) H H1))) args s 0 0 (gRg o (o + 8))) (F0 m 15 ls []) := by
    intro fu
    induction fu with
    | zero => intro a t r u b H locs hfu; exact absurd hfu (Nat.not_lt_zero _)
    | succ fu ih15 =>
      intro a t r u b H locs hfu hal h3 hu hq hL hP hF ls hl
      refine lv_iload_n hx hb d_Mo_faultOf_15 rfl (lv_at hl 0 rfl) ?_
      refine g_zeq (tgt := 88) C0 d_Mo_faultOf_16 (by decide) (fun c_16 => ?_) (fun c_16 => ?_)
      · skip
        refine lv_iload_n hx hb d_Mo_faultOf_88 rfl (lv_at hl 0 rfl) ?_
        refine g_zeq (tgt := 96) C0 d_Mo_faultOf_89 (by decide) (fun c_89 => ?_) (fun c_89 => ?_)
        · skip
          have hz : mFq pd ln rr = (a, t, r, false) := hq.trans (by rw [c_16]; exact fQ_0)
          refine lv_aload_n hx hb d_Mo_faultOf_96 rfl (lv_at hl 1 rfl) ?_
          refine g_get C0 hK il_Mo hP.1 rfl 10 (by decide) fl_Mo_41 rfl d_Mo_faultOf_97 ?_
          refine g_iret C0 hlk hr d_Mo_faultOf_100 hL ?_
          exact ⟨rdI (by rw [hz]; rfl), (by rw [hz]; exact ⟨hP.1, hP.2.1, hP.2.2.1, hP.2.2.2.1, hP.2.2.2.2.1, hP.2.2.2.2.2.1, hP.2.2.2.2.2.2.1, hP.2.2.2.2.2.2.2⟩), hF⟩
        · exact absurd (c_16.symm.trans c_89) (by decide)
      · skip
        have hu1 := hu c_16
        obtain ⟨u1, rfl⟩ : ∃ q, u = q + 1 := ⟨u - 1, by omega⟩
        refine lv_aload_n hx hb d_Mo_faultOf_19 rfl (lv_at hl 1 rfl) ?_
        refine g_get C0 hK il_Mo hP.1 rfl 10 (by decide) fl_Mo_41 rfl d_Mo_faultOf_20 ?_
        refine lv_aload_n hx hb d_Mo_faultOf_23 rfl (lv_at hl 1 rfl) ?_
        refine g_get C0 hK il_Mo hP.1 rfl 7 (by decide) fl_Mo_44 rfl d_Mo_faultOf_24 ?_
        refine g_cge (tgt := 88) C0 d_Mo_faultOf_27 (by decide) (by first | omega | exact Nat.lt_trans (hpd _ (by omega)) (by decide)) (by first | omega | exact Nat.lt_trans (hpd _ (by omega)) (by decide)) (fun c_27 => ?_) (fun c_27 => ?_)
        · skip
          refine lv_iload_n hx hb d_Mo_faultOf_88 rfl (lv_at hl 0 rfl) ?_
          refine g_zeq (tgt := 96) C0 d_Mo_faultOf_89 (by decide) (fun c_89 => ?_) (fun c_89 => ?_)
          · exact absurd (c_16.symm.trans c_89) (by decide)
          · skip
            have hz : mFq pd ln rr = (a, t, r, true) := hq.trans (by rw [c_16]; exact fQ_e (by omega))
            refine lv_iconst (v := -1) hx hb d_Mo_faultOf_92 (by decide +kernel) ?_
            refine lv_goto (tgt := 100) hx hb d_Mo_faultOf_93 (by decide) ?_
            refine g_iret C0 hlk hr d_Mo_faultOf_100 hL ?_
            exact ⟨rdI (by rw [hz]; rfl), (by rw [hz]; exact ⟨hP.1, hP.2.1, hP.2.2.1, hP.2.2.2.1, hP.2.2.2.2.1, hP.2.2.2.2.2.1, hP.2.2.2.2.2.2.1, hP.2.2.2.2.2.2.2⟩), hF⟩
        · skip
          have c_27 : a < ln := by omega
          refine lv_aload_n hx hb d_Mo_faultOf_30 rfl (lv_at hl 1 rfl) ?_
          refine g_get C0 hK il_Mo hP.1 rfl 6 (by decide) fl_Mo_29 rfl d_Mo_faultOf_31 ?_
          refine lv_aload_n hx hb d_Mo_faultOf_34 rfl (lv_at hl 1 rfl) ?_
          refine g_get C0 hK il_Mo hP.1 rfl 10 (by decide) fl_Mo_41 rfl d_Mo_faultOf_35 ?_
          refine g_cald C0 hK hP.2.2.2.2.2.2.2 (by omega) (by omega) d_Mo_faultOf_38 ?_
          refine lv_bipush (v := nI 44) hx hb d_Mo_faultOf_39 (by decide +kernel) ?_
          refine g_cne (tgt := 48) C0 d_Mo_faultOf_41 (by decide) (by first | omega | exact Nat.lt_trans (hpd _ (by omega)) (by decide)) (by first | omega | exact Nat.lt_trans (hpd _ (by omega)) (by decide)) (fun c_41 => ?_) (fun c_41 => ?_)
          · skip
            refine lv_iconst (v := nI 0) hx hb d_Mo_faultOf_48 (by decide +kernel) ?_
            refine lv_istore_n (lv' := [(1, .int (nI 0)), (0, .ref o)]) hx hb d_Mo_faultOf_49 rfl hl (by decide) rfl (fun ls hl => ?_)
            refine lv_aload_n hx hb d_Mo_faultOf_50 rfl (lv_at hl 1 rfl) ?_
            refine lv_dup hx hb d_Mo_faultOf_51 rfl ?_
            refine g_get C0 hK il_Mo hP.1 rfl 10 (by decide) fl_Mo_41 rfl d_Mo_faultOf_52 ?_
            refine lv_iload_n hx hb d_Mo_faultOf_55 rfl (lv_at hl 0 rfl) ?_
            refine lv_if_eq (tgt := 63) hx hb d_Mo_faultOf_56 (by decide) (fun c_56 => ?_) (fun c_56 => ?_)
            · skip
              refine lv_iconst (v := nI 0) hx hb d_Mo_faultOf_63 (by decide +kernel) ?_
              refine g_iadd C0 (z := a) d_Mo_faultOf_64 rfl ?_
              refine g_put (free := gRg o (o + 8)) C0 hK il_Mo tk_Mo nm_Mo hP.1 rfl 10 (by decide) fl_Mo_41 rfl rfl rfl (Nat.le_of_ble_eq_true rfl) d_Mo_faultOf_65 hL (gRg.mk (by omega) (by omega)) (fun H_10 locs hL hA_11 hc_12 => ?_)
              have hA_11 : gE G o (eO 6 [.ref (o + 1), .ref (o + 2), .ref (o + 3), .ref (o + 4), .ref (o + 5), .ref (o + 6), .ref (o + 7), .int (nI ln), .int (nI sts), .int (nI t), .int (nI a)]) H_10 := hA_11
              refine lv_iload_n hx hb d_Mo_faultOf_68 rfl (lv_at hl 0 rfl) ?_
              refine lv_if_eq (tgt := 83) hx hb d_Mo_faultOf_69 (by decide) (fun c_69 => ?_) (fun c_69 => ?_)
              · skip
                refine lv_iconst (v := nI 0) hx hb d_Mo_faultOf_83 (by decide +kernel) ?_
                refine lv_istore_n (lv' := [(1, .int (nI 0)), (0, .ref o)]) hx hb d_Mo_faultOf_84 rfl hl (by decide) rfl (fun ls hl => ?_)
                refine lv_goto (tgt := 15) hx hb d_Mo_faultOf_85 (by decide) ?_
                exact ih15 a t r u1 false H_10 locs (by omega) (by omega) (by omega) (fun h => absurd h (by decide)) (by rw [hq, c_16, fQ_n c_27 c_41, fQ_0]) hL (⟨hA_11, (hP.2.1.ch hc_12 (by omega)), (hP.2.2.1.ch hc_12 (by omega)), (hP.2.2.2.1.ch hc_12 (by omega)), (hP.2.2.2.2.1.ch hc_12 (by omega)), (hP.2.2.2.2.2.1.ch hc_12 (by omega)), (hP.2.2.2.2.2.2.1.ch hc_12 (by omega)), (hP.2.2.2.2.2.2.2.ch hc_12 (by omega))⟩) (hF.tr (gFr.ch hc_12 (by omega) (by omega))) ls (lv_sub hl [0, 1] rfl)
              · first | exact absurd c_69 (by decide) | exact absurd rfl c_69
            · first | exact absurd c_56 (by decide) | exact absurd rfl c_56
          · skip
            refine lv_iconst (v := nI 1) hx hb d_Mo_faultOf_44 (by decide +kernel) ?_
            refine lv_goto (tgt := 49) hx hb d_Mo_faultOf_45 (by decide) ?_
            refine lv_istore_n (lv' := [(1, .int (nI 1)), (0, .ref o)]) hx hb d_Mo_faultOf_49 rfl hl (by decide) rfl (fun ls hl => ?_)
            refine lv_aload_n hx hb d_Mo_faultOf_50 rfl (lv_at hl 1 rfl) ?_
            refine lv_dup hx hb d_Mo_faultOf_51 rfl ?_
            refine g_get C0 hK il_Mo hP.1 rfl 10 (by decide) fl_Mo_41 rfl d_Mo_faultOf_52 ?_
            refine lv_iload_n hx hb d_Mo_faultOf_55 rfl (lv_at hl 0 rfl) ?_
            refine lv_if_eq (tgt := 63) hx hb d_Mo_faultOf_56 (by decide) (fun c_56 => ?_) (fun c_56 => ?_)
            · first | exact absurd c_56 (by decide) | exact absurd rfl c_56
            · skip
              refine lv_iconst (v := nI 1) hx hb d_Mo_faultOf_59 (by decide +kernel) ?_
              refine lv_goto (tgt := 64) hx hb d_Mo_faultOf_60 (by decide) ?_
              refine g_iadd C0 (z := a + 1) d_Mo_faultOf_64 rfl ?_
              refine g_put (free := gRg o (o + 8)) C0 hK il_Mo tk_Mo nm_Mo hP.1 rfl 10 (by decide) fl_Mo_41 rfl rfl rfl (Nat.le_of_ble_eq_true rfl) d_Mo_faultOf_65 hL (gRg.mk (by omega) (by omega)) (fun H_13 locs hL hA_14 hc_15 => ?_)
              have hA_14 : gE G o (eO 6 [.ref (o + 1), .ref (o + 2), .ref (o + 3), .ref (o + 4), .ref (o + 5), .ref (o + 6), .ref (o + 7), .int (nI ln), .int (nI sts), .int (nI t), .int (nI (a + 1))]) H_13 := hA_14
              refine lv_iload_n hx hb d_Mo_faultOf_68 rfl (lv_at hl 0 rfl) ?_
              refine lv_if_eq (tgt := 83) hx hb d_Mo_faultOf_69 (by decide) (fun c_69 => ?_) (fun c_69 => ?_)
              · first | exact absurd c_69 (by decide) | exact absurd rfl c_69
              · skip
                refine lv_aload_n hx hb d_Mo_faultOf_72 rfl (lv_at hl 1 rfl) ?_
                refine g_V C0 (k_Mo_readsName l G o S sp bf sv iz r pd ln sts t (a + 1) (by omega) hpd (by omega) (by omega)) co_Mo_readsName im_Mo_readsName se_Mo_readsName in_Mo gc_Mo_readsName ml_Mo_54 ⟨Nat.le_of_ble_eq_true rfl, Nat.le_of_ble_eq_true rfl⟩ hK hA_14 rfl ⟨hA_14, (hP.2.1.ch hc_15 (by omega)), (hP.2.2.1.ch hc_15 (by omega)), (hP.2.2.2.1.ch hc_15 (by omega)), (hP.2.2.2.2.1.ch hc_15 (by omega)), (hP.2.2.2.2.2.1.ch hc_15 (by omega)), (hP.2.2.2.2.2.2.1.ch hc_15 (by omega)), (hP.2.2.2.2.2.2.2.ch hc_15 (by omega))⟩ rfl hl.1 rfl (Nat.le_of_ble_eq_true rfl) d_Mo_faultOf_73 ⟨Nat.le_of_ble_eq_true rfl, Nat.le_of_ble_eq_true rfl⟩ (g_wi (free := gRg o (o + 8)) hL (fun _ h => h) (fun H_16 locs hL ⟨hR_17, hf_18⟩ => ?_))
                refine g_zeq (tgt := 83) C0 d_Mo_faultOf_76 (by decide) (fun c_76 => ?_) (fun c_76 => ?_)
                · skip
                  refine lv_iconst (v := nI 0) hx hb d_Mo_faultOf_83 (by decide +kernel) ?_
                  refine lv_istore_n (lv' := [(1, .int (nI 0)), (0, .ref o)]) hx hb d_Mo_faultOf_84 rfl hl (by decide) rfl (fun ls hl => ?_)
                  refine lv_goto (tgt := 15) hx hb d_Mo_faultOf_85 (by decide) ?_
                  exact ih15 (wEnd pd ln (a + 1)) (t + (if 1 < wEnd pd ln (a + 1) - (a + 1) then 1 else 0)) (rUp r t (a + 1) (wEnd pd ln (a + 1))) u1 false H_16 locs (by omega) (wEnd_le (by omega)) (by have := wEnd_ge pd ln (a + 1); split <;> omega) (fun _ => by have := wEnd_ge pd ln (a + 1); omega) (by rw [hq, c_16, fQ_c c_27 c_41, c_76]) hL (⟨hR_17.1, hR_17.2.1, hR_17.2.2.1, hR_17.2.2.2.1, hR_17.2.2.2.2.1, hR_17.2.2.2.2.2.1, hR_17.2.2.2.2.2.2.1, hR_17.2.2.2.2.2.2.2⟩) ((hF.tr (gFr.ch hc_15 (by omega) (by omega))).tr hf_18) ls (lv_sub hl [0, 1] rfl)
                · skip
                  refine lv_iconst (v := nI 1) hx hb d_Mo_faultOf_79 (by decide +kernel) ?_
                  refine lv_goto (tgt := 84) hx hb d_Mo_faultOf_80 (by decide) ?_
                  refine lv_istore_n (lv' := [(1, .int (nI 1)), (0, .ref o)]) hx hb d_Mo_faultOf_84 rfl hl (by decide) rfl (fun ls hl => ?_)
                  refine lv_goto (tgt := 15) hx hb d_Mo_faultOf_85 (by decide) ?_
                  exact ih15 (wEnd pd ln (a + 1)) (t + (if 1 < wEnd pd ln (a + 1) - (a + 1) then 1 else 0)) (rUp r t (a + 1) (wEnd pd ln (a + 1))) u1 true H_16 locs (by omega) (wEnd_le (by omega)) (by have := wEnd_ge pd ln (a + 1); split <;> omega) (fun _ => by have := wEnd_ge pd ln (a + 1); omega) (by rw [hq, c_16, fQ_c c_27 c_41, c_76]) hL (⟨hR_17.1, hR_17.2.1, hR_17.2.2.1, hR_17.2.2.2.1, hR_17.2.2.2.2.1, hR_17.2.2.2.2.2.1, hR_17.2.2.2.2.2.2.1, hR_17.2.2.2.2.2.2.2⟩) ((hF.tr (gFr.ch hc_15 (by omega) (by omega))).tr hf_18) ls (lv_sub hl [0, 1] rfl)
  exact lp15 (82 + 1) (wEnd pd ln 0) (0 + (if 1 < wEnd pd ln 0 - 0 then 1 else 0)) (rUp rr 0 0 (wEnd pd ln 0)) 82 (decide (1 < wEnd pd ln 0 - 0)) H_7 locs (by omega) (wEnd_le (by omega)) (by have := wEnd_ge pd ln 0; split <;> omega) (fun _ => by have := wEnd_ge pd ln 0; omega) rfl hL (⟨hR_8.1, hR_8.2.1, hR_8.2.2.1, hR_8.2.2.2.1, hR_8.2.2.2.2.1, hR_8.2.2.2.2.2.1, hR_8.2.2.2.2.2.2.1, hR_8.2.2.2.2.2.2.2⟩) (((gFr.rf.tr (gFr.ch hc_3 (by omega) (by omega))).tr (gFr.ch hc_6 (by omega) (by omega))).tr hf_9) ls (lv_sub hl [0, 1] rfl)
