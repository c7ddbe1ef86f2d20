set_option maxHeartbeats 4000000 in
set_option maxRecDepth 100000 in
theorem k_Ga_isCoast (l : Launch) (G : gT) (x : Int32) : gM l y_Ga_isCoast c_Ga_isCoast 1 (some .boolean) 0 0 0 0 G [.int x] (fun _ => True) (rd (.int (bI (inR x 2)))) noF := by
  refine g_enter "GaleNames" (by decide +kernel) rfl (Nat.le_of_ble_eq_true rfl) ?_
  intro p e s m args below meth c C0 hlk hr hnm hP hK ls hl
  have hx := C0.1
  have hb := C0.2.1
  have hl : lv_has ls 1 [(0, .int x)] := hl
  refine lv_iload_n hx hb d_Ga_isCoast_0 rfl (lv_at hl 0 rfl) ?_
  refine lv_if_lt (tgt := 13) hx hb d_Ga_isCoast_1 (by decide) (fun c_1 => ?_) (fun c_1 => ?_)
  · skip
    refine lv_iconst (v := nI 0) hx hb d_Ga_isCoast_13 (by decide +kernel) ?_
    refine g_zret (b := false) C0 hlk hr d_Ga_isCoast_14 (t_nil (free := noF)) ?_
    exact ⟨rdB (inR_neg c_1), rfl⟩
  · skip
    obtain ⟨i, hi, rfl⟩ := gI_ex c_1
    refine lv_iload_n hx hb d_Ga_isCoast_4 rfl (lv_at hl 0 rfl) ?_
    refine lv_iconst (v := nI 2) hx hb d_Ga_isCoast_5 (by decide +kernel) ?_
    refine g_cge (tgt := 13) C0 d_Ga_isCoast_6 (by decide) (by omega) (by omega) (fun c_6 => ?_) (fun c_6 => ?_)
    · skip
      refine lv_iconst (v := nI 0) hx hb d_Ga_isCoast_13 (by decide +kernel) ?_
      refine g_zret (b := false) C0 hlk hr d_Ga_isCoast_14 (t_nil (free := noF)) ?_
      exact ⟨rdB (by rw [inR_nI hi]; simp; omega), rfl⟩
    · skip
      refine lv_iconst (v := nI 1) hx hb d_Ga_isCoast_9 (by decide +kernel) ?_
      refine lv_goto (tgt := 14) hx hb d_Ga_isCoast_10 (by decide) ?_
      refine g_zret (b := true) C0 hlk hr d_Ga_isCoast_14 (t_nil (free := noF)) ?_
      exact ⟨rdB (by rw [inR_nI hi]; simp; omega), rfl⟩

set_option maxHeartbeats 4000000 in
set_option maxRecDepth 100000 in
theorem k_St_listOf (l : Launch) (G : gT) (b : Nat) (Y : ST) (x y : Int32) : gM l y_St_listOf c_St_listOf 4 (some (.object "GaleNames$Row")) 1 20 0 0 G [.ref b, .int x, .int y] (fun H => StAt G b Y H) (rd (va_rf (loA b x y))) noF := by
  refine g_enter "GaleNames$State" (by decide +kernel) rfl (Nat.le_of_ble_eq_true rfl) ?_
  intro p e s m args below meth c C0 hlk hr hnm hP hK ls hl
  have hx := C0.1
  have hb := C0.2.1
  have hl : lv_has ls 4 [(0, .ref b), (1, .int x), (2, .int y)] := hl
  refine lv_iload_n hx hb d_St_listOf_0 rfl (lv_at hl 1 rfl) ?_
  refine g_SN C0 (k_Ga_isCoast l G x) co_Ga_isCoast sm_Ga_isCoast in_Ga gc_Ga_isCoast mn_St_73 ⟨Nat.le_of_ble_eq_true rfl, Nat.le_of_ble_eq_true rfl⟩ hK trivial rfl hl.1 rfl (Nat.le_of_ble_eq_true rfl) d_St_listOf_1 ⟨Nat.le_of_ble_eq_true rfl, Nat.le_of_ble_eq_true rfl⟩ (g_r rfl ?_)
  refine g_zeq (tgt := 16) C0 d_St_listOf_4 (by decide) (fun c_4 => ?_) (fun c_4 => ?_)
  · skip
    refine lv_null hx hb d_St_listOf_16 ?_
    refine g_aret C0 hlk hr (Or.inl rfl) d_St_listOf_17 (t_nil (free := noF)) ?_
    exact ⟨by rw [loA, c_4]; rfl, rfl⟩
  · skip
    obtain ⟨i, hi, hi31, rfl⟩ := inR_t c_4
    refine lv_iload_n hx hb d_St_listOf_7 rfl (lv_at hl 2 rfl) ?_
    refine lv_if_lt (tgt := 16) hx hb d_St_listOf_8 (by decide) (fun c_8 => ?_) (fun c_8 => ?_)
    · skip
      refine lv_null hx hb d_St_listOf_16 ?_
      refine g_aret C0 hlk hr (Or.inl rfl) d_St_listOf_17 (t_nil (free := noF)) ?_
      exact ⟨by rw [loA, inR_neg c_8, Bool.and_false]; rfl, rfl⟩
    · skip
      obtain ⟨j, hj31, rfl⟩ := gI_ex c_8
      refine lv_iload_n hx hb d_St_listOf_11 rfl (lv_at hl 2 rfl) ?_
      refine lv_iconst (v := nI 3) hx hb d_St_listOf_12 (by decide +kernel) ?_
      refine g_clt (tgt := 18) C0 d_St_listOf_13 (by decide) (by omega) (by omega) (fun c_13 => ?_) (fun c_13 => ?_)
      · skip
        refine lv_iload_n hx hb d_St_listOf_18 rfl (lv_at hl 1 rfl) ?_
        refine lv_iconst (v := nI 3) hx hb d_St_listOf_19 (by decide +kernel) ?_
        refine g_imul C0 (z := i * 3) d_St_listOf_20 rfl ?_
        refine lv_iload_n hx hb d_St_listOf_21 rfl (lv_at hl 2 rfl) ?_
        refine g_iadd C0 (z := 3 * i + j) d_St_listOf_22 (by omega) ?_
        refine lv_istore_n (lv' := [(3, .int (nI (3 * i + j))), (0, .ref b), (1, .int (nI i)), (2, .int (nI j))]) hx hb d_St_listOf_23 rfl hl (by decide) rfl (fun ls hl => ?_)
        refine lv_iload_n hx hb d_St_listOf_24 rfl (lv_at hl 0 rfl) ?_
        refine lv_if_lt (tgt := 46) hx hb d_St_listOf_25 (by decide) (fun c_25 => ?_) (fun c_25 => ?_)
        · exact absurd c_25 (nI_pos (by omega))
        · skip
          refine lv_iload_n hx hb d_St_listOf_28 rfl (lv_at hl 0 rfl) ?_
          refine lv_aload_n hx hb d_St_listOf_29 rfl (lv_at hl 1 rfl) ?_
          refine g_get C0 hK il_St hP.1 rfl 6 (by decide) fl_St_32 rfl d_St_listOf_30 ?_
          refine g_alen C0 hK 3 hP.2.1 rfl d_St_listOf_33 ?_
          refine g_cge (tgt := 46) C0 d_St_listOf_34 (by decide) (by omega) (by omega) (fun c_34 => ?_) (fun c_34 => ?_)
          · omega
          · skip
            refine lv_aload_n hx hb d_St_listOf_37 rfl (lv_at hl 1 rfl) ?_
            refine g_get C0 hK il_St hP.1 rfl 6 (by decide) fl_St_32 rfl d_St_listOf_38 ?_
            refine lv_iload_n hx hb d_St_listOf_41 rfl (lv_at hl 0 rfl) ?_
            refine g_aald C0 hK 3 hP.2.1 rfl (by omega) (by omega) d_St_listOf_42 ?_
            refine lv_goto (tgt := 47) hx hb d_St_listOf_43 (by decide) ?_
            refine g_aret C0 hlk hr (Or.inr ⟨_, rfl⟩) d_St_listOf_47 (t_nil (free := noF)) ?_
            exact ⟨by rw [loA_nI hi (by omega)]; rfl, rfl⟩
      · skip
        refine lv_null hx hb d_St_listOf_16 ?_
        refine g_aret C0 hlk hr (Or.inl rfl) d_St_listOf_17 (t_nil (free := noF)) ?_
        exact ⟨by rw [loA, inR_nI (n := 3) hj31, show decide (j < 3) = false by simp; omega, Bool.and_false]; rfl, rfl⟩

theorem k_St_listOfN (l : Launch) (G : gT) (b : Nat) (Y : ST) (c k : Nat) (hc : c < 2) (hk : k < 3) : gM l y_St_listOf c_St_listOf 4 (some (.object "GaleNames$Row")) 1 20 0 0 G [.ref b, .int (nI c), .int (nI k)] (fun H => StAt G b Y H) (rd (.ref (b + 24 + 2 * lix c k))) noF := by
  have h := k_St_listOf l G b Y (nI c) (nI k)
  rw [loA_nI hc hk] at h
  exact h

set_option maxHeartbeats 4000000 in
set_option maxRecDepth 100000 in
theorem k_St_listOfYear (l : Launch) (G : gT) (b : Nat) (Y : ST) (ct a : Nat) (hc : ct < 2) (hy : Y.1 < 2 ^ 30) (ha : a < 2 ^ 30) : gM l y_St_listOfYear c_St_listOfYear 3 (some (.object "GaleNames$Row")) 2 43 0 0 G [.ref b, .int (nI ct), .int (nI a)] (fun H => StAt G b Y H) (rd (.ref (b + 24 + 2 * lix ct ((Y.1 + a) % 3)))) noF := by
  refine g_enter "GaleNames$State" (by decide +kernel) rfl (Nat.le_of_ble_eq_true rfl) ?_
  intro p e s m args below meth c C0 hlk hr hnm hP hK ls hl
  have hx := C0.1
  have hb := C0.2.1
  have hl : lv_has ls 3 [(0, .ref b), (1, .int (nI ct)), (2, .int (nI a))] := hl
  refine lv_aload_n hx hb d_St_listOfYear_0 rfl (lv_at hl 0 rfl) ?_
  refine lv_iload_n hx hb d_St_listOfYear_1 rfl (lv_at hl 1 rfl) ?_
  refine lv_aload_n hx hb d_St_listOfYear_2 rfl (lv_at hl 0 rfl) ?_
  refine g_get C0 hK il_St hP.1 rfl 0 (by decide) fl_St_57 rfl d_St_listOfYear_3 ?_
  refine lv_iload_n hx hb d_St_listOfYear_6 rfl (lv_at hl 2 rfl) ?_
  refine g_iadd C0 (z := Y.1 + a) d_St_listOfYear_7 rfl ?_
  refine lv_iconst (v := nI 3) hx hb d_St_listOfYear_8 (by decide +kernel) ?_
  refine g_irem C0 (z := (Y.1 + a) % 3) d_St_listOfYear_9 (by omega) (by omega) (by omega) rfl ?_
  refine g_V C0 (k_St_listOfN l G b Y ct ((Y.1 + a) % 3) (by omega) (by omega)) co_St_listOf im_St_listOf se_St_listOf in_St gc_St_listOf ml_St_65 ⟨Nat.le_of_ble_eq_true rfl, Nat.le_of_ble_eq_true rfl⟩ hK hP.1 rfl hP rfl hl.1 rfl (Nat.le_of_ble_eq_true rfl) d_St_listOfYear_10 ⟨Nat.le_of_ble_eq_true rfl, Nat.le_of_ble_eq_true rfl⟩ (g_r rfl ?_)
  refine g_aret C0 hlk hr (Or.inr ⟨_, rfl⟩) d_St_listOfYear_13 (t_nil (free := noF)) ?_
  exact ⟨rfl, rfl⟩

set_option maxHeartbeats 4000000 in
set_option maxRecDepth 100000 in
theorem k_St_standsOn (l : Launch) (G : gT) (b : Nat) (Y : ST) (v ct : Nat) (hv : v < 2 ^ 31) (hc : ct < 2) (hY : SOk Y) : gM l y_St_standsOn c_St_standsOn 5 (some .boolean) 4 85 0 0 G [.ref b, .int (nI v), .int (nI ct)] (fun H => StAt G b Y H) (rd (.int (bI (stO Y v ct)))) noF := by
  refine g_enter "GaleNames$State" (by decide +kernel) rfl (Nat.le_of_ble_eq_true rfl) ?_
  intro p e s m args below meth c C0 hlk hr hnm hP hK ls hl
  have hx := C0.1
  have hb := C0.2.1
  have hl : lv_has ls 5 [(0, .ref b), (1, .int (nI v)), (2, .int (nI ct))] := hl
  refine lv_iconst (v := nI 0) hx hb d_St_standsOn_0 (by decide +kernel) ?_
  refine lv_istore_n (lv' := [(3, .int (nI 0)), (0, .ref b), (1, .int (nI v)), (2, .int (nI ct))]) hx hb d_St_standsOn_1 rfl hl (by decide) rfl (fun ls hl => ?_)
  have lp2 : ∀ (fu : Nat) (i : Nat), (3 - i) < fu → i ≤ 3 → (∀ j, j < i → (rPl (Lst Y ct j) v).isSome = false) → ∀ ls : Array Slot, lv_has ls 5 [(3, .int (nI i)), (0, .ref b), (1, .int (nI v)), (2, .int (nI ct))] → W p l e ({ frames := 4, cells := 0, slots := 0, locals := 85 } : Room) s m args below meth c s.heap [] 0 0 (MQ below (gQ (rd (.int (bI (stO Y v ct))))) args s 0 0 noF) (F0 m 2 ls []) := by
    intro fu
    induction fu with
    | zero => intro i  hfu; exact absurd hfu (Nat.not_lt_zero _)
    | succ fu ih2 =>
      intro i hfu hi hj ls hl
      refine lv_iload_n hx hb d_St_standsOn_2 rfl (lv_at hl 0 rfl) ?_
      refine lv_iconst (v := nI 3) hx hb d_St_standsOn_3 (by decide +kernel) ?_
      refine g_cge (tgt := 37) C0 d_St_standsOn_4 (by decide) (by omega) (by omega) (fun c_4 => ?_) (fun c_4 => ?_)
      · skip
        refine lv_iconst (v := nI 0) hx hb d_St_standsOn_37 (by decide +kernel) ?_
        refine g_zret (b := false) C0 hlk hr d_St_standsOn_38 (t_nil (free := noF)) ?_
        exact ⟨rdB (aN_f.mpr (fun j h => hj j (by omega))), rfl⟩
      · skip
        refine lv_aload_n hx hb d_St_standsOn_7 rfl (lv_at hl 1 rfl) ?_
        refine lv_iload_n hx hb d_St_standsOn_8 rfl (lv_at hl 3 rfl) ?_
        refine lv_iload_n hx hb d_St_standsOn_9 rfl (lv_at hl 0 rfl) ?_
        refine g_V C0 (k_St_listOfN l G b Y ct i (by omega) (by omega)) co_St_listOf im_St_listOf se_St_listOf in_St gc_St_listOf ml_St_65 ⟨Nat.le_of_ble_eq_true rfl, Nat.le_of_ble_eq_true rfl⟩ hK hP.1 rfl hP rfl hl.1 rfl (Nat.le_of_ble_eq_true rfl) d_St_standsOn_10 ⟨Nat.le_of_ble_eq_true rfl, Nat.le_of_ble_eq_true rfl⟩ (g_r rfl ?_)
        refine lv_astore (lv' := [(4, .ref (b + 24 + 2 * lix ct i)), (3, .int (nI i)), (0, .ref b), (1, .int (nI v)), (2, .int (nI ct))]) hx hb d_St_standsOn_13 hl (by decide) rfl (fun ls hl => ?_)
        refine lv_aload hx hb d_St_standsOn_15 (lv_at hl 0 rfl) ?_
        refine lv_ifnull hx hb d_St_standsOn_17 ?_
        refine lv_aload hx hb d_St_standsOn_20 (lv_at hl 0 rfl) ?_
        refine lv_iload_n hx hb d_St_standsOn_22 rfl (lv_at hl 3 rfl) ?_
        refine g_V C0 (k_Ro_holds l G (b + 24 + 2 * lix ct i) 8 (Y.2 (5 + (lix ct i))) v (by omega) (hY.b (by have := lix_lt (c := ct) (k := i) hc (by omega); omega))) co_Ro_holds im_Ro_holds se_Ro_holds in_Ro gc_Ro_holds ml_St_77 ⟨Nat.le_of_ble_eq_true rfl, Nat.le_of_ble_eq_true rfl⟩ hK (hP.ls (lix_lt (by omega) (by omega))).1 rfl (hP.ls (lix_lt (by omega) (by omega))) rfl hl.1 rfl (Nat.le_of_ble_eq_true rfl) d_St_standsOn_23 ⟨Nat.le_of_ble_eq_true rfl, Nat.le_of_ble_eq_true rfl⟩ (g_r rfl ?_)
        refine g_zeq (tgt := 31) C0 d_St_standsOn_26 (by decide) (fun c_26 => ?_) (fun c_26 => ?_)
        · skip
          refine lv_iinc (v := (nI (i + 1))) (lv' := [(3, .int (nI (i + 1))), (4, .ref (b + 24 + 2 * lix ct i)), (0, .ref b), (1, .int (nI v)), (2, .int (nI ct))]) hx hb d_St_standsOn_31 hl (k := 1) rfl (gI_inc _) (by decide) rfl (fun ls hl => ?_)
          refine lv_goto (tgt := 2) hx hb d_St_standsOn_34 (by decide) ?_
          exact ih2 (i + 1) (by omega) (by omega) (all_s hj c_26) ls (lv_sub hl [0, 2, 3, 4] rfl)
        · skip
          refine lv_iconst (v := nI 1) hx hb d_St_standsOn_29 (by decide +kernel) ?_
          refine g_zret (b := true) C0 hlk hr d_St_standsOn_30 (t_nil (free := noF)) ?_
          exact ⟨rdB (aN_t.mpr ⟨i, by omega, c_26⟩), rfl⟩
  exact lp2 ((3 - 0) + 1) 0 (by omega) (by omega) all_0 ls (lv_sub hl [0, 1, 2, 3] rfl)

set_option maxHeartbeats 4000000 in
set_option maxRecDepth 100000 in
theorem k_St_coastsOf (l : Launch) (G : gT) (b : Nat) (Y : ST) (v : Nat) (hv : v < 2 ^ 31) (hY : SOk Y) : gM l y_St_coastsOf c_St_coastsOf 4 (some .int) 5 109 0 0 G [.ref b, .int (nI v)] (fun H => StAt G b Y H) (rd (.int (nI (coF Y v 2)))) noF := by
  refine g_enter "GaleNames$State" (by decide +kernel) rfl (Nat.le_of_ble_eq_true rfl) ?_
  intro p e s m args below meth c C0 hlk hr hnm hP hK ls hl
  have hx := C0.1
  have hb := C0.2.1
  have hl : lv_has ls 4 [(0, .ref b), (1, .int (nI v))] := hl
  refine lv_iconst (v := nI 0) hx hb d_St_coastsOf_0 (by decide +kernel) ?_
  refine lv_istore_n (lv' := [(2, .int (nI 0)), (0, .ref b), (1, .int (nI v))]) hx hb d_St_coastsOf_1 rfl hl (by decide) rfl (fun ls hl => ?_)
  refine lv_iconst (v := nI 0) hx hb d_St_coastsOf_2 (by decide +kernel) ?_
  refine lv_istore_n (lv' := [(3, .int (nI 0)), (2, .int (nI 0)), (0, .ref b), (1, .int (nI v))]) hx hb d_St_coastsOf_3 rfl hl (by decide) rfl (fun ls hl => ?_)
  have lp4 : ∀ (fu : Nat) (i : Nat) (x : Nat), (2 - i) < fu → i ≤ 2 → x = coF Y v i → ∀ ls : Array Slot, lv_has ls 4 [(3, .int (nI i)), (2, .int (nI x)), (0, .ref b), (1, .int (nI v))] → W p l e ({ frames := 5, cells := 0, slots := 0, locals := 109 } : Room) s m args below meth c s.heap [] 0 0 (MQ below (gQ (rd (.int (nI (coF Y v 2))))) args s 0 0 noF) (F0 m 4 ls []) := by
    intro fu
    induction fu with
    | zero => intro i x  hfu; exact absurd hfu (Nat.not_lt_zero _)
    | succ fu ih4 =>
      intro i x hfu hi hx2 ls hl
      refine lv_iload_n hx hb d_St_coastsOf_4 rfl (lv_at hl 0 rfl) ?_
      refine lv_iconst (v := nI 2) hx hb d_St_coastsOf_5 (by decide +kernel) ?_
      refine g_cge (tgt := 30) C0 d_St_coastsOf_6 (by decide) (by omega) (by omega) (fun c_6 => ?_) (fun c_6 => ?_)
      · skip
        refine lv_iload_n hx hb d_St_coastsOf_30 rfl (lv_at hl 1 rfl) ?_
        refine g_iret C0 hlk hr d_St_coastsOf_31 (t_nil (free := noF)) ?_
        exact ⟨rdI (by rw [hx2, show i = 2 by omega]), rfl⟩
      · skip
        refine lv_aload_n hx hb d_St_coastsOf_9 rfl (lv_at hl 2 rfl) ?_
        refine lv_iload_n hx hb d_St_coastsOf_10 rfl (lv_at hl 3 rfl) ?_
        refine lv_iload_n hx hb d_St_coastsOf_11 rfl (lv_at hl 0 rfl) ?_
        refine g_V C0 (k_St_standsOn l G b Y v i (by omega) (by omega) hY) co_St_standsOn im_St_standsOn se_St_standsOn in_St gc_St_standsOn ml_St_80 ⟨Nat.le_of_ble_eq_true rfl, Nat.le_of_ble_eq_true rfl⟩ hK hP.1 rfl hP rfl hl.1 rfl (Nat.le_of_ble_eq_true rfl) d_St_coastsOf_12 ⟨Nat.le_of_ble_eq_true rfl, Nat.le_of_ble_eq_true rfl⟩ (g_r rfl ?_)
        refine g_zeq (tgt := 24) C0 d_St_coastsOf_15 (by decide) (fun c_15 => ?_) (fun c_15 => ?_)
        · skip
          refine lv_iinc (v := (nI (i + 1))) (lv' := [(3, .int (nI (i + 1))), (2, .int (nI x)), (0, .ref b), (1, .int (nI v))]) hx hb d_St_coastsOf_24 hl (k := 0) rfl (gI_inc _) (by decide) rfl (fun ls hl => ?_)
          refine lv_goto (tgt := 4) hx hb d_St_coastsOf_27 (by decide) ?_
          exact ih4 (i + 1) x (by omega) (by omega) (by rw [coF, ← hx2]; simp [c_15]) ls (lv_sub hl [0, 1, 2, 3] rfl)
        · skip
          refine lv_iload_n hx hb d_St_coastsOf_18 rfl (lv_at hl 1 rfl) ?_
          refine lv_iconst (v := nI 1) hx hb d_St_coastsOf_19 (by decide +kernel) ?_
          refine lv_iload_n hx hb d_St_coastsOf_20 rfl (lv_at hl 0 rfl) ?_
          refine g_ishl C0 (z := 2 ^ i) d_St_coastsOf_21 (by omega) (Nat.one_mul _) ?_
          refine g_ior C0 (z := x ||| 2 ^ i) d_St_coastsOf_22 rfl ?_
          refine lv_istore_n (lv' := [(2, .int (nI (x ||| 2 ^ i))), (3, .int (nI i)), (0, .ref b), (1, .int (nI v))]) hx hb d_St_coastsOf_23 rfl hl (by decide) rfl (fun ls hl => ?_)
          refine lv_iinc (v := (nI (i + 1))) (lv' := [(3, .int (nI (i + 1))), (2, .int (nI (x ||| 2 ^ i))), (0, .ref b), (1, .int (nI v))]) hx hb d_St_coastsOf_24 hl (k := 1) rfl (gI_inc _) (by decide) rfl (fun ls hl => ?_)
          refine lv_goto (tgt := 4) hx hb d_St_coastsOf_27 (by decide) ?_
          exact ih4 (i + 1) (x ||| 2 ^ i) (by omega) (by omega) (by rw [coF, ← hx2]; simp [c_15]) ls (lv_sub hl [0, 1, 2, 3] rfl)
  exact lp4 ((2 - 0) + 1) 0 0 (by omega) (by omega) rfl ls (lv_sub hl [0, 1, 2, 3] rfl)

set_option maxHeartbeats 4000000 in
set_option maxRecDepth 100000 in
theorem k_St_areAlike (l : Launch) (G : gT) (b : Nat) (Y : ST) (κ o : Nat) (hκ : κ < 2 ^ 31) (ho : o < 2 ^ 31) (hY : SOk Y) : gM l y_St_areAlike c_St_areAlike 3 (some .boolean) 3 65 0 0 G [.ref b, .int (nI κ), .int (nI o)] (fun H => StAt G b Y H) (rd (.int (bI (kAl κ o (lik Y))))) noF := by
  refine g_enter "GaleNames$State" (by decide +kernel) rfl (Nat.le_of_ble_eq_true rfl) ?_
  intro p e s m args below meth c C0 hlk hr hnm hP hK ls hl
  have hx := C0.1
  have hb := C0.2.1
  have hl : lv_has ls 3 [(0, .ref b), (1, .int (nI κ)), (2, .int (nI o))] := hl
  refine lv_iload_n hx hb d_St_areAlike_0 rfl (lv_at hl 1 rfl) ?_
  refine lv_iload_n hx hb d_St_areAlike_1 rfl (lv_at hl 2 rfl) ?_
  refine lv_aload_n hx hb d_St_areAlike_2 rfl (lv_at hl 0 rfl) ?_
  refine g_get C0 hK il_St hP.1 rfl 1 (by decide) fl_St_14 rfl d_St_areAlike_3 ?_
  refine lv_iconst (v := nI 2) hx hb d_St_areAlike_6 (by decide +kernel) ?_
  refine g_V C0 (k_Ro_at l G (b + 1) 3 (Y.2 0) 2 (by omega)) co_Ro_at im_Ro_at se_Ro_at in_Ro gc_Ro_at ml_St_88 ⟨Nat.le_of_ble_eq_true rfl, Nat.le_of_ble_eq_true rfl⟩ hK (hP.2.2 0 (by decide)).1 rfl (hP.2.2 0 (by decide)) rfl hl.1 rfl (Nat.le_of_ble_eq_true rfl) d_St_areAlike_7 ⟨Nat.le_of_ble_eq_true rfl, Nat.le_of_ble_eq_true rfl⟩ (g_r rfl ?_)
  refine g_S C0 (k_Ke_alike l G κ o (rA (Y.2 0) 2) (by omega) (by omega) (rA_lt (hY.b (by decide)) (by decide))) co_Ke_alike sm_Ke_alike in_Ke gc_Ke_alike ml_St_105 ⟨Nat.le_of_ble_eq_true rfl, Nat.le_of_ble_eq_true rfl⟩ hK trivial rfl hl.1 rfl (Nat.le_of_ble_eq_true rfl) d_St_areAlike_10 ⟨Nat.le_of_ble_eq_true rfl, Nat.le_of_ble_eq_true rfl⟩ (g_r rfl ?_)
  refine g_zret C0 hlk hr d_St_areAlike_13 (t_nil (free := noF)) ?_
  exact ⟨rfl, rfl⟩

set_option maxHeartbeats 4000000 in
set_option maxRecDepth 100000 in
theorem k_St_isTaken (l : Launch) (G : gT) (b : Nat) (Y : ST) (v ct : Nat) (hv : v < 2 ^ 31) (hc : ct < 2) (hY : SOk Y) : gM l y_St_isTaken c_St_isTaken 4 (some .boolean) 5 109 0 0 G [.ref b, .int (nI v), .int (nI ct)] (fun H => StAt G b Y H) (rd (.int (bI (tkn Y v ct)))) noF := by
  refine g_enter "GaleNames$State" (by decide +kernel) rfl (Nat.le_of_ble_eq_true rfl) ?_
  intro p e s m args below meth c C0 hlk hr hnm hP hK ls hl
  have hx := C0.1
  have hb := C0.2.1
  have hl : lv_has ls 4 [(0, .ref b), (1, .int (nI v)), (2, .int (nI ct))] := hl
  have hn40 := (hP.2.2 1 (by decide)).2.2.1
  refine lv_aload_n hx hb d_St_isTaken_0 rfl (lv_at hl 0 rfl) ?_
  refine g_get C0 hK il_St hP.1 rfl 2 (by decide) fl_St_20 rfl d_St_isTaken_1 ?_
  refine lv_iload_n hx hb d_St_isTaken_4 rfl (lv_at hl 1 rfl) ?_
  refine g_V C0 (k_Ro_placeOf l G (b + 3) 40 (Y.2 1) v (by omega) (hY.b (by decide))) co_Ro_placeOf im_Ro_placeOf se_Ro_placeOf in_Ro gc_Ro_placeOf ml_St_102 ⟨Nat.le_of_ble_eq_true rfl, Nat.le_of_ble_eq_true rfl⟩ hK (hP.2.2 1 (by decide)).1 rfl (hP.2.2 1 (by decide)) rfl hl.1 rfl (Nat.le_of_ble_eq_true rfl) d_St_isTaken_5 ⟨Nat.le_of_ble_eq_true rfl, Nat.le_of_ble_eq_true rfl⟩ (g_r rfl ?_)
  refine lv_istore_n (lv' := [(3, .int (oI (-1) (rPl (Y.2 1) v))), (0, .ref b), (1, .int (nI v)), (2, .int (nI ct))]) hx hb d_St_isTaken_8 rfl hl (by decide) rfl (fun ls hl => ?_)
  refine lv_iload_n hx hb d_St_isTaken_9 rfl (lv_at hl 0 rfl) ?_
  refine lv_iconst (v := -1) hx hb d_St_isTaken_10 (by decide +kernel) ?_
  refine lv_icmp_eq (tgt := 39) hx hb d_St_isTaken_11 (by decide) (fun c_11 => ?_) (fun c_11 => ?_)
  · skip
    have c_11 : rPl (Y.2 1) v = none := (oI_m (fun i h => Nat.lt_trans (fF_s h).1 (hP.2.2 1 (by decide)).lt)).mp c_11
    refine lv_iconst (v := nI 0) hx hb d_St_isTaken_39 (by decide +kernel) ?_
    refine g_zret (b := false) C0 hlk hr d_St_isTaken_40 (t_nil (free := noF)) ?_
    exact ⟨rdB (tkn_n c_11), rfl⟩
  · skip
    obtain ⟨i, hi⟩ : ∃ i, rPl (Y.2 1) v = some i := by
          cases e : rPl (Y.2 1) v with
          | some i => exact ⟨i, rfl⟩
          | none => rw [e] at c_11; exact absurd rfl c_11
    have hi40 := (fF_s hi).1
    have hi40b := hP.2.2 1 (by decide) |>.lt
    rw [hi] at hl
    have hl : lv_has ls 4 [(3, .int (nI i)), (0, .ref b), (1, .int (nI v)), (2, .int (nI ct))] := hl
    refine lv_aload_n hx hb d_St_isTaken_14 rfl (lv_at hl 1 rfl) ?_
    refine g_get C0 hK il_St hP.1 rfl 3 (by decide) fl_St_23 rfl d_St_isTaken_15 ?_
    refine lv_iload_n hx hb d_St_isTaken_18 rfl (lv_at hl 0 rfl) ?_
    refine g_V C0 (k_Ro_at l G (b + 5) 40 (Y.2 2) i (by omega)) co_Ro_at im_Ro_at se_Ro_at in_Ro gc_Ro_at ml_St_88 ⟨Nat.le_of_ble_eq_true rfl, Nat.le_of_ble_eq_true rfl⟩ hK (hP.2.2 2 (by decide)).1 rfl (hP.2.2 2 (by decide)) rfl hl.1 rfl (Nat.le_of_ble_eq_true rfl) d_St_isTaken_19 ⟨Nat.le_of_ble_eq_true rfl, Nat.le_of_ble_eq_true rfl⟩ (g_r rfl ?_)
    refine lv_iconst (v := nI 1) hx hb d_St_isTaken_22 (by decide +kernel) ?_
    refine g_ceq (tgt := 35) C0 d_St_isTaken_23 (by decide) (rA_lt (hY.b (by decide)) (by decide)) (by omega) (fun c_23 => ?_) (fun c_23 => ?_)
    · skip
      refine lv_iconst (v := nI 1) hx hb d_St_isTaken_35 (by decide +kernel) ?_
      refine lv_goto (tgt := 40) hx hb d_St_isTaken_36 (by decide) ?_
      refine g_zret (b := true) C0 hlk hr d_St_isTaken_40 (t_nil (free := noF)) ?_
      exact ⟨rdB (by rw [tkn_s hi, c_23]; rfl), rfl⟩
    · skip
      refine lv_aload_n hx hb d_St_isTaken_26 rfl (lv_at hl 1 rfl) ?_
      refine lv_iload_n hx hb d_St_isTaken_27 rfl (lv_at hl 0 rfl) ?_
      refine lv_iload_n hx hb d_St_isTaken_28 rfl (lv_at hl 3 rfl) ?_
      refine g_V C0 (k_St_standsOn l G b Y i ct (by omega) (by omega) hY) co_St_standsOn im_St_standsOn se_St_standsOn in_St gc_St_standsOn ml_St_80 ⟨Nat.le_of_ble_eq_true rfl, Nat.le_of_ble_eq_true rfl⟩ hK hP.1 rfl hP rfl hl.1 rfl (Nat.le_of_ble_eq_true rfl) d_St_isTaken_29 ⟨Nat.le_of_ble_eq_true rfl, Nat.le_of_ble_eq_true rfl⟩ (g_r rfl ?_)
      refine g_zeq (tgt := 39) C0 d_St_isTaken_32 (by decide) (fun c_32 => ?_) (fun c_32 => ?_)
      · skip
        refine lv_iconst (v := nI 0) hx hb d_St_isTaken_39 (by decide +kernel) ?_
        refine g_zret (b := false) C0 hlk hr d_St_isTaken_40 (t_nil (free := noF)) ?_
        exact ⟨rdB (by rw [tkn_s hi, c_32, Bool.or_false]; simp [c_23]), rfl⟩
      · skip
        refine lv_iconst (v := nI 1) hx hb d_St_isTaken_35 (by decide +kernel) ?_
        refine lv_goto (tgt := 40) hx hb d_St_isTaken_36 (by decide) ?_
        refine g_zret (b := true) C0 hlk hr d_St_isTaken_40 (t_nil (free := noF)) ?_
        exact ⟨rdB (by rw [tkn_s hi, c_32, Bool.or_true]), rfl⟩

set_option maxHeartbeats 4000000 in
set_option maxRecDepth 100000 in
theorem k_St_isAlikeToListed (l : Launch) (G : gT) (b : Nat) (Y : ST) (v k : Nat) (hv : v < 2 ^ 31) (hk : k < 6) (hY : SOk Y) : gM l y_St_isAlikeToListed c_St_isAlikeToListed 4 (some .boolean) 4 87 0 0 G [.ref b, .int (nI v), .ref (b + 24 + 2 * k)] (fun H => StAt G b Y H) (rd (.int (bI (alL Y v (5 + k))))) noF := by
  refine g_enter "GaleNames$State" (by decide +kernel) rfl (Nat.le_of_ble_eq_true rfl) ?_
  intro p e s m args below meth c C0 hlk hr hnm hP hK ls hl
  have hx := C0.1
  have hb := C0.2.1
  have hl : lv_has ls 4 [(0, .ref b), (1, .int (nI v)), (2, .ref (b + 24 + 2 * k))] := hl
  have hlt := (hP.ls hk).lt
  refine lv_iconst (v := nI 0) hx hb d_St_isAlikeToListed_0 (by decide +kernel) ?_
  refine lv_istore_n (lv' := [(3, .int (nI 0)), (0, .ref b), (1, .int (nI v)), (2, .ref (b + 24 + 2 * k))]) hx hb d_St_isAlikeToListed_1 rfl hl (by decide) rfl (fun ls hl => ?_)
  have lp2 : ∀ (fu : Nat) (i : Nat), ((Y.2 (5 + k)).1 - i) < fu → i ≤ (Y.2 (5 + k)).1 → (∀ j, j < i → kAl v (rA (Y.2 1) ((Y.2 (5 + k)).2 j)) (lik Y) = false) → ∀ ls : Array Slot, lv_has ls 4 [(3, .int (nI i)), (0, .ref b), (1, .int (nI v)), (2, .ref (b + 24 + 2 * k))] → W p l e ({ frames := 4, cells := 0, slots := 0, locals := 87 } : Room) s m args below meth c s.heap [] 0 0 (MQ below (gQ (rd (.int (bI (alL Y v (5 + k)))))) args s 0 0 noF) (F0 m 2 ls []) := by
    intro fu
    induction fu with
    | zero => intro i  hfu; exact absurd hfu (Nat.not_lt_zero _)
    | succ fu ih2 =>
      intro i hfu hi hj ls hl
      refine lv_iload_n hx hb d_St_isAlikeToListed_2 rfl (lv_at hl 0 rfl) ?_
      refine lv_aload_n hx hb d_St_isAlikeToListed_3 rfl (lv_at hl 3 rfl) ?_
      refine g_V C0 (k_Ro_size l G (b + 24 + 2 * k) 8 (Y.2 (5 + k)) ) co_Ro_size im_Ro_size se_Ro_size in_Ro gc_Ro_size ml_St_84 ⟨Nat.le_of_ble_eq_true rfl, Nat.le_of_ble_eq_true rfl⟩ hK (hP.ls hk).1 rfl (hP.ls hk) rfl hl.1 rfl (Nat.le_of_ble_eq_true rfl) d_St_isAlikeToListed_4 ⟨Nat.le_of_ble_eq_true rfl, Nat.le_of_ble_eq_true rfl⟩ (g_r rfl ?_)
      refine g_cge (tgt := 38) C0 d_St_isAlikeToListed_7 (by decide) (by omega) (by omega) (fun c_7 => ?_) (fun c_7 => ?_)
      · skip
        refine lv_iconst (v := nI 0) hx hb d_St_isAlikeToListed_38 (by decide +kernel) ?_
        refine g_zret (b := false) C0 hlk hr d_St_isAlikeToListed_39 (t_nil (free := noF)) ?_
        exact ⟨rdB (aN_f.mpr (fun j h => hj j (by omega))), rfl⟩
      · skip
        refine lv_aload_n hx hb d_St_isAlikeToListed_10 rfl (lv_at hl 1 rfl) ?_
        refine lv_iload_n hx hb d_St_isAlikeToListed_11 rfl (lv_at hl 2 rfl) ?_
        refine lv_aload_n hx hb d_St_isAlikeToListed_12 rfl (lv_at hl 1 rfl) ?_
        refine g_get C0 hK il_St hP.1 rfl 2 (by decide) fl_St_20 rfl d_St_isAlikeToListed_13 ?_
        refine lv_aload_n hx hb d_St_isAlikeToListed_16 rfl (lv_at hl 3 rfl) ?_
        refine lv_iload_n hx hb d_St_isAlikeToListed_17 rfl (lv_at hl 0 rfl) ?_
        refine g_V C0 (k_Ro_atN l G (b + 24 + 2 * k) 8 (Y.2 (5 + k)) i (by omega) (by omega)) co_Ro_at im_Ro_at se_Ro_at in_Ro gc_Ro_at ml_St_88 ⟨Nat.le_of_ble_eq_true rfl, Nat.le_of_ble_eq_true rfl⟩ hK (hP.ls hk).1 rfl (hP.ls hk) rfl hl.1 rfl (Nat.le_of_ble_eq_true rfl) d_St_isAlikeToListed_18 ⟨Nat.le_of_ble_eq_true rfl, Nat.le_of_ble_eq_true rfl⟩ (g_r rfl ?_)
        have hb21 := hY.b (k := 5 + k) (by omega) i (by omega)
        refine g_V C0 (k_Ro_at l G (b + 3) 40 (Y.2 1) ((Y.2 (5 + k)).2 i) (by omega)) co_Ro_at im_Ro_at se_Ro_at in_Ro gc_Ro_at ml_St_88 ⟨Nat.le_of_ble_eq_true rfl, Nat.le_of_ble_eq_true rfl⟩ hK (hP.2.2 1 (by decide)).1 rfl (hP.2.2 1 (by decide)) rfl hl.1 rfl (Nat.le_of_ble_eq_true rfl) d_St_isAlikeToListed_21 ⟨Nat.le_of_ble_eq_true rfl, Nat.le_of_ble_eq_true rfl⟩ (g_r rfl ?_)
        refine g_V C0 (k_St_areAlike l G b Y v (rA (Y.2 1) ((Y.2 (5 + k)).2 i)) (by omega) (rA_lt (hY.b (by decide)) (by decide)) hY) co_St_areAlike im_St_areAlike se_St_areAlike in_St gc_St_areAlike ml_St_99 ⟨Nat.le_of_ble_eq_true rfl, Nat.le_of_ble_eq_true rfl⟩ hK hP.1 rfl hP rfl hl.1 rfl (Nat.le_of_ble_eq_true rfl) d_St_isAlikeToListed_24 ⟨Nat.le_of_ble_eq_true rfl, Nat.le_of_ble_eq_true rfl⟩ (g_r rfl ?_)
        refine g_zeq (tgt := 32) C0 d_St_isAlikeToListed_27 (by decide) (fun c_27 => ?_) (fun c_27 => ?_)
        · skip
          refine lv_iinc (v := (nI (i + 1))) (lv' := [(3, .int (nI (i + 1))), (0, .ref b), (1, .int (nI v)), (2, .ref (b + 24 + 2 * k))]) hx hb d_St_isAlikeToListed_32 hl (k := 0) rfl (gI_inc _) (by decide) rfl (fun ls hl => ?_)
          refine lv_goto (tgt := 2) hx hb d_St_isAlikeToListed_35 (by decide) ?_
          exact ih2 (i + 1) (by omega) (by omega) (all_s hj c_27) ls (lv_sub hl [0, 1, 2, 3] rfl)
        · skip
          refine lv_iconst (v := nI 1) hx hb d_St_isAlikeToListed_30 (by decide +kernel) ?_
          refine g_zret (b := true) C0 hlk hr d_St_isAlikeToListed_31 (t_nil (free := noF)) ?_
          exact ⟨rdB (aN_t.mpr ⟨i, by omega, c_27⟩), rfl⟩
  exact lp2 (((Y.2 (5 + k)).1 - 0) + 1) 0 (by omega) (by omega) all_0 ls (lv_sub hl [0, 1, 2, 3] rfl)

set_option maxHeartbeats 4000000 in
set_option maxRecDepth 100000 in
theorem k_St_alikeTo (l : Launch) (G : gT) (b : Nat) (Y : ST) (a : Nat) (ha : a < 2 ^ 31) (hY : SOk Y) : gM l y_St_alikeTo c_St_alikeTo 4 (some .int) 4 87 0 0 G [.ref b, .int (nI a)] (fun H => StAt G b Y H) (rd (.int (nI (alT Y a)))) noF := by
  refine g_enter "GaleNames$State" (by decide +kernel) rfl (Nat.le_of_ble_eq_true rfl) ?_
  intro p e s m args below meth c C0 hlk hr hnm hP hK ls hl
  have hx := C0.1
  have hb := C0.2.1
  have hl : lv_has ls 4 [(0, .ref b), (1, .int (nI a))] := hl
  have hlt := (hP.2.2 1 (by decide)).lt
  refine lv_iconst (v := nI 0) hx hb d_St_alikeTo_0 (by decide +kernel) ?_
  refine lv_istore_n (lv' := [(2, .int (nI 0)), (0, .ref b), (1, .int (nI a))]) hx hb d_St_alikeTo_1 rfl hl (by decide) rfl (fun ls hl => ?_)
  refine lv_iconst (v := nI 0) hx hb d_St_alikeTo_2 (by decide +kernel) ?_
  refine lv_istore_n (lv' := [(3, .int (nI 0)), (2, .int (nI 0)), (0, .ref b), (1, .int (nI a))]) hx hb d_St_alikeTo_3 rfl hl (by decide) rfl (fun ls hl => ?_)
  have lp4 : ∀ (fu : Nat) (i : Nat) (x : Nat), ((Y.2 1).1 - i) < fu → i ≤ (Y.2 1).1 → x = cN (fun j => kAl (rA (Y.2 1) a) ((Y.2 1).2 j) (lik Y)) i → ∀ ls : Array Slot, lv_has ls 4 [(3, .int (nI i)), (2, .int (nI x)), (0, .ref b), (1, .int (nI a))] → W p l e ({ frames := 4, cells := 0, slots := 0, locals := 87 } : Room) s m args below meth c s.heap [] 0 0 (MQ below (gQ (rd (.int (nI (alT Y a))))) args s 0 0 noF) (F0 m 4 ls []) := by
    intro fu
    induction fu with
    | zero => intro i x  hfu; exact absurd hfu (Nat.not_lt_zero _)
    | succ fu ih4 =>
      intro i x hfu hi hx2 ls hl
      refine lv_iload_n hx hb d_St_alikeTo_4 rfl (lv_at hl 0 rfl) ?_
      refine lv_aload_n hx hb d_St_alikeTo_5 rfl (lv_at hl 2 rfl) ?_
      refine g_get C0 hK il_St hP.1 rfl 2 (by decide) fl_St_20 rfl d_St_alikeTo_6 ?_
      refine g_V C0 (k_Ro_size l G (b + 3) 40 (Y.2 1) ) co_Ro_size im_Ro_size se_Ro_size in_Ro gc_Ro_size ml_St_84 ⟨Nat.le_of_ble_eq_true rfl, Nat.le_of_ble_eq_true rfl⟩ hK (hP.2.2 1 (by decide)).1 rfl (hP.2.2 1 (by decide)) rfl hl.1 rfl (Nat.le_of_ble_eq_true rfl) d_St_alikeTo_9 ⟨Nat.le_of_ble_eq_true rfl, Nat.le_of_ble_eq_true rfl⟩ (g_r rfl ?_)
      refine g_cge (tgt := 47) C0 d_St_alikeTo_12 (by decide) (by omega) (by omega) (fun c_12 => ?_) (fun c_12 => ?_)
      · skip
        refine lv_iload_n hx hb d_St_alikeTo_47 rfl (lv_at hl 1 rfl) ?_
        refine g_iret C0 hlk hr d_St_alikeTo_48 (t_nil (free := noF)) ?_
        exact ⟨rdI (by rw [hx2, show i = (Y.2 1).1 by omega]; rfl), rfl⟩
      · skip
        refine lv_aload_n hx hb d_St_alikeTo_15 rfl (lv_at hl 2 rfl) ?_
        refine lv_aload_n hx hb d_St_alikeTo_16 rfl (lv_at hl 2 rfl) ?_
        refine g_get C0 hK il_St hP.1 rfl 2 (by decide) fl_St_20 rfl d_St_alikeTo_17 ?_
        refine lv_iload_n hx hb d_St_alikeTo_20 rfl (lv_at hl 3 rfl) ?_
        refine g_V C0 (k_Ro_at l G (b + 3) 40 (Y.2 1) a (by omega)) co_Ro_at im_Ro_at se_Ro_at in_Ro gc_Ro_at ml_St_88 ⟨Nat.le_of_ble_eq_true rfl, Nat.le_of_ble_eq_true rfl⟩ hK (hP.2.2 1 (by decide)).1 rfl (hP.2.2 1 (by decide)) rfl hl.1 rfl (Nat.le_of_ble_eq_true rfl) d_St_alikeTo_21 ⟨Nat.le_of_ble_eq_true rfl, Nat.le_of_ble_eq_true rfl⟩ (g_r rfl ?_)
        refine lv_aload_n hx hb d_St_alikeTo_24 rfl (lv_at hl 2 rfl) ?_
        refine g_get C0 hK il_St hP.1 rfl 2 (by decide) fl_St_20 rfl d_St_alikeTo_25 ?_
        refine lv_iload_n hx hb d_St_alikeTo_28 rfl (lv_at hl 0 rfl) ?_
        refine g_V C0 (k_Ro_atN l G (b + 3) 40 (Y.2 1) i (by omega) (by omega)) co_Ro_at im_Ro_at se_Ro_at in_Ro gc_Ro_at ml_St_88 ⟨Nat.le_of_ble_eq_true rfl, Nat.le_of_ble_eq_true rfl⟩ hK (hP.2.2 1 (by decide)).1 rfl (hP.2.2 1 (by decide)) rfl hl.1 rfl (Nat.le_of_ble_eq_true rfl) d_St_alikeTo_29 ⟨Nat.le_of_ble_eq_true rfl, Nat.le_of_ble_eq_true rfl⟩ (g_r rfl ?_)
        refine g_V C0 (k_St_areAlike l G b Y (rA (Y.2 1) a) ((Y.2 1).2 i) (rA_lt (hY.b (by decide)) (by decide)) (hY.b (k := 1) (by decide) i (by omega)) hY) co_St_areAlike im_St_areAlike se_St_areAlike in_St gc_St_areAlike ml_St_99 ⟨Nat.le_of_ble_eq_true rfl, Nat.le_of_ble_eq_true rfl⟩ hK hP.1 rfl hP rfl hl.1 rfl (Nat.le_of_ble_eq_true rfl) d_St_alikeTo_32 ⟨Nat.le_of_ble_eq_true rfl, Nat.le_of_ble_eq_true rfl⟩ (g_r rfl ?_)
        refine g_zeq (tgt := 41) C0 d_St_alikeTo_35 (by decide) (fun c_35 => ?_) (fun c_35 => ?_)
        · skip
          refine lv_iinc (v := (nI (i + 1))) (lv' := [(3, .int (nI (i + 1))), (2, .int (nI x)), (0, .ref b), (1, .int (nI a))]) hx hb d_St_alikeTo_41 hl (k := 0) rfl (gI_inc _) (by decide) rfl (fun ls hl => ?_)
          refine lv_goto (tgt := 4) hx hb d_St_alikeTo_44 (by decide) ?_
          exact ih4 (i + 1) x (by omega) (by omega) (by rw [cN_s, ← hx2]; simp [c_35]) ls (lv_sub hl [0, 1, 2, 3] rfl)
        · skip
          refine lv_iinc (v := (nI (x + 1))) (lv' := [(2, .int (nI (x + 1))), (3, .int (nI i)), (0, .ref b), (1, .int (nI a))]) hx hb d_St_alikeTo_38 hl (k := 1) rfl (gI_inc _) (by decide) rfl (fun ls hl => ?_)
          refine lv_iinc (v := (nI (i + 1))) (lv' := [(3, .int (nI (i + 1))), (2, .int (nI (x + 1))), (0, .ref b), (1, .int (nI a))]) hx hb d_St_alikeTo_41 hl (k := 1) rfl (gI_inc _) (by decide) rfl (fun ls hl => ?_)
          refine lv_goto (tgt := 4) hx hb d_St_alikeTo_44 (by decide) ?_
          exact ih4 (i + 1) (x + 1) (by omega) (by omega) (by rw [cN_s, ← hx2]; simp [c_35]) ls (lv_sub hl [0, 1, 2, 3] rfl)
  exact lp4 (((Y.2 1).1 - 0) + 1) 0 0 (by omega) (by omega) rfl ls (lv_sub hl [0, 1, 2, 3] rfl)

set_option maxHeartbeats 4000000 in
set_option maxRecDepth 100000 in
theorem k_St_beginningWith (l : Launch) (G : gT) (b : Nat) (Y : ST) (v : Nat) (hv : v < 2 ^ 31) (hY : SOk Y) : gM l y_St_beginningWith c_St_beginningWith 4 (some .int) 3 63 0 0 G [.ref b, .int (nI v)] (fun H => StAt G b Y H) (rd (.int (nI (bgW Y v)))) noF := by
  refine g_enter "GaleNames$State" (by decide +kernel) rfl (Nat.le_of_ble_eq_true rfl) ?_
  intro p e s m args below meth c C0 hlk hr hnm hP hK ls hl
  have hx := C0.1
  have hb := C0.2.1
  have hl : lv_has ls 4 [(0, .ref b), (1, .int (nI v))] := hl
  have hlt := (hP.2.2 1 (by decide)).lt
  refine lv_iconst (v := nI 0) hx hb d_St_beginningWith_0 (by decide +kernel) ?_
  refine lv_istore_n (lv' := [(2, .int (nI 0)), (0, .ref b), (1, .int (nI v))]) hx hb d_St_beginningWith_1 rfl hl (by decide) rfl (fun ls hl => ?_)
  refine lv_iconst (v := nI 0) hx hb d_St_beginningWith_2 (by decide +kernel) ?_
  refine lv_istore_n (lv' := [(3, .int (nI 0)), (2, .int (nI 0)), (0, .ref b), (1, .int (nI v))]) hx hb d_St_beginningWith_3 rfl hl (by decide) rfl (fun ls hl => ?_)
  have lp4 : ∀ (fu : Nat) (i : Nat) (x : Nat), ((Y.2 1).1 - i) < fu → i ≤ (Y.2 1).1 → x = cN (fun j => kS v ((Y.2 1).2 j) == kS v v) i → ∀ ls : Array Slot, lv_has ls 4 [(3, .int (nI i)), (2, .int (nI x)), (0, .ref b), (1, .int (nI v))] → W p l e ({ frames := 3, cells := 0, slots := 0, locals := 63 } : Room) s m args below meth c s.heap [] 0 0 (MQ below (gQ (rd (.int (nI (bgW Y v))))) args s 0 0 noF) (F0 m 4 ls []) := by
    intro fu
    induction fu with
    | zero => intro i x  hfu; exact absurd hfu (Nat.not_lt_zero _)
    | succ fu ih4 =>
      intro i x hfu hi hx2 ls hl
      refine lv_iload_n hx hb d_St_beginningWith_4 rfl (lv_at hl 0 rfl) ?_
      refine lv_aload_n hx hb d_St_beginningWith_5 rfl (lv_at hl 2 rfl) ?_
      refine g_get C0 hK il_St hP.1 rfl 2 (by decide) fl_St_20 rfl d_St_beginningWith_6 ?_
      refine g_V C0 (k_Ro_size l G (b + 3) 40 (Y.2 1) ) co_Ro_size im_Ro_size se_Ro_size in_Ro gc_Ro_size ml_St_84 ⟨Nat.le_of_ble_eq_true rfl, Nat.le_of_ble_eq_true rfl⟩ hK (hP.2.2 1 (by decide)).1 rfl (hP.2.2 1 (by decide)) rfl hl.1 rfl (Nat.le_of_ble_eq_true rfl) d_St_beginningWith_9 ⟨Nat.le_of_ble_eq_true rfl, Nat.le_of_ble_eq_true rfl⟩ (g_r rfl ?_)
      refine g_cge (tgt := 43) C0 d_St_beginningWith_12 (by decide) (by omega) (by omega) (fun c_12 => ?_) (fun c_12 => ?_)
      · skip
        refine lv_iload_n hx hb d_St_beginningWith_43 rfl (lv_at hl 1 rfl) ?_
        refine g_iret C0 hlk hr d_St_beginningWith_44 (t_nil (free := noF)) ?_
        exact ⟨rdI (by rw [hx2, show i = (Y.2 1).1 by omega]; rfl), rfl⟩
      · skip
        refine lv_iload_n hx hb d_St_beginningWith_15 rfl (lv_at hl 3 rfl) ?_
        refine lv_aload_n hx hb d_St_beginningWith_16 rfl (lv_at hl 2 rfl) ?_
        refine g_get C0 hK il_St hP.1 rfl 2 (by decide) fl_St_20 rfl d_St_beginningWith_17 ?_
        refine lv_iload_n hx hb d_St_beginningWith_20 rfl (lv_at hl 0 rfl) ?_
        refine g_V C0 (k_Ro_atN l G (b + 3) 40 (Y.2 1) i (by omega) (by omega)) co_Ro_at im_Ro_at se_Ro_at in_Ro gc_Ro_at ml_St_88 ⟨Nat.le_of_ble_eq_true rfl, Nat.le_of_ble_eq_true rfl⟩ hK (hP.2.2 1 (by decide)).1 rfl (hP.2.2 1 (by decide)) rfl hl.1 rfl (Nat.le_of_ble_eq_true rfl) d_St_beginningWith_21 ⟨Nat.le_of_ble_eq_true rfl, Nat.le_of_ble_eq_true rfl⟩ (g_r rfl ?_)
        refine g_S C0 (k_Ke_shared l G v ((Y.2 1).2 i) (by omega) (hY.b (k := 1) (by decide) i (by omega))) co_Ke_shared sm_Ke_shared in_Ke gc_Ke_shared ml_St_111 ⟨Nat.le_of_ble_eq_true rfl, Nat.le_of_ble_eq_true rfl⟩ hK trivial rfl hl.1 rfl (Nat.le_of_ble_eq_true rfl) d_St_beginningWith_24 ⟨Nat.le_of_ble_eq_true rfl, Nat.le_of_ble_eq_true rfl⟩ (g_r rfl ?_)
        refine lv_iload_n hx hb d_St_beginningWith_27 rfl (lv_at hl 3 rfl) ?_
        refine g_S C0 (k_Ke_length l G v (by omega)) co_Ke_length sm_Ke_length in_Ke gc_Ke_length ml_St_115 ⟨Nat.le_of_ble_eq_true rfl, Nat.le_of_ble_eq_true rfl⟩ hK trivial rfl hl.1 rfl (Nat.le_of_ble_eq_true rfl) d_St_beginningWith_28 ⟨Nat.le_of_ble_eq_true rfl, Nat.le_of_ble_eq_true rfl⟩ (g_r rfl ?_)
        refine g_cne (tgt := 37) C0 d_St_beginningWith_31 (by decide) (Nat.lt_of_le_of_lt (kS_le _ _) (by decide)) (Nat.lt_of_le_of_lt (kS_le _ _) (by decide)) (fun c_31 => ?_) (fun c_31 => ?_)
        · skip
          refine lv_iinc (v := (nI (i + 1))) (lv' := [(3, .int (nI (i + 1))), (2, .int (nI x)), (0, .ref b), (1, .int (nI v))]) hx hb d_St_beginningWith_37 hl (k := 0) rfl (gI_inc _) (by decide) rfl (fun ls hl => ?_)
          refine lv_goto (tgt := 4) hx hb d_St_beginningWith_40 (by decide) ?_
          exact ih4 (i + 1) x (by omega) (by omega) (by rw [cN_s, ← hx2]; simp [c_31]) ls (lv_sub hl [0, 1, 2, 3] rfl)
        · skip
          refine lv_iinc (v := (nI (x + 1))) (lv' := [(2, .int (nI (x + 1))), (3, .int (nI i)), (0, .ref b), (1, .int (nI v))]) hx hb d_St_beginningWith_34 hl (k := 1) rfl (gI_inc _) (by decide) rfl (fun ls hl => ?_)
          refine lv_iinc (v := (nI (i + 1))) (lv' := [(3, .int (nI (i + 1))), (2, .int (nI (x + 1))), (0, .ref b), (1, .int (nI v))]) hx hb d_St_beginningWith_37 hl (k := 1) rfl (gI_inc _) (by decide) rfl (fun ls hl => ?_)
          refine lv_goto (tgt := 4) hx hb d_St_beginningWith_40 (by decide) ?_
          exact ih4 (i + 1) (x + 1) (by omega) (by omega) (by rw [cN_s, ← hx2]; simp [c_31]) ls (lv_sub hl [0, 1, 2, 3] rfl)
  exact lp4 (((Y.2 1).1 - 0) + 1) 0 0 (by omega) (by omega) rfl ls (lv_sub hl [0, 1, 2, 3] rfl)

set_option maxHeartbeats 4000000 in
set_option maxRecDepth 100000 in
theorem k_St_rankOf (l : Launch) (G : gT) (b : Nat) (Y : ST) (a : Nat) (ha : a < 2 ^ 31) (hY : SOk Y) : gM l y_St_rankOf c_St_rankOf 4 (some .int) 2 42 0 0 G [.ref b, .int (nI a)] (fun H => StAt G b Y H) (rd (.int (nI (rnk Y a)))) noF := by
  refine g_enter "GaleNames$State" (by decide +kernel) rfl (Nat.le_of_ble_eq_true rfl) ?_
  intro p e s m args below meth c C0 hlk hr hnm hP hK ls hl
  have hx := C0.1
  have hb := C0.2.1
  have hl : lv_has ls 4 [(0, .ref b), (1, .int (nI a))] := hl
  have hlt := (hP.2.2 1 (by decide)).lt
  refine lv_iconst (v := nI 0) hx hb d_St_rankOf_0 (by decide +kernel) ?_
  refine lv_istore_n (lv' := [(2, .int (nI 0)), (0, .ref b), (1, .int (nI a))]) hx hb d_St_rankOf_1 rfl hl (by decide) rfl (fun ls hl => ?_)
  refine lv_iconst (v := nI 0) hx hb d_St_rankOf_2 (by decide +kernel) ?_
  refine lv_istore_n (lv' := [(3, .int (nI 0)), (2, .int (nI 0)), (0, .ref b), (1, .int (nI a))]) hx hb d_St_rankOf_3 rfl hl (by decide) rfl (fun ls hl => ?_)
  have lp4 : ∀ (fu : Nat) (i : Nat) (x : Nat), ((Y.2 1).1 - i) < fu → i ≤ (Y.2 1).1 → x = cN (fun j => decide ((Y.2 1).2 j < rA (Y.2 1) a)) i → ∀ ls : Array Slot, lv_has ls 4 [(3, .int (nI i)), (2, .int (nI x)), (0, .ref b), (1, .int (nI a))] → W p l e ({ frames := 2, cells := 0, slots := 0, locals := 42 } : Room) s m args below meth c s.heap [] 0 0 (MQ below (gQ (rd (.int (nI (rnk Y a))))) args s 0 0 noF) (F0 m 4 ls []) := by
    intro fu
    induction fu with
    | zero => intro i x  hfu; exact absurd hfu (Nat.not_lt_zero _)
    | succ fu ih4 =>
      intro i x hfu hi hx2 ls hl
      refine lv_iload_n hx hb d_St_rankOf_4 rfl (lv_at hl 0 rfl) ?_
      refine lv_aload_n hx hb d_St_rankOf_5 rfl (lv_at hl 2 rfl) ?_
      refine g_get C0 hK il_St hP.1 rfl 2 (by decide) fl_St_20 rfl d_St_rankOf_6 ?_
      refine g_V C0 (k_Ro_size l G (b + 3) 40 (Y.2 1) ) co_Ro_size im_Ro_size se_Ro_size in_Ro gc_Ro_size ml_St_84 ⟨Nat.le_of_ble_eq_true rfl, Nat.le_of_ble_eq_true rfl⟩ hK (hP.2.2 1 (by decide)).1 rfl (hP.2.2 1 (by decide)) rfl hl.1 rfl (Nat.le_of_ble_eq_true rfl) d_St_rankOf_9 ⟨Nat.le_of_ble_eq_true rfl, Nat.le_of_ble_eq_true rfl⟩ (g_r rfl ?_)
      refine g_cge (tgt := 43) C0 d_St_rankOf_12 (by decide) (by omega) (by omega) (fun c_12 => ?_) (fun c_12 => ?_)
      · skip
        refine lv_iload_n hx hb d_St_rankOf_43 rfl (lv_at hl 1 rfl) ?_
        refine g_iret C0 hlk hr d_St_rankOf_44 (t_nil (free := noF)) ?_
        exact ⟨rdI (by rw [hx2, show i = (Y.2 1).1 by omega]; rfl), rfl⟩
      · skip
        refine lv_aload_n hx hb d_St_rankOf_15 rfl (lv_at hl 2 rfl) ?_
        refine g_get C0 hK il_St hP.1 rfl 2 (by decide) fl_St_20 rfl d_St_rankOf_16 ?_
        refine lv_iload_n hx hb d_St_rankOf_19 rfl (lv_at hl 0 rfl) ?_
        refine g_V C0 (k_Ro_atN l G (b + 3) 40 (Y.2 1) i (by omega) (by omega)) co_Ro_at im_Ro_at se_Ro_at in_Ro gc_Ro_at ml_St_88 ⟨Nat.le_of_ble_eq_true rfl, Nat.le_of_ble_eq_true rfl⟩ hK (hP.2.2 1 (by decide)).1 rfl (hP.2.2 1 (by decide)) rfl hl.1 rfl (Nat.le_of_ble_eq_true rfl) d_St_rankOf_20 ⟨Nat.le_of_ble_eq_true rfl, Nat.le_of_ble_eq_true rfl⟩ (g_r rfl ?_)
        refine lv_aload_n hx hb d_St_rankOf_23 rfl (lv_at hl 2 rfl) ?_
        refine g_get C0 hK il_St hP.1 rfl 2 (by decide) fl_St_20 rfl d_St_rankOf_24 ?_
        refine lv_iload_n hx hb d_St_rankOf_27 rfl (lv_at hl 3 rfl) ?_
        refine g_V C0 (k_Ro_at l G (b + 3) 40 (Y.2 1) a (by omega)) co_Ro_at im_Ro_at se_Ro_at in_Ro gc_Ro_at ml_St_88 ⟨Nat.le_of_ble_eq_true rfl, Nat.le_of_ble_eq_true rfl⟩ hK (hP.2.2 1 (by decide)).1 rfl (hP.2.2 1 (by decide)) rfl hl.1 rfl (Nat.le_of_ble_eq_true rfl) d_St_rankOf_28 ⟨Nat.le_of_ble_eq_true rfl, Nat.le_of_ble_eq_true rfl⟩ (g_r rfl ?_)
        refine g_cge (tgt := 37) C0 d_St_rankOf_31 (by decide) (hY.b (k := 1) (by decide) i (by omega)) (rA_lt (hY.b (by decide)) (by decide)) (fun c_31 => ?_) (fun c_31 => ?_)
        · skip
          refine lv_iinc (v := (nI (i + 1))) (lv' := [(3, .int (nI (i + 1))), (2, .int (nI x)), (0, .ref b), (1, .int (nI a))]) hx hb d_St_rankOf_37 hl (k := 0) rfl (gI_inc _) (by decide) rfl (fun ls hl => ?_)
          refine lv_goto (tgt := 4) hx hb d_St_rankOf_40 (by decide) ?_
          exact ih4 (i + 1) x (by omega) (by omega) (by rw [cN_s, ← hx2]; simp [Nat.not_lt.mpr, c_31]) ls (lv_sub hl [0, 1, 2, 3] rfl)
        · skip
          refine lv_iinc (v := (nI (x + 1))) (lv' := [(2, .int (nI (x + 1))), (3, .int (nI i)), (0, .ref b), (1, .int (nI a))]) hx hb d_St_rankOf_34 hl (k := 1) rfl (gI_inc _) (by decide) rfl (fun ls hl => ?_)
          refine lv_iinc (v := (nI (i + 1))) (lv' := [(3, .int (nI (i + 1))), (2, .int (nI (x + 1))), (0, .ref b), (1, .int (nI a))]) hx hb d_St_rankOf_37 hl (k := 1) rfl (gI_inc _) (by decide) rfl (fun ls hl => ?_)
          refine lv_goto (tgt := 4) hx hb d_St_rankOf_40 (by decide) ?_
          exact ih4 (i + 1) (x + 1) (by omega) (by omega) (by rw [cN_s, ← hx2]; simp [Nat.not_lt.mpr, c_31]) ls (lv_sub hl [0, 1, 2, 3] rfl)
  exact lp4 (((Y.2 1).1 - 0) + 1) 0 0 (by omega) (by omega) rfl ls (lv_sub hl [0, 1, 2, 3] rfl)

set_option maxHeartbeats 4000000 in
set_option maxRecDepth 100000 in
theorem k_St_knownWith (l : Launch) (G : gT) (b : Nat) (Y : ST) (t capT : Nat) (T : Rw) (hT : rB T (2 ^ 31)) (hY : SOk Y) : gM l y_St_knownWith c_St_knownWith 4 (some .int) 4 85 0 0 G [.ref b, .ref t] (fun H => StAt G b Y H ∧ RowAt G t capT T H) (rd (.int (nI (knW Y T)))) noF := by
  refine g_enter "GaleNames$State" (by decide +kernel) rfl (Nat.le_of_ble_eq_true rfl) ?_
  intro p e s m args below meth c C0 hlk hr hnm hP hK ls hl
  have hx := C0.1
  have hb := C0.2.1
  have hl : lv_has ls 4 [(0, .ref b), (1, .ref t)] := hl
  have hlt := hP.2.lt
  have hlt1 := (hP.1.2.2 1 (by decide)).lt
  refine lv_aload_n hx hb d_St_knownWith_0 rfl (lv_at hl 0 rfl) ?_
  refine g_get C0 hK il_St hP.1.1 rfl 2 (by decide) fl_St_20 rfl d_St_knownWith_1 ?_
  refine g_V C0 (k_Ro_size l G (b + 3) 40 (Y.2 1) ) co_Ro_size im_Ro_size se_Ro_size in_Ro gc_Ro_size ml_St_84 ⟨Nat.le_of_ble_eq_true rfl, Nat.le_of_ble_eq_true rfl⟩ hK (hP.1.2.2 1 (by decide)).1 rfl (hP.1.2.2 1 (by decide)) rfl hl.1 rfl (Nat.le_of_ble_eq_true rfl) d_St_knownWith_4 ⟨Nat.le_of_ble_eq_true rfl, Nat.le_of_ble_eq_true rfl⟩ (g_r rfl ?_)
  refine lv_istore_n (lv' := [(2, .int (nI ((Y.2 1).1))), (0, .ref b), (1, .ref t)]) hx hb d_St_knownWith_7 rfl hl (by decide) rfl (fun ls hl => ?_)
  refine lv_iconst (v := nI 0) hx hb d_St_knownWith_8 (by decide +kernel) ?_
  refine lv_istore_n (lv' := [(3, .int (nI 0)), (2, .int (nI ((Y.2 1).1))), (0, .ref b), (1, .ref t)]) hx hb d_St_knownWith_9 rfl hl (by decide) rfl (fun ls hl => ?_)
  have lp10 : ∀ (fu : Nat) (i : Nat) (x : Nat), (T.1 - i) < fu → i ≤ T.1 → x = (Y.2 1).1 + cN (fun j => !(rPl (Y.2 1) (T.2 j)).isSome) i → ∀ ls : Array Slot, lv_has ls 4 [(3, .int (nI i)), (2, .int (nI x)), (0, .ref b), (1, .ref t)] → W p l e ({ frames := 4, cells := 0, slots := 0, locals := 85 } : Room) s m args below meth c s.heap [] 0 0 (MQ below (gQ (rd (.int (nI (knW Y T))))) args s 0 0 noF) (F0 m 10 ls []) := by
    intro fu
    induction fu with
    | zero => intro i x  hfu; exact absurd hfu (Nat.not_lt_zero _)
    | succ fu ih10 =>
      intro i x hfu hi hx2 ls hl
      refine lv_iload_n hx hb d_St_knownWith_10 rfl (lv_at hl 0 rfl) ?_
      refine lv_aload_n hx hb d_St_knownWith_11 rfl (lv_at hl 3 rfl) ?_
      refine g_V C0 (k_Ro_size l G t capT T ) co_Ro_size im_Ro_size se_Ro_size in_Ro gc_Ro_size ml_St_84 ⟨Nat.le_of_ble_eq_true rfl, Nat.le_of_ble_eq_true rfl⟩ hK hP.2.1 rfl hP.2 rfl hl.1 rfl (Nat.le_of_ble_eq_true rfl) d_St_knownWith_12 ⟨Nat.le_of_ble_eq_true rfl, Nat.le_of_ble_eq_true rfl⟩ (g_r rfl ?_)
      refine g_cge (tgt := 42) C0 d_St_knownWith_15 (by decide) (by omega) (by omega) (fun c_15 => ?_) (fun c_15 => ?_)
      · skip
        refine lv_iload_n hx hb d_St_knownWith_42 rfl (lv_at hl 1 rfl) ?_
        refine g_iret C0 hlk hr d_St_knownWith_43 (t_nil (free := noF)) ?_
        exact ⟨rdI (by rw [hx2, show i = T.1 by omega]; rfl), rfl⟩
      · skip
        refine lv_aload_n hx hb d_St_knownWith_18 rfl (lv_at hl 2 rfl) ?_
        refine g_get C0 hK il_St hP.1.1 rfl 2 (by decide) fl_St_20 rfl d_St_knownWith_19 ?_
        refine lv_aload_n hx hb d_St_knownWith_22 rfl (lv_at hl 3 rfl) ?_
        refine lv_iload_n hx hb d_St_knownWith_23 rfl (lv_at hl 0 rfl) ?_
        refine g_V C0 (k_Ro_atN l G t capT T i (by omega) (by omega)) co_Ro_at im_Ro_at se_Ro_at in_Ro gc_Ro_at ml_St_88 ⟨Nat.le_of_ble_eq_true rfl, Nat.le_of_ble_eq_true rfl⟩ hK hP.2.1 rfl hP.2 rfl hl.1 rfl (Nat.le_of_ble_eq_true rfl) d_St_knownWith_24 ⟨Nat.le_of_ble_eq_true rfl, Nat.le_of_ble_eq_true rfl⟩ (g_r rfl ?_)
        refine g_V C0 (k_Ro_holds l G (b + 3) 40 (Y.2 1) (T.2 i) (hT i (by omega)) (hY.b (by decide))) co_Ro_holds im_Ro_holds se_Ro_holds in_Ro gc_Ro_holds ml_St_77 ⟨Nat.le_of_ble_eq_true rfl, Nat.le_of_ble_eq_true rfl⟩ hK (hP.1.2.2 1 (by decide)).1 rfl (hP.1.2.2 1 (by decide)) rfl hl.1 rfl (Nat.le_of_ble_eq_true rfl) d_St_knownWith_27 ⟨Nat.le_of_ble_eq_true rfl, Nat.le_of_ble_eq_true rfl⟩ (g_r rfl ?_)
        refine g_zne (tgt := 36) C0 d_St_knownWith_30 (by decide) (fun c_30 => ?_) (fun c_30 => ?_)
        · skip
          refine lv_iinc (v := (nI (i + 1))) (lv' := [(3, .int (nI (i + 1))), (2, .int (nI x)), (0, .ref b), (1, .ref t)]) hx hb d_St_knownWith_36 hl (k := 0) rfl (gI_inc _) (by decide) rfl (fun ls hl => ?_)
          refine lv_goto (tgt := 10) hx hb d_St_knownWith_39 (by decide) ?_
          exact ih10 (i + 1) x (by omega) (by omega) (by rw [cN_s, hx2]; simp [c_30, Nat.add_assoc]) ls (lv_sub hl [0, 1, 2, 3] rfl)
        · skip
          refine lv_iinc (v := (nI (x + 1))) (lv' := [(2, .int (nI (x + 1))), (3, .int (nI i)), (0, .ref b), (1, .ref t)]) hx hb d_St_knownWith_33 hl (k := 1) rfl (gI_inc _) (by decide) rfl (fun ls hl => ?_)
          refine lv_iinc (v := (nI (i + 1))) (lv' := [(3, .int (nI (i + 1))), (2, .int (nI (x + 1))), (0, .ref b), (1, .ref t)]) hx hb d_St_knownWith_36 hl (k := 1) rfl (gI_inc _) (by decide) rfl (fun ls hl => ?_)
          refine lv_goto (tgt := 10) hx hb d_St_knownWith_39 (by decide) ?_
          exact ih10 (i + 1) (x + 1) (by omega) (by omega) (by rw [cN_s, hx2]; simp [c_30, Nat.add_assoc]) ls (lv_sub hl [0, 1, 2, 3] rfl)
  exact lp10 ((T.1 - 0) + 1) 0 ((Y.2 1).1) (by omega) (by omega) rfl ls (lv_sub hl [0, 1, 2, 3] rfl)

set_option maxHeartbeats 4000000 in
set_option maxRecDepth 100000 in
theorem k_St_wasGiven (l : Launch) (G : gT) (b : Nat) (Y : ST) (v ct : Nat) (hv : v < 2 ^ 31) (hc : ct < 2) (hY : SOk Y) : gM l y_St_wasGiven c_St_wasGiven 4 (some .boolean) 2 42 0 0 G [.ref b, .int (nI v), .int (nI ct)] (fun H => StAt G b Y H) (rd (.int (bI (wGv Y v ct)))) noF := by
  refine g_enter "GaleNames$State" (by decide +kernel) rfl (Nat.le_of_ble_eq_true rfl) ?_
  intro p e s m args below meth c C0 hlk hr hnm hP hK ls hl
  have hx := C0.1
  have hb := C0.2.1
  have hl : lv_has ls 4 [(0, .ref b), (1, .int (nI v)), (2, .int (nI ct))] := hl
  have hlt := (hP.2.2 11 (by decide)).lt
  have h16 : (Y.2 11).1 ≤ 16 := (hP.2.2 11 (by decide)).2.2.1
  refine lv_iconst (v := nI 0) hx hb d_St_wasGiven_0 (by decide +kernel) ?_
  refine lv_istore_n (lv' := [(3, .int (nI 0)), (0, .ref b), (1, .int (nI v)), (2, .int (nI ct))]) hx hb d_St_wasGiven_1 rfl hl (by decide) rfl (fun ls hl => ?_)
  have lp2 : ∀ (fu : Nat) (i : Nat), ((Y.2 11).1 - i) < fu → i ≤ (Y.2 11).1 → (∀ j, j < i → ((Y.2 11).2 j == v && rA (Y.2 12) j == ct) = false) → ∀ ls : Array Slot, lv_has ls 4 [(3, .int (nI i)), (0, .ref b), (1, .int (nI v)), (2, .int (nI ct))] → W p l e ({ frames := 2, cells := 0, slots := 0, locals := 42 } : Room) s m args below meth c s.heap [] 0 0 (MQ below (gQ (rd (.int (bI (wGv Y v ct))))) args s 0 0 noF) (F0 m 2 ls []) := by
    intro fu
    induction fu with
    | zero => intro i  hfu; exact absurd hfu (Nat.not_lt_zero _)
    | succ fu ih2 =>
      intro i hfu hi hj ls hl
      refine lv_iload_n hx hb d_St_wasGiven_2 rfl (lv_at hl 0 rfl) ?_
      refine lv_aload_n hx hb d_St_wasGiven_3 rfl (lv_at hl 1 rfl) ?_
      refine g_get C0 hK il_St hP.1 rfl 7 (by decide) fl_St_36 rfl d_St_wasGiven_4 ?_
      refine g_V C0 (k_Ro_size l G (b + 12) 16 (Y.2 11) ) co_Ro_size im_Ro_size se_Ro_size in_Ro gc_Ro_size ml_St_84 ⟨Nat.le_of_ble_eq_true rfl, Nat.le_of_ble_eq_true rfl⟩ hK (hP.2.2 11 (by decide)).1 rfl (hP.2.2 11 (by decide)) rfl hl.1 rfl (Nat.le_of_ble_eq_true rfl) d_St_wasGiven_7 ⟨Nat.le_of_ble_eq_true rfl, Nat.le_of_ble_eq_true rfl⟩ (g_r rfl ?_)
      refine g_cge (tgt := 45) C0 d_St_wasGiven_10 (by decide) (by omega) (by omega) (fun c_10 => ?_) (fun c_10 => ?_)
      · skip
        refine lv_iconst (v := nI 0) hx hb d_St_wasGiven_45 (by decide +kernel) ?_
        refine g_zret (b := false) C0 hlk hr d_St_wasGiven_46 (t_nil (free := noF)) ?_
        exact ⟨rdB (aN_f.mpr (fun j h => hj j (by omega))), rfl⟩
      · skip
        refine lv_aload_n hx hb d_St_wasGiven_13 rfl (lv_at hl 1 rfl) ?_
        refine g_get C0 hK il_St hP.1 rfl 7 (by decide) fl_St_36 rfl d_St_wasGiven_14 ?_
        refine lv_iload_n hx hb d_St_wasGiven_17 rfl (lv_at hl 0 rfl) ?_
        refine g_V C0 (k_Ro_atN l G (b + 12) 16 (Y.2 11) i (by omega) (by omega)) co_Ro_at im_Ro_at se_Ro_at in_Ro gc_Ro_at ml_St_88 ⟨Nat.le_of_ble_eq_true rfl, Nat.le_of_ble_eq_true rfl⟩ hK (hP.2.2 11 (by decide)).1 rfl (hP.2.2 11 (by decide)) rfl hl.1 rfl (Nat.le_of_ble_eq_true rfl) d_St_wasGiven_18 ⟨Nat.le_of_ble_eq_true rfl, Nat.le_of_ble_eq_true rfl⟩ (g_r rfl ?_)
        refine lv_iload_n hx hb d_St_wasGiven_21 rfl (lv_at hl 2 rfl) ?_
        refine g_cne (tgt := 39) C0 d_St_wasGiven_22 (by decide) (hY.b (k := 11) (by decide) i (by omega)) (by omega) (fun c_22 => ?_) (fun c_22 => ?_)
        · skip
          refine lv_iinc (v := (nI (i + 1))) (lv' := [(3, .int (nI (i + 1))), (0, .ref b), (1, .int (nI v)), (2, .int (nI ct))]) hx hb d_St_wasGiven_39 hl (k := 0) rfl (gI_inc _) (by decide) rfl (fun ls hl => ?_)
          refine lv_goto (tgt := 2) hx hb d_St_wasGiven_42 (by decide) ?_
          exact ih2 (i + 1) (by omega) (by omega) (all_s hj (by simp [c_22])) ls (lv_sub hl [0, 1, 2, 3] rfl)
        · skip
          refine lv_aload_n hx hb d_St_wasGiven_25 rfl (lv_at hl 1 rfl) ?_
          refine g_get C0 hK il_St hP.1 rfl 8 (by decide) fl_St_39 rfl d_St_wasGiven_26 ?_
          refine lv_iload_n hx hb d_St_wasGiven_29 rfl (lv_at hl 0 rfl) ?_
          refine g_V C0 (k_Ro_at l G (b + 14) 16 (Y.2 12) i (by omega)) co_Ro_at im_Ro_at se_Ro_at in_Ro gc_Ro_at ml_St_88 ⟨Nat.le_of_ble_eq_true rfl, Nat.le_of_ble_eq_true rfl⟩ hK (hP.2.2 12 (by decide)).1 rfl (hP.2.2 12 (by decide)) rfl hl.1 rfl (Nat.le_of_ble_eq_true rfl) d_St_wasGiven_30 ⟨Nat.le_of_ble_eq_true rfl, Nat.le_of_ble_eq_true rfl⟩ (g_r rfl ?_)
          refine lv_iload_n hx hb d_St_wasGiven_33 rfl (lv_at hl 3 rfl) ?_
          refine g_cne (tgt := 39) C0 d_St_wasGiven_34 (by decide) (rA_lt (hY.b (by decide)) (by decide)) (by omega) (fun c_34 => ?_) (fun c_34 => ?_)
          · skip
            refine lv_iinc (v := (nI (i + 1))) (lv' := [(3, .int (nI (i + 1))), (0, .ref b), (1, .int (nI v)), (2, .int (nI ct))]) hx hb d_St_wasGiven_39 hl (k := 0) rfl (gI_inc _) (by decide) rfl (fun ls hl => ?_)
            refine lv_goto (tgt := 2) hx hb d_St_wasGiven_42 (by decide) ?_
            exact ih2 (i + 1) (by omega) (by omega) (all_s hj (by simp [c_22, c_34])) ls (lv_sub hl [0, 1, 2, 3] rfl)
          · skip
            refine lv_iconst (v := nI 1) hx hb d_St_wasGiven_37 (by decide +kernel) ?_
            refine g_zret (b := true) C0 hlk hr d_St_wasGiven_38 (t_nil (free := noF)) ?_
            exact ⟨rdB (aN_t.mpr ⟨i, by omega, by simp [c_22, c_34]⟩), rfl⟩
  exact lp2 (((Y.2 11).1 - 0) + 1) 0 (by omega) (by omega) all_0 ls (lv_sub hl [0, 1, 2, 3] rfl)

set_option maxHeartbeats 4000000 in
set_option maxRecDepth 100000 in
theorem k_St_mayJoin (l : Launch) (G : gT) (b : Nat) (Y : ST) (t capT : Nat) (T : Rw) (ct k : Nat) (hT : rB T (2 ^ 31)) (hc : ct < 2) (hk : k < 6) (hY : SOk Y) : gM l y_St_mayJoin c_St_mayJoin 7 (some .boolean) 6 132 0 0 G [.ref b, .ref t, .int (nI ct), .ref (b + 24 + 2 * k)] (fun H => StAt G b Y H ∧ RowAt G t capT T H) (rd (.int (bI (mJ Y T ct (5 + k))))) noF := by
  refine g_enter "GaleNames$State" (by decide +kernel) rfl (Nat.le_of_ble_eq_true rfl) ?_
  intro p e s m args below meth c C0 hlk hr hnm hP hK ls hl
  have hx := C0.1
  have hb := C0.2.1
  have hl : lv_has ls 7 [(0, .ref b), (1, .ref t), (2, .int (nI ct)), (3, .ref (b + 24 + 2 * k))] := hl
  have hlt := hP.2.lt
  refine lv_iconst (v := nI 0) hx hb d_St_mayJoin_0 (by decide +kernel) ?_
  refine lv_istore (lv' := [(4, .int (nI 0)), (0, .ref b), (1, .ref t), (2, .int (nI ct)), (3, .ref (b + 24 + 2 * k))]) hx hb d_St_mayJoin_1 hl (by decide) rfl (fun ls hl => ?_)
  have lp3 : ∀ (fu : Nat) (i : Nat), (T.1 - i) < fu → i ≤ T.1 → (∀ q, q < i → (tkn Y (T.2 q) ct || alL Y (T.2 q) (5 + k) || mJ1 Y T q) = false) → ∀ ls : Array Slot, lv_has ls 7 [(4, .int (nI i)), (0, .ref b), (1, .ref t), (2, .int (nI ct)), (3, .ref (b + 24 + 2 * k))] → W p l e ({ frames := 6, cells := 0, slots := 0, locals := 132 } : Room) s m args below meth c s.heap [] 0 0 (MQ below (gQ (rd (.int (bI (mJ Y T ct (5 + k)))))) args s 0 0 noF) (F0 m 3 ls []) := by
    intro fu
    induction fu with
    | zero => intro i  hfu; exact absurd hfu (Nat.not_lt_zero _)
    | succ fu ih3 =>
      intro i hfu hi hi2 ls hl
      refine lv_iload hx hb d_St_mayJoin_3 (lv_at hl 0 rfl) ?_
      refine lv_aload_n hx hb d_St_mayJoin_5 rfl (lv_at hl 2 rfl) ?_
      refine g_V C0 (k_Ro_size l G t capT T ) co_Ro_size im_Ro_size se_Ro_size in_Ro gc_Ro_size ml_St_84 ⟨Nat.le_of_ble_eq_true rfl, Nat.le_of_ble_eq_true rfl⟩ hK hP.2.1 rfl hP.2 rfl hl.1 rfl (Nat.le_of_ble_eq_true rfl) d_St_mayJoin_6 ⟨Nat.le_of_ble_eq_true rfl, Nat.le_of_ble_eq_true rfl⟩ (g_r rfl ?_)
      refine g_cge (tgt := 92) C0 d_St_mayJoin_9 (by decide) (by omega) (by omega) (fun c_9 => ?_) (fun c_9 => ?_)
      · skip
        refine lv_iconst (v := nI 1) hx hb d_St_mayJoin_92 (by decide +kernel) ?_
        refine g_zret (b := true) C0 hlk hr d_St_mayJoin_93 (t_nil (free := noF)) ?_
        exact ⟨rdB (mJ_t (fun q h => hi2 q (by omega))), rfl⟩
      · skip
        refine lv_aload_n hx hb d_St_mayJoin_12 rfl (lv_at hl 2 rfl) ?_
        refine lv_iload hx hb d_St_mayJoin_13 (lv_at hl 0 rfl) ?_
        refine g_V C0 (k_Ro_atN l G t capT T i (by omega) (by omega)) co_Ro_at im_Ro_at se_Ro_at in_Ro gc_Ro_at ml_St_88 ⟨Nat.le_of_ble_eq_true rfl, Nat.le_of_ble_eq_true rfl⟩ hK hP.2.1 rfl hP.2 rfl hl.1 rfl (Nat.le_of_ble_eq_true rfl) d_St_mayJoin_15 ⟨Nat.le_of_ble_eq_true rfl, Nat.le_of_ble_eq_true rfl⟩ (g_r rfl ?_)
        refine lv_istore (lv' := [(5, .int (nI (T.2 i))), (4, .int (nI i)), (0, .ref b), (1, .ref t), (2, .int (nI ct)), (3, .ref (b + 24 + 2 * k))]) hx hb d_St_mayJoin_18 hl (by decide) rfl (fun ls hl => ?_)
        refine lv_aload_n hx hb d_St_mayJoin_20 rfl (lv_at hl 2 rfl) ?_
        refine lv_iload hx hb d_St_mayJoin_21 (lv_at hl 0 rfl) ?_
        refine lv_iload_n hx hb d_St_mayJoin_23 rfl (lv_at hl 4 rfl) ?_
        refine g_V C0 (k_St_isTaken l G b Y (T.2 i) ct (hT i (by omega)) (by omega) hY) co_St_isTaken im_St_isTaken se_St_isTaken in_St gc_St_isTaken ml_St_92 ⟨Nat.le_of_ble_eq_true rfl, Nat.le_of_ble_eq_true rfl⟩ hK hP.1.1 rfl hP.1 rfl hl.1 rfl (Nat.le_of_ble_eq_true rfl) d_St_mayJoin_24 ⟨Nat.le_of_ble_eq_true rfl, Nat.le_of_ble_eq_true rfl⟩ (g_r rfl ?_)
        refine g_zne (tgt := 40) C0 d_St_mayJoin_27 (by decide) (fun c_27 => ?_) (fun c_27 => ?_)
        · skip
          refine lv_iconst (v := nI 0) hx hb d_St_mayJoin_40 (by decide +kernel) ?_
          refine g_zret (b := false) C0 hlk hr d_St_mayJoin_41 (t_nil (free := noF)) ?_
          exact ⟨rdB (mJ_f (i := i) (by omega) (Or.inl c_27)), rfl⟩
        · skip
          refine lv_aload_n hx hb d_St_mayJoin_30 rfl (lv_at hl 2 rfl) ?_
          refine lv_iload hx hb d_St_mayJoin_31 (lv_at hl 0 rfl) ?_
          refine lv_aload_n hx hb d_St_mayJoin_33 rfl (lv_at hl 5 rfl) ?_
          refine g_V C0 (k_St_isAlikeToListed l G b Y (T.2 i) k (hT i (by omega)) hk hY) co_St_isAlikeToListed im_St_isAlikeToListed se_St_isAlikeToListed in_St gc_St_isAlikeToListed ml_St_95 ⟨Nat.le_of_ble_eq_true rfl, Nat.le_of_ble_eq_true rfl⟩ hK hP.1.1 rfl hP.1 rfl hl.1 rfl (Nat.le_of_ble_eq_true rfl) d_St_mayJoin_34 ⟨Nat.le_of_ble_eq_true rfl, Nat.le_of_ble_eq_true rfl⟩ (g_r rfl ?_)
          refine g_zeq (tgt := 42) C0 d_St_mayJoin_37 (by decide) (fun c_37 => ?_) (fun c_37 => ?_)
          · skip
            refine lv_iconst (v := nI 0) hx hb d_St_mayJoin_42 (by decide +kernel) ?_
            refine lv_istore (lv' := [(6, .int (nI 0)), (5, .int (nI (T.2 i))), (4, .int (nI i)), (0, .ref b), (1, .ref t), (2, .int (nI ct)), (3, .ref (b + 24 + 2 * k))]) hx hb d_St_mayJoin_43 hl (by decide) rfl (fun ls hl => ?_)
            have lp45 : ∀ (fu : Nat) (j : Nat), (i - j) < fu → j ≤ i → (∀ q, q < j → (T.2 i == T.2 q || kAl (T.2 i) (T.2 q) (lik Y)) = false) → ∀ ls : Array Slot, lv_has ls 7 [(6, .int (nI j)), (5, .int (nI (T.2 i))), (4, .int (nI i)), (0, .ref b), (1, .ref t), (2, .int (nI ct)), (3, .ref (b + 24 + 2 * k))] → W p l e ({ frames := 6, cells := 0, slots := 0, locals := 132 } : Room) s m args below meth c s.heap [] 0 0 (MQ below (gQ (rd (.int (bI (mJ Y T ct (5 + k)))))) args s 0 0 noF) (F0 m 45 ls []) := by
              intro fu
              induction fu with
              | zero => intro j  hfu; exact absurd hfu (Nat.not_lt_zero _)
              | succ fu ih45 =>
                intro j hfu hj hj2 ls hl
                refine lv_iload hx hb d_St_mayJoin_45 (lv_at hl 0 rfl) ?_
                refine lv_iload hx hb d_St_mayJoin_47 (lv_at hl 2 rfl) ?_
                refine g_cge (tgt := 86) C0 d_St_mayJoin_49 (by decide) (by omega) (by omega) (fun c_49 => ?_) (fun c_49 => ?_)
                · skip
                  refine lv_iinc (v := (nI (i + 1))) (lv' := [(4, .int (nI (i + 1))), (6, .int (nI j)), (5, .int (nI (T.2 i))), (0, .ref b), (1, .ref t), (2, .int (nI ct)), (3, .ref (b + 24 + 2 * k))]) hx hb d_St_mayJoin_86 hl (k := 2) rfl (gI_inc _) (by decide) rfl (fun ls hl => ?_)
                  refine lv_goto (tgt := 3) hx hb d_St_mayJoin_89 (by decide) ?_
                  exact ih3 (i + 1) (by omega) (by omega) (all_s hi2 (by rw [c_27, c_37, show mJ1 Y T i = false from aN_f.mpr (fun q h => hj2 q (by omega))]; rfl)) ls (lv_sub hl [0, 3, 4, 5, 6] rfl)
                · skip
                  refine lv_iload hx hb d_St_mayJoin_52 (lv_at hl 1 rfl) ?_
                  refine lv_aload_n hx hb d_St_mayJoin_54 rfl (lv_at hl 4 rfl) ?_
                  refine lv_iload hx hb d_St_mayJoin_55 (lv_at hl 0 rfl) ?_
                  refine g_V C0 (k_Ro_atN l G t capT T j (by omega) (by omega)) co_Ro_at im_Ro_at se_Ro_at in_Ro gc_Ro_at ml_St_88 ⟨Nat.le_of_ble_eq_true rfl, Nat.le_of_ble_eq_true rfl⟩ hK hP.2.1 rfl hP.2 rfl hl.1 rfl (Nat.le_of_ble_eq_true rfl) d_St_mayJoin_57 ⟨Nat.le_of_ble_eq_true rfl, Nat.le_of_ble_eq_true rfl⟩ (g_r rfl ?_)
                  refine g_ceq (tgt := 78) C0 d_St_mayJoin_60 (by decide) (hT i (by omega)) (hT j (by omega)) (fun c_60 => ?_) (fun c_60 => ?_)
                  · skip
                    refine lv_iconst (v := nI 0) hx hb d_St_mayJoin_78 (by decide +kernel) ?_
                    refine g_zret (b := false) C0 hlk hr d_St_mayJoin_79 (t_nil (free := noF)) ?_
                    exact ⟨rdB (mJ_f (i := i) (by omega) (Or.inr (Or.inr (aN_t.mpr ⟨j, by omega, by simp [c_60]⟩)))), rfl⟩
                  · skip
                    refine lv_aload_n hx hb d_St_mayJoin_63 rfl (lv_at hl 3 rfl) ?_
                    refine lv_iload hx hb d_St_mayJoin_64 (lv_at hl 1 rfl) ?_
                    refine lv_aload_n hx hb d_St_mayJoin_66 rfl (lv_at hl 4 rfl) ?_
                    refine lv_iload hx hb d_St_mayJoin_67 (lv_at hl 0 rfl) ?_
                    refine g_V C0 (k_Ro_atN l G t capT T j (by omega) (by omega)) co_Ro_at im_Ro_at se_Ro_at in_Ro gc_Ro_at ml_St_88 ⟨Nat.le_of_ble_eq_true rfl, Nat.le_of_ble_eq_true rfl⟩ hK hP.2.1 rfl hP.2 rfl hl.1 rfl (Nat.le_of_ble_eq_true rfl) d_St_mayJoin_69 ⟨Nat.le_of_ble_eq_true rfl, Nat.le_of_ble_eq_true rfl⟩ (g_r rfl ?_)
                    refine g_V C0 (k_St_areAlike l G b Y (T.2 i) (T.2 j) (hT i (by omega)) (hT j (by omega)) hY) co_St_areAlike im_St_areAlike se_St_areAlike in_St gc_St_areAlike ml_St_99 ⟨Nat.le_of_ble_eq_true rfl, Nat.le_of_ble_eq_true rfl⟩ hK hP.1.1 rfl hP.1 rfl hl.1 rfl (Nat.le_of_ble_eq_true rfl) d_St_mayJoin_72 ⟨Nat.le_of_ble_eq_true rfl, Nat.le_of_ble_eq_true rfl⟩ (g_r rfl ?_)
                    refine g_zeq (tgt := 80) C0 d_St_mayJoin_75 (by decide) (fun c_75 => ?_) (fun c_75 => ?_)
                    · skip
                      refine lv_iinc (v := (nI (j + 1))) (lv' := [(6, .int (nI (j + 1))), (5, .int (nI (T.2 i))), (4, .int (nI i)), (0, .ref b), (1, .ref t), (2, .int (nI ct)), (3, .ref (b + 24 + 2 * k))]) hx hb d_St_mayJoin_80 hl (k := 0) rfl (gI_inc _) (by decide) rfl (fun ls hl => ?_)
                      refine lv_goto (tgt := 45) hx hb d_St_mayJoin_83 (by decide) ?_
                      exact ih45 (j + 1) (by omega) (by omega) (all_s hj2 (by simp [c_60, c_75])) ls (lv_sub hl [0, 1, 2, 3, 4, 5, 6] rfl)
                    · skip
                      refine lv_iconst (v := nI 0) hx hb d_St_mayJoin_78 (by decide +kernel) ?_
                      refine g_zret (b := false) C0 hlk hr d_St_mayJoin_79 (t_nil (free := noF)) ?_
                      exact ⟨rdB (mJ_f (i := i) (by omega) (Or.inr (Or.inr (aN_t.mpr ⟨j, by omega, by simp [c_75]⟩)))), rfl⟩
            exact lp45 ((i - 0) + 1) 0 (by omega) (by omega) all_0 ls (lv_sub hl [0, 1, 2, 3, 4, 5, 6] rfl)
          · skip
            refine lv_iconst (v := nI 0) hx hb d_St_mayJoin_40 (by decide +kernel) ?_
            refine g_zret (b := false) C0 hlk hr d_St_mayJoin_41 (t_nil (free := noF)) ?_
            exact ⟨rdB (mJ_f (i := i) (by omega) (Or.inr (Or.inl c_37))), rfl⟩
  exact lp3 ((T.1 - 0) + 1) 0 (by omega) (by omega) all_0 ls (lv_sub hl [0, 1, 2, 3, 4] rfl)

set_option maxHeartbeats 4000000 in
set_option maxRecDepth 100000 in
theorem k_St_nextName (l : Launch) (G : gT) (b : Nat) (Y : ST) (ct : Nat) (hc : ct < 2) (hY : SOk Y) : gM l y_St_nextName c_St_nextName 4 (some .int) 3 65 0 0 G [.ref b, .int (nI ct)] (fun H => StAt G b Y H) (rd (.int (oI (-6) (nxN Y ct)))) noF := by
  refine g_enter "GaleNames$State" (by decide +kernel) rfl (Nat.le_of_ble_eq_true rfl) ?_
  intro p e s m args below meth c C0 hlk hr hnm hP hK ls hl
  have hx := C0.1
  have hb := C0.2.1
  have hl : lv_has ls 4 [(0, .ref b), (1, .int (nI ct))] := hl
  have hy1 := hY.1
  have hm : (Y.1) % 3 < 3 := Nat.mod_lt _ (by decide)
  have hlx := lix_lt hc hm
  have hlt := (hP.ls hlx).lt
  have hbl := hY.b (k := 5 + lix ct ((Y.1) % 3)) (by omega)
  refine lv_aload_n hx hb d_St_nextName_0 rfl (lv_at hl 0 rfl) ?_
  refine lv_iload_n hx hb d_St_nextName_1 rfl (lv_at hl 1 rfl) ?_
  refine lv_iconst (v := nI 0) hx hb d_St_nextName_2 (by decide +kernel) ?_
  refine g_V C0 (k_St_listOfYear l G b Y ct 0 (by omega) (by omega) (by omega)) co_St_listOfYear im_St_listOfYear se_St_listOfYear in_St gc_St_listOfYear ml_St_118 ⟨Nat.le_of_ble_eq_true rfl, Nat.le_of_ble_eq_true rfl⟩ hK hP.1 rfl hP rfl hl.1 rfl (Nat.le_of_ble_eq_true rfl) d_St_nextName_3 ⟨Nat.le_of_ble_eq_true rfl, Nat.le_of_ble_eq_true rfl⟩ (g_r rfl ?_)
  refine lv_astore_n (lv' := [(2, .ref (b + 24 + 2 * lix ct (Y.1 % 3))), (0, .ref b), (1, .int (nI ct))]) hx hb d_St_nextName_6 rfl hl (by decide) rfl (fun ls hl => ?_)
  refine lv_aload_n hx hb d_St_nextName_7 rfl (lv_at hl 0 rfl) ?_
  refine lv_ifnonnull (tgt := 14) hx hb d_St_nextName_8 (by decide) ?_
  refine lv_iconst (v := nI 0) hx hb d_St_nextName_14 (by decide +kernel) ?_
  refine lv_istore_n (lv' := [(3, .int (nI 0)), (2, .ref (b + 24 + 2 * lix ct (Y.1 % 3))), (0, .ref b), (1, .int (nI ct))]) hx hb d_St_nextName_15 rfl hl (by decide) rfl (fun ls hl => ?_)
  have lp16 : ∀ (fu : Nat) (i : Nat), ((Y.2 (5 + lix ct (Y.1 % 3))).1 - i) < fu → i ≤ (Y.2 (5 + lix ct (Y.1 % 3))).1 → (∀ j, j < i → (!wGv Y ((Y.2 (5 + lix ct (Y.1 % 3))).2 j) ct) = false) → ∀ ls : Array Slot, lv_has ls 4 [(3, .int (nI i)), (2, .ref (b + 24 + 2 * lix ct (Y.1 % 3))), (0, .ref b), (1, .int (nI ct))] → W p l e ({ frames := 3, cells := 0, slots := 0, locals := 65 } : Room) s m args below meth c s.heap [] 0 0 (MQ below (gQ (rd (.int (oI (-6) (nxN Y ct))))) args s 0 0 noF) (F0 m 16 ls []) := by
    intro fu
    induction fu with
    | zero => intro i  hfu; exact absurd hfu (Nat.not_lt_zero _)
    | succ fu ih16 =>
      intro i hfu hi hj ls hl
      refine lv_iload_n hx hb d_St_nextName_16 rfl (lv_at hl 0 rfl) ?_
      refine lv_aload_n hx hb d_St_nextName_17 rfl (lv_at hl 1 rfl) ?_
      refine g_V C0 (k_Ro_size l G (b + 24 + 2 * lix ct (Y.1 % 3)) 8 (Y.2 (5 + (lix ct (Y.1 % 3)))) ) co_Ro_size im_Ro_size se_Ro_size in_Ro gc_Ro_size ml_St_84 ⟨Nat.le_of_ble_eq_true rfl, Nat.le_of_ble_eq_true rfl⟩ hK (hP.ls (lix_lt (by omega) (Nat.mod_lt _ (by decide)))).1 rfl (hP.ls (lix_lt (by omega) (Nat.mod_lt _ (by decide)))) rfl hl.1 rfl (Nat.le_of_ble_eq_true rfl) d_St_nextName_18 ⟨Nat.le_of_ble_eq_true rfl, Nat.le_of_ble_eq_true rfl⟩ (g_r rfl ?_)
      refine g_cge (tgt := 49) C0 d_St_nextName_21 (by decide) (by omega) (by omega) (fun c_21 => ?_) (fun c_21 => ?_)
      · skip
        refine lv_bipush (v := -6) hx hb d_St_nextName_49 (by decide +kernel) ?_
        refine g_iret C0 hlk hr d_St_nextName_51 (t_nil (free := noF)) ?_
        exact ⟨rdI (by rw [nxN, fF_none (fun j h => hj j (Nat.lt_of_lt_of_le h c_21))]; rfl), rfl⟩
      · skip
        refine lv_aload_n hx hb d_St_nextName_24 rfl (lv_at hl 2 rfl) ?_
        refine lv_aload_n hx hb d_St_nextName_25 rfl (lv_at hl 1 rfl) ?_
        refine lv_iload_n hx hb d_St_nextName_26 rfl (lv_at hl 0 rfl) ?_
        refine g_V C0 (k_Ro_atN l G (b + 24 + 2 * lix ct (Y.1 % 3)) 8 (Y.2 (5 + (lix ct (Y.1 % 3)))) i (by omega) (by omega)) co_Ro_at im_Ro_at se_Ro_at in_Ro gc_Ro_at ml_St_88 ⟨Nat.le_of_ble_eq_true rfl, Nat.le_of_ble_eq_true rfl⟩ hK (hP.ls (lix_lt (by omega) (Nat.mod_lt _ (by decide)))).1 rfl (hP.ls (lix_lt (by omega) (Nat.mod_lt _ (by decide)))) rfl hl.1 rfl (Nat.le_of_ble_eq_true rfl) d_St_nextName_27 ⟨Nat.le_of_ble_eq_true rfl, Nat.le_of_ble_eq_true rfl⟩ (g_r rfl ?_)
        refine lv_iload_n hx hb d_St_nextName_30 rfl (lv_at hl 3 rfl) ?_
        refine g_V C0 (k_St_wasGiven l G b Y ((Y.2 (5 + (lix ct (Y.1 % 3)))).2 i) ct (hbl i (by omega)) (by omega) hY) co_St_wasGiven im_St_wasGiven se_St_wasGiven in_St gc_St_wasGiven ml_St_121 ⟨Nat.le_of_ble_eq_true rfl, Nat.le_of_ble_eq_true rfl⟩ hK hP.1 rfl hP rfl hl.1 rfl (Nat.le_of_ble_eq_true rfl) d_St_nextName_31 ⟨Nat.le_of_ble_eq_true rfl, Nat.le_of_ble_eq_true rfl⟩ (g_r rfl ?_)
        refine g_zne (tgt := 43) C0 d_St_nextName_34 (by decide) (fun c_34 => ?_) (fun c_34 => ?_)
        · skip
          refine lv_iinc (v := (nI (i + 1))) (lv' := [(3, .int (nI (i + 1))), (2, .ref (b + 24 + 2 * lix ct (Y.1 % 3))), (0, .ref b), (1, .int (nI ct))]) hx hb d_St_nextName_43 hl (k := 0) rfl (gI_inc _) (by decide) rfl (fun ls hl => ?_)
          refine lv_goto (tgt := 16) hx hb d_St_nextName_46 (by decide) ?_
          exact ih16 (i + 1) (by omega) (by omega) (all_s hj (by rw [c_34]; rfl)) ls (lv_sub hl [0, 1, 2, 3] rfl)
        · skip
          refine lv_aload_n hx hb d_St_nextName_37 rfl (lv_at hl 1 rfl) ?_
          refine lv_iload_n hx hb d_St_nextName_38 rfl (lv_at hl 0 rfl) ?_
          refine g_V C0 (k_Ro_atN l G (b + 24 + 2 * lix ct (Y.1 % 3)) 8 (Y.2 (5 + (lix ct (Y.1 % 3)))) i (by omega) (by omega)) co_Ro_at im_Ro_at se_Ro_at in_Ro gc_Ro_at ml_St_88 ⟨Nat.le_of_ble_eq_true rfl, Nat.le_of_ble_eq_true rfl⟩ hK (hP.ls (lix_lt (by omega) (Nat.mod_lt _ (by decide)))).1 rfl (hP.ls (lix_lt (by omega) (Nat.mod_lt _ (by decide)))) rfl hl.1 rfl (Nat.le_of_ble_eq_true rfl) d_St_nextName_39 ⟨Nat.le_of_ble_eq_true rfl, Nat.le_of_ble_eq_true rfl⟩ (g_r rfl ?_)
          refine g_iret C0 hlk hr d_St_nextName_42 (t_nil (free := noF)) ?_
          exact ⟨rdI (by rw [nxN, fF_some (i := i) (by omega) (by rw [c_34]; rfl) hj]; rfl), rfl⟩
  exact lp16 (((Y.2 (5 + lix ct (Y.1 % 3))).1 - 0) + 1) 0 (by omega) (by omega) all_0 ls (lv_sub hl [0, 1, 2, 3] rfl)

set_option maxHeartbeats 4000000 in
set_option maxRecDepth 100000 in
theorem k_St_namesLeft (l : Launch) (G : gT) (b : Nat) (Y : ST) (ct a : Nat) (hc : ct < 2) (ha : a < 2 ^ 30) (hY : SOk Y) : gM l y_St_namesLeft c_St_namesLeft 6 (some .int) 3 65 0 0 G [.ref b, .int (nI ct), .int (nI a)] (fun H => StAt G b Y H) (rd (.int (nI (nmL Y ct a)))) noF := by
  refine g_enter "GaleNames$State" (by decide +kernel) rfl (Nat.le_of_ble_eq_true rfl) ?_
  intro p e s m args below meth c C0 hlk hr hnm hP hK ls hl
  have hx := C0.1
  have hb := C0.2.1
  have hl : lv_has ls 6 [(0, .ref b), (1, .int (nI ct)), (2, .int (nI a))] := hl
  have hy1 := hY.1
  have hm : (Y.1 + a) % 3 < 3 := Nat.mod_lt _ (by decide)
  have hlx := lix_lt hc hm
  have hlt := (hP.ls hlx).lt
  have hbl := hY.b (k := 5 + lix ct ((Y.1 + a) % 3)) (by omega)
  refine lv_aload_n hx hb d_St_namesLeft_0 rfl (lv_at hl 0 rfl) ?_
  refine lv_iload_n hx hb d_St_namesLeft_1 rfl (lv_at hl 1 rfl) ?_
  refine lv_iload_n hx hb d_St_namesLeft_2 rfl (lv_at hl 2 rfl) ?_
  refine g_V C0 (k_St_listOfYear l G b Y ct a (by omega) (by omega) (by omega)) co_St_listOfYear im_St_listOfYear se_St_listOfYear in_St gc_St_listOfYear ml_St_118 ⟨Nat.le_of_ble_eq_true rfl, Nat.le_of_ble_eq_true rfl⟩ hK hP.1 rfl hP rfl hl.1 rfl (Nat.le_of_ble_eq_true rfl) d_St_namesLeft_3 ⟨Nat.le_of_ble_eq_true rfl, Nat.le_of_ble_eq_true rfl⟩ (g_r rfl ?_)
  refine lv_astore_n (lv' := [(3, .ref (b + 24 + 2 * lix ct ((Y.1 + a) % 3))), (0, .ref b), (1, .int (nI ct)), (2, .int (nI a))]) hx hb d_St_namesLeft_6 rfl hl (by decide) rfl (fun ls hl => ?_)
  refine lv_aload_n hx hb d_St_namesLeft_7 rfl (lv_at hl 0 rfl) ?_
  refine lv_ifnonnull (tgt := 13) hx hb d_St_namesLeft_8 (by decide) ?_
  refine lv_iconst (v := nI 0) hx hb d_St_namesLeft_13 (by decide +kernel) ?_
  refine lv_istore (lv' := [(4, .int (nI 0)), (3, .ref (b + 24 + 2 * lix ct ((Y.1 + a) % 3))), (0, .ref b), (1, .int (nI ct)), (2, .int (nI a))]) hx hb d_St_namesLeft_14 hl (by decide) rfl (fun ls hl => ?_)
  refine lv_iconst (v := nI 0) hx hb d_St_namesLeft_16 (by decide +kernel) ?_
  refine lv_istore (lv' := [(5, .int (nI 0)), (4, .int (nI 0)), (3, .ref (b + 24 + 2 * lix ct ((Y.1 + a) % 3))), (0, .ref b), (1, .int (nI ct)), (2, .int (nI a))]) hx hb d_St_namesLeft_17 hl (by decide) rfl (fun ls hl => ?_)
  have lp19 : ∀ (fu : Nat) (i : Nat) (x : Nat), ((Y.2 (5 + lix ct ((Y.1 + a) % 3))).1 - i) < fu → i ≤ (Y.2 (5 + lix ct ((Y.1 + a) % 3))).1 → x = cN (fun j => decide (0 < a) || !wGv Y ((Y.2 (5 + lix ct ((Y.1 + a) % 3))).2 j) ct) i → ∀ ls : Array Slot, lv_has ls 6 [(5, .int (nI i)), (4, .int (nI x)), (3, .ref (b + 24 + 2 * lix ct ((Y.1 + a) % 3))), (0, .ref b), (1, .int (nI ct)), (2, .int (nI a))] → W p l e ({ frames := 3, cells := 0, slots := 0, locals := 65 } : Room) s m args below meth c s.heap [] 0 0 (MQ below (gQ (rd (.int (nI (nmL Y ct a))))) args s 0 0 noF) (F0 m 19 ls []) := by
    intro fu
    induction fu with
    | zero => intro i x  hfu; exact absurd hfu (Nat.not_lt_zero _)
    | succ fu ih19 =>
      intro i x hfu hi hx2 ls hl
      refine lv_iload hx hb d_St_namesLeft_19 (lv_at hl 0 rfl) ?_
      refine lv_aload_n hx hb d_St_namesLeft_21 rfl (lv_at hl 2 rfl) ?_
      refine g_V C0 (k_Ro_size l G (b + 24 + 2 * lix ct ((Y.1 + a) % 3)) 8 (Y.2 (5 + (lix ct ((Y.1 + a) % 3)))) ) co_Ro_size im_Ro_size se_Ro_size in_Ro gc_Ro_size ml_St_84 ⟨Nat.le_of_ble_eq_true rfl, Nat.le_of_ble_eq_true rfl⟩ hK (hP.ls (lix_lt (by omega) (Nat.mod_lt _ (by decide)))).1 rfl (hP.ls (lix_lt (by omega) (Nat.mod_lt _ (by decide)))) rfl hl.1 rfl (Nat.le_of_ble_eq_true rfl) d_St_namesLeft_22 ⟨Nat.le_of_ble_eq_true rfl, Nat.le_of_ble_eq_true rfl⟩ (g_r rfl ?_)
      refine g_cge (tgt := 55) C0 d_St_namesLeft_25 (by decide) (by omega) (by omega) (fun c_25 => ?_) (fun c_25 => ?_)
      · skip
        refine lv_iload hx hb d_St_namesLeft_55 (lv_at hl 1 rfl) ?_
        refine g_iret C0 hlk hr d_St_namesLeft_57 (t_nil (free := noF)) ?_
        exact ⟨rdI (by rw [hx2, show i = (Y.2 (5 + lix ct ((Y.1 + a) % 3))).1 by omega]; rfl), rfl⟩
      · skip
        refine lv_iload_n hx hb d_St_namesLeft_28 rfl (lv_at hl 5 rfl) ?_
        refine lv_if_gt (tgt := 46) hx hb d_St_namesLeft_29 (by decide) (fun c_29 => ?_) (fun c_29 => ?_)
        · skip
          have c_29 := (nI_gt0 (by omega)).mp c_29
          refine lv_iinc (v := (nI (x + 1))) (lv' := [(4, .int (nI (x + 1))), (5, .int (nI i)), (3, .ref (b + 24 + 2 * lix ct ((Y.1 + a) % 3))), (0, .ref b), (1, .int (nI ct)), (2, .int (nI a))]) hx hb d_St_namesLeft_46 hl (k := 1) rfl (gI_inc _) (by decide) rfl (fun ls hl => ?_)
          refine lv_iinc (v := (nI (i + 1))) (lv' := [(5, .int (nI (i + 1))), (4, .int (nI (x + 1))), (3, .ref (b + 24 + 2 * lix ct ((Y.1 + a) % 3))), (0, .ref b), (1, .int (nI ct)), (2, .int (nI a))]) hx hb d_St_namesLeft_49 hl (k := 1) rfl (gI_inc _) (by decide) rfl (fun ls hl => ?_)
          refine lv_goto (tgt := 19) hx hb d_St_namesLeft_52 (by decide) ?_
          exact ih19 (i + 1) (x + 1) (by omega) (by omega) (by rw [cN_s, ← hx2]; simp only [decide_eq_true c_29]; rfl) ls (lv_sub hl [0, 1, 2, 3, 4, 5] rfl)
        · skip
          have c_29 : ¬ 0 < a := mt (nI_gt0 (by omega)).mpr c_29
          refine lv_aload_n hx hb d_St_namesLeft_32 rfl (lv_at hl 3 rfl) ?_
          refine lv_aload_n hx hb d_St_namesLeft_33 rfl (lv_at hl 2 rfl) ?_
          refine lv_iload hx hb d_St_namesLeft_34 (lv_at hl 0 rfl) ?_
          refine g_V C0 (k_Ro_atN l G (b + 24 + 2 * lix ct ((Y.1 + a) % 3)) 8 (Y.2 (5 + (lix ct ((Y.1 + a) % 3)))) i (by omega) (by omega)) co_Ro_at im_Ro_at se_Ro_at in_Ro gc_Ro_at ml_St_88 ⟨Nat.le_of_ble_eq_true rfl, Nat.le_of_ble_eq_true rfl⟩ hK (hP.ls (lix_lt (by omega) (Nat.mod_lt _ (by decide)))).1 rfl (hP.ls (lix_lt (by omega) (Nat.mod_lt _ (by decide)))) rfl hl.1 rfl (Nat.le_of_ble_eq_true rfl) d_St_namesLeft_36 ⟨Nat.le_of_ble_eq_true rfl, Nat.le_of_ble_eq_true rfl⟩ (g_r rfl ?_)
          refine lv_iload_n hx hb d_St_namesLeft_39 rfl (lv_at hl 4 rfl) ?_
          refine g_V C0 (k_St_wasGiven l G b Y ((Y.2 (5 + (lix ct ((Y.1 + a) % 3)))).2 i) ct (hbl i (by omega)) (by omega) hY) co_St_wasGiven im_St_wasGiven se_St_wasGiven in_St gc_St_wasGiven ml_St_121 ⟨Nat.le_of_ble_eq_true rfl, Nat.le_of_ble_eq_true rfl⟩ hK hP.1 rfl hP rfl hl.1 rfl (Nat.le_of_ble_eq_true rfl) d_St_namesLeft_40 ⟨Nat.le_of_ble_eq_true rfl, Nat.le_of_ble_eq_true rfl⟩ (g_r rfl ?_)
          refine g_zne (tgt := 49) C0 d_St_namesLeft_43 (by decide) (fun c_43 => ?_) (fun c_43 => ?_)
          · skip
            refine lv_iinc (v := (nI (i + 1))) (lv' := [(5, .int (nI (i + 1))), (4, .int (nI x)), (3, .ref (b + 24 + 2 * lix ct ((Y.1 + a) % 3))), (0, .ref b), (1, .int (nI ct)), (2, .int (nI a))]) hx hb d_St_namesLeft_49 hl (k := 0) rfl (gI_inc _) (by decide) rfl (fun ls hl => ?_)
            refine lv_goto (tgt := 19) hx hb d_St_namesLeft_52 (by decide) ?_
            exact ih19 (i + 1) x (by omega) (by omega) (by rw [cN_s, ← hx2]; simp only [decide_eq_false c_29, c_43]; rfl) ls (lv_sub hl [0, 1, 2, 3, 4, 5] rfl)
          · skip
            refine lv_iinc (v := (nI (x + 1))) (lv' := [(4, .int (nI (x + 1))), (5, .int (nI i)), (3, .ref (b + 24 + 2 * lix ct ((Y.1 + a) % 3))), (0, .ref b), (1, .int (nI ct)), (2, .int (nI a))]) hx hb d_St_namesLeft_46 hl (k := 1) rfl (gI_inc _) (by decide) rfl (fun ls hl => ?_)
            refine lv_iinc (v := (nI (i + 1))) (lv' := [(5, .int (nI (i + 1))), (4, .int (nI (x + 1))), (3, .ref (b + 24 + 2 * lix ct ((Y.1 + a) % 3))), (0, .ref b), (1, .int (nI ct)), (2, .int (nI a))]) hx hb d_St_namesLeft_49 hl (k := 1) rfl (gI_inc _) (by decide) rfl (fun ls hl => ?_)
            refine lv_goto (tgt := 19) hx hb d_St_namesLeft_52 (by decide) ?_
            exact ih19 (i + 1) (x + 1) (by omega) (by omega) (by rw [cN_s, ← hx2]; simp only [decide_eq_false c_29, c_43]; rfl) ls (lv_sub hl [0, 1, 2, 3, 4, 5] rfl)
  exact lp19 (((Y.2 (5 + lix ct ((Y.1 + a) % 3))).1 - 0) + 1) 0 0 (by omega) (by omega) rfl ls (lv_sub hl [0, 1, 2, 3, 4, 5] rfl)

set_option maxHeartbeats 4000000 in
set_option maxRecDepth 100000 in
theorem k_St_twinOf (l : Launch) (G : gT) (b : Nat) (Y : ST) (a : Nat) (ha : a < 2 ^ 31) (hY : SOk Y) : gM l y_St_twinOf c_St_twinOf 3 (some .int) 2 42 0 0 G [.ref b, .int (nI a)] (fun H => StAt G b Y H) (rd (.int (oI (-6) (twO Y a)))) noF := by
  refine g_enter "GaleNames$State" (by decide +kernel) rfl (Nat.le_of_ble_eq_true rfl) ?_
  intro p e s m args below meth c C0 hlk hr hnm hP hK ls hl
  have hx := C0.1
  have hb := C0.2.1
  have hl : lv_has ls 3 [(0, .ref b), (1, .int (nI a))] := hl
  have hlt := (hP.2.2 11 (by decide)).lt
  have h16 : (Y.2 11).1 ≤ 16 := (hP.2.2 11 (by decide)).2.2.1
  refine lv_iconst (v := nI 0) hx hb d_St_twinOf_0 (by decide +kernel) ?_
  refine lv_istore_n (lv' := [(2, .int (nI 0)), (0, .ref b), (1, .int (nI a))]) hx hb d_St_twinOf_1 rfl hl (by decide) rfl (fun ls hl => ?_)
  have lp2 : ∀ (fu : Nat) (i : Nat), ((Y.2 11).1 - i) < fu → i ≤ (Y.2 11).1 → (∀ j, j < i → (j != a && (Y.2 11).2 j == rA (Y.2 11) a) = false) → ∀ ls : Array Slot, lv_has ls 3 [(2, .int (nI i)), (0, .ref b), (1, .int (nI a))] → W p l e ({ frames := 2, cells := 0, slots := 0, locals := 42 } : Room) s m args below meth c s.heap [] 0 0 (MQ below (gQ (rd (.int (oI (-6) (twO Y a))))) args s 0 0 noF) (F0 m 2 ls []) := by
    intro fu
    induction fu with
    | zero => intro i  hfu; exact absurd hfu (Nat.not_lt_zero _)
    | succ fu ih2 =>
      intro i hfu hi hj ls hl
      refine lv_iload_n hx hb d_St_twinOf_2 rfl (lv_at hl 0 rfl) ?_
      refine lv_aload_n hx hb d_St_twinOf_3 rfl (lv_at hl 1 rfl) ?_
      refine g_get C0 hK il_St hP.1 rfl 7 (by decide) fl_St_36 rfl d_St_twinOf_4 ?_
      refine g_V C0 (k_Ro_size l G (b + 12) 16 (Y.2 11) ) co_Ro_size im_Ro_size se_Ro_size in_Ro gc_Ro_size ml_St_84 ⟨Nat.le_of_ble_eq_true rfl, Nat.le_of_ble_eq_true rfl⟩ hK (hP.2.2 11 (by decide)).1 rfl (hP.2.2 11 (by decide)) rfl hl.1 rfl (Nat.le_of_ble_eq_true rfl) d_St_twinOf_7 ⟨Nat.le_of_ble_eq_true rfl, Nat.le_of_ble_eq_true rfl⟩ (g_r rfl ?_)
      refine g_cge (tgt := 45) C0 d_St_twinOf_10 (by decide) (by omega) (by omega) (fun c_10 => ?_) (fun c_10 => ?_)
      · skip
        refine lv_bipush (v := -6) hx hb d_St_twinOf_45 (by decide +kernel) ?_
        refine g_iret C0 hlk hr d_St_twinOf_47 (t_nil (free := noF)) ?_
        exact ⟨rdI (by rw [twO, fF_none (fun j h => hj j (by omega))]; rfl), rfl⟩
      · skip
        refine lv_iload_n hx hb d_St_twinOf_13 rfl (lv_at hl 0 rfl) ?_
        refine lv_iload_n hx hb d_St_twinOf_14 rfl (lv_at hl 2 rfl) ?_
        refine g_ceq (tgt := 39) C0 d_St_twinOf_15 (by decide) (by omega) (by omega) (fun c_15 => ?_) (fun c_15 => ?_)
        · skip
          refine lv_iinc (v := (nI (i + 1))) (lv' := [(2, .int (nI (i + 1))), (0, .ref b), (1, .int (nI a))]) hx hb d_St_twinOf_39 hl (k := 0) rfl (gI_inc _) (by decide) rfl (fun ls hl => ?_)
          refine lv_goto (tgt := 2) hx hb d_St_twinOf_42 (by decide) ?_
          exact ih2 (i + 1) (by omega) (by omega) (all_s hj (by simp [c_15])) ls (lv_sub hl [0, 1, 2] rfl)
        · skip
          refine lv_aload_n hx hb d_St_twinOf_18 rfl (lv_at hl 1 rfl) ?_
          refine g_get C0 hK il_St hP.1 rfl 7 (by decide) fl_St_36 rfl d_St_twinOf_19 ?_
          refine lv_iload_n hx hb d_St_twinOf_22 rfl (lv_at hl 0 rfl) ?_
          refine g_V C0 (k_Ro_atN l G (b + 12) 16 (Y.2 11) i (by omega) (by omega)) co_Ro_at im_Ro_at se_Ro_at in_Ro gc_Ro_at ml_St_88 ⟨Nat.le_of_ble_eq_true rfl, Nat.le_of_ble_eq_true rfl⟩ hK (hP.2.2 11 (by decide)).1 rfl (hP.2.2 11 (by decide)) rfl hl.1 rfl (Nat.le_of_ble_eq_true rfl) d_St_twinOf_23 ⟨Nat.le_of_ble_eq_true rfl, Nat.le_of_ble_eq_true rfl⟩ (g_r rfl ?_)
          refine lv_aload_n hx hb d_St_twinOf_26 rfl (lv_at hl 1 rfl) ?_
          refine g_get C0 hK il_St hP.1 rfl 7 (by decide) fl_St_36 rfl d_St_twinOf_27 ?_
          refine lv_iload_n hx hb d_St_twinOf_30 rfl (lv_at hl 2 rfl) ?_
          refine g_V C0 (k_Ro_at l G (b + 12) 16 (Y.2 11) a (by omega)) co_Ro_at im_Ro_at se_Ro_at in_Ro gc_Ro_at ml_St_88 ⟨Nat.le_of_ble_eq_true rfl, Nat.le_of_ble_eq_true rfl⟩ hK (hP.2.2 11 (by decide)).1 rfl (hP.2.2 11 (by decide)) rfl hl.1 rfl (Nat.le_of_ble_eq_true rfl) d_St_twinOf_31 ⟨Nat.le_of_ble_eq_true rfl, Nat.le_of_ble_eq_true rfl⟩ (g_r rfl ?_)
          refine g_cne (tgt := 39) C0 d_St_twinOf_34 (by decide) (hY.b (k := 11) (by decide) i (by omega)) (rA_lt (hY.b (by decide)) (by decide)) (fun c_34 => ?_) (fun c_34 => ?_)
          · skip
            refine lv_iinc (v := (nI (i + 1))) (lv' := [(2, .int (nI (i + 1))), (0, .ref b), (1, .int (nI a))]) hx hb d_St_twinOf_39 hl (k := 0) rfl (gI_inc _) (by decide) rfl (fun ls hl => ?_)
            refine lv_goto (tgt := 2) hx hb d_St_twinOf_42 (by decide) ?_
            exact ih2 (i + 1) (by omega) (by omega) (all_s hj (by simp [c_15, c_34])) ls (lv_sub hl [0, 1, 2] rfl)
          · skip
            refine lv_iload_n hx hb d_St_twinOf_37 rfl (lv_at hl 0 rfl) ?_
            refine g_iret C0 hlk hr d_St_twinOf_38 (t_nil (free := noF)) ?_
            exact ⟨rdI (by rw [twO, fF_some (i := i) (by omega) (by simp [c_15, c_34]) hj]; rfl), rfl⟩
  exact lp2 (((Y.2 11).1 - 0) + 1) 0 (by omega) (by omega) all_0 ls (lv_sub hl [0, 1, 2] rfl)

set_option maxHeartbeats 4000000 in
set_option maxRecDepth 100000 in
theorem k_St_twins (l : Launch) (G : gT) (b : Nat) (Y : ST) (hY : SOk Y) : gM l y_St_twins c_St_twins 3 (some .int) 3 64 0 0 G [.ref b] (fun H => StAt G b Y H) (rd (.int (nI (twN Y)))) noF := by
  refine g_enter "GaleNames$State" (by decide +kernel) rfl (Nat.le_of_ble_eq_true rfl) ?_
  intro p e s m args below meth c C0 hlk hr hnm hP hK ls hl
  have hx := C0.1
  have hb := C0.2.1
  have hl : lv_has ls 3 [(0, .ref b)] := hl
  have hlt := (hP.2.2 11 (by decide)).lt
  have h16 : (Y.2 11).1 ≤ 16 := (hP.2.2 11 (by decide)).2.2.1
  refine lv_iconst (v := nI 0) hx hb d_St_twins_0 (by decide +kernel) ?_
  refine lv_istore_n (lv' := [(1, .int (nI 0)), (0, .ref b)]) hx hb d_St_twins_1 rfl hl (by decide) rfl (fun ls hl => ?_)
  refine lv_iconst (v := nI 0) hx hb d_St_twins_2 (by decide +kernel) ?_
  refine lv_istore_n (lv' := [(2, .int (nI 0)), (1, .int (nI 0)), (0, .ref b)]) hx hb d_St_twins_3 rfl hl (by decide) rfl (fun ls hl => ?_)
  have lp4 : ∀ (fu : Nat) (i : Nat) (x : Nat), ((Y.2 11).1 - i) < fu → i ≤ (Y.2 11).1 → x = cN (twB Y) i → ∀ ls : Array Slot, lv_has ls 3 [(2, .int (nI i)), (1, .int (nI x)), (0, .ref b)] → W p l e ({ frames := 3, cells := 0, slots := 0, locals := 64 } : Room) s m args below meth c s.heap [] 0 0 (MQ below (gQ (rd (.int (nI (twN Y))))) args s 0 0 noF) (F0 m 4 ls []) := by
    intro fu
    induction fu with
    | zero => intro i x  hfu; exact absurd hfu (Nat.not_lt_zero _)
    | succ fu ih4 =>
      intro i x hfu hi hx2 ls hl
      refine lv_iload_n hx hb d_St_twins_4 rfl (lv_at hl 0 rfl) ?_
      refine lv_aload_n hx hb d_St_twins_5 rfl (lv_at hl 2 rfl) ?_
      refine g_get C0 hK il_St hP.1 rfl 7 (by decide) fl_St_36 rfl d_St_twins_6 ?_
      refine g_V C0 (k_Ro_size l G (b + 12) 16 (Y.2 11) ) co_Ro_size im_Ro_size se_Ro_size in_Ro gc_Ro_size ml_St_84 ⟨Nat.le_of_ble_eq_true rfl, Nat.le_of_ble_eq_true rfl⟩ hK (hP.2.2 11 (by decide)).1 rfl (hP.2.2 11 (by decide)) rfl hl.1 rfl (Nat.le_of_ble_eq_true rfl) d_St_twins_9 ⟨Nat.le_of_ble_eq_true rfl, Nat.le_of_ble_eq_true rfl⟩ (g_r rfl ?_)
      refine g_cge (tgt := 33) C0 d_St_twins_12 (by decide) (by omega) (by omega) (fun c_12 => ?_) (fun c_12 => ?_)
      · skip
        refine lv_iload_n hx hb d_St_twins_33 rfl (lv_at hl 1 rfl) ?_
        refine g_iret C0 hlk hr d_St_twins_34 (t_nil (free := noF)) ?_
        exact ⟨rdI (by rw [hx2, show i = (Y.2 11).1 by omega]; rfl), rfl⟩
      · skip
        refine lv_aload_n hx hb d_St_twins_15 rfl (lv_at hl 2 rfl) ?_
        refine lv_iload_n hx hb d_St_twins_16 rfl (lv_at hl 0 rfl) ?_
        refine g_V C0 (k_St_twinOf l G b Y i (by omega) hY) co_St_twinOf im_St_twinOf se_St_twinOf in_St gc_St_twinOf ml_St_128 ⟨Nat.le_of_ble_eq_true rfl, Nat.le_of_ble_eq_true rfl⟩ hK hP.1 rfl hP rfl hl.1 rfl (Nat.le_of_ble_eq_true rfl) d_St_twins_17 ⟨Nat.le_of_ble_eq_true rfl, Nat.le_of_ble_eq_true rfl⟩ (g_r rfl ?_)
        refine lv_iload_n hx hb d_St_twins_20 rfl (lv_at hl 0 rfl) ?_
        refine lv_icmp_le (tgt := 27) hx hb d_St_twins_21 (by decide) (fun c_21 => ?_) (fun c_21 => ?_)
        · skip
          have c_21 := (oI6_le h16 (by omega)).mp c_21
          refine lv_iinc (v := (nI (i + 1))) (lv' := [(2, .int (nI (i + 1))), (1, .int (nI x)), (0, .ref b)]) hx hb d_St_twins_27 hl (k := 0) rfl (gI_inc _) (by decide) rfl (fun ls hl => ?_)
          refine lv_goto (tgt := 4) hx hb d_St_twins_30 (by decide) ?_
          exact ih4 (i + 1) x (by omega) (by omega) (by rw [cN_s, ← hx2]; simp [c_21]) ls (lv_sub hl [0, 1, 2] rfl)
        · skip
          have c_21 : twB Y i = true := bool_t (mt (oI6_le h16 (by omega)).mpr c_21)
          refine lv_iinc (v := (nI (x + 1))) (lv' := [(1, .int (nI (x + 1))), (2, .int (nI i)), (0, .ref b)]) hx hb d_St_twins_24 hl (k := 1) rfl (gI_inc _) (by decide) rfl (fun ls hl => ?_)
          refine lv_iinc (v := (nI (i + 1))) (lv' := [(2, .int (nI (i + 1))), (1, .int (nI (x + 1))), (0, .ref b)]) hx hb d_St_twins_27 hl (k := 1) rfl (gI_inc _) (by decide) rfl (fun ls hl => ?_)
          refine lv_goto (tgt := 4) hx hb d_St_twins_30 (by decide) ?_
          exact ih4 (i + 1) (x + 1) (by omega) (by omega) (by rw [cN_s, ← hx2]; simp [c_21]) ls (lv_sub hl [0, 1, 2] rfl)
  exact lp4 (((Y.2 11).1 - 0) + 1) 0 0 (by omega) (by omega) rfl ls (lv_sub hl [0, 1, 2] rfl)

set_option maxHeartbeats 4000000 in
set_option maxRecDepth 100000 in
theorem k_St_harmOfYear (l : Launch) (G : gT) (b : Nat) (Y : ST) (v : Nat) (hv : v < 2 ^ 31) (hb11 : rB (Y.2 11) (2 ^ 31)) : gM l y_St_harmOfYear c_St_harmOfYear 4 (some .int) 2 42 0 0 G [.ref b, .int (nI v)] (fun H => StAt G b Y H) (rd (.int (nI (hrY Y v)))) noF := by
  refine g_enter "GaleNames$State" (by decide +kernel) rfl (Nat.le_of_ble_eq_true rfl) ?_
  intro p e s m args below meth c C0 hlk hr hnm hP hK ls hl
  have hx := C0.1
  have hb := C0.2.1
  have hl : lv_has ls 4 [(0, .ref b), (1, .int (nI v))] := hl
  have hlt := (hP.2.2 11 (by decide)).lt
  have h16 : (Y.2 11).1 ≤ 16 := (hP.2.2 11 (by decide)).2.2.1
  refine lv_iconst (v := nI 0) hx hb d_St_harmOfYear_0 (by decide +kernel) ?_
  refine lv_istore_n (lv' := [(2, .int (nI 0)), (0, .ref b), (1, .int (nI v))]) hx hb d_St_harmOfYear_1 rfl hl (by decide) rfl (fun ls hl => ?_)
  refine lv_iconst (v := nI 0) hx hb d_St_harmOfYear_2 (by decide +kernel) ?_
  refine lv_istore_n (lv' := [(3, .int (nI 0)), (2, .int (nI 0)), (0, .ref b), (1, .int (nI v))]) hx hb d_St_harmOfYear_3 rfl hl (by decide) rfl (fun ls hl => ?_)
  have lp4 : ∀ (fu : Nat) (i : Nat) (x : Nat), ((Y.2 11).1 - i) < fu → i ≤ (Y.2 11).1 → x = sN (fun j => if (Y.2 11).2 j == v then rA (Y.2 13) j else 0) i → ∀ ls : Array Slot, lv_has ls 4 [(3, .int (nI i)), (2, .int (nI x)), (0, .ref b), (1, .int (nI v))] → W p l e ({ frames := 2, cells := 0, slots := 0, locals := 42 } : Room) s m args below meth c s.heap [] 0 0 (MQ below (gQ (rd (.int (nI (hrY Y v))))) args s 0 0 noF) (F0 m 4 ls []) := by
    intro fu
    induction fu with
    | zero => intro i x  hfu; exact absurd hfu (Nat.not_lt_zero _)
    | succ fu ih4 =>
      intro i x hfu hi hx2 ls hl
      refine lv_iload_n hx hb d_St_harmOfYear_4 rfl (lv_at hl 0 rfl) ?_
      refine lv_aload_n hx hb d_St_harmOfYear_5 rfl (lv_at hl 2 rfl) ?_
      refine g_get C0 hK il_St hP.1 rfl 7 (by decide) fl_St_36 rfl d_St_harmOfYear_6 ?_
      refine g_V C0 (k_Ro_size l G (b + 12) 16 (Y.2 11) ) co_Ro_size im_Ro_size se_Ro_size in_Ro gc_Ro_size ml_St_84 ⟨Nat.le_of_ble_eq_true rfl, Nat.le_of_ble_eq_true rfl⟩ hK (hP.2.2 11 (by decide)).1 rfl (hP.2.2 11 (by decide)) rfl hl.1 rfl (Nat.le_of_ble_eq_true rfl) d_St_harmOfYear_9 ⟨Nat.le_of_ble_eq_true rfl, Nat.le_of_ble_eq_true rfl⟩ (g_r rfl ?_)
      refine g_cge (tgt := 44) C0 d_St_harmOfYear_12 (by decide) (by omega) (by omega) (fun c_12 => ?_) (fun c_12 => ?_)
      · skip
        refine lv_iload_n hx hb d_St_harmOfYear_44 rfl (lv_at hl 1 rfl) ?_
        refine g_iret C0 hlk hr d_St_harmOfYear_45 (t_nil (free := noF)) ?_
        exact ⟨rdI (by rw [hx2, show i = (Y.2 11).1 by omega]; rfl), rfl⟩
      · skip
        refine lv_aload_n hx hb d_St_harmOfYear_15 rfl (lv_at hl 2 rfl) ?_
        refine g_get C0 hK il_St hP.1 rfl 7 (by decide) fl_St_36 rfl d_St_harmOfYear_16 ?_
        refine lv_iload_n hx hb d_St_harmOfYear_19 rfl (lv_at hl 0 rfl) ?_
        refine g_V C0 (k_Ro_atN l G (b + 12) 16 (Y.2 11) i (by omega) (by omega)) co_Ro_at im_Ro_at se_Ro_at in_Ro gc_Ro_at ml_St_88 ⟨Nat.le_of_ble_eq_true rfl, Nat.le_of_ble_eq_true rfl⟩ hK (hP.2.2 11 (by decide)).1 rfl (hP.2.2 11 (by decide)) rfl hl.1 rfl (Nat.le_of_ble_eq_true rfl) d_St_harmOfYear_20 ⟨Nat.le_of_ble_eq_true rfl, Nat.le_of_ble_eq_true rfl⟩ (g_r rfl ?_)
        refine lv_iload_n hx hb d_St_harmOfYear_23 rfl (lv_at hl 3 rfl) ?_
        refine g_cne (tgt := 38) C0 d_St_harmOfYear_24 (by decide) (hb11 i (by omega)) (by omega) (fun c_24 => ?_) (fun c_24 => ?_)
        · skip
          refine lv_iinc (v := (nI (i + 1))) (lv' := [(3, .int (nI (i + 1))), (2, .int (nI x)), (0, .ref b), (1, .int (nI v))]) hx hb d_St_harmOfYear_38 hl (k := 0) rfl (gI_inc _) (by decide) rfl (fun ls hl => ?_)
          refine lv_goto (tgt := 4) hx hb d_St_harmOfYear_41 (by decide) ?_
          exact ih4 (i + 1) x (by omega) (by omega) (by rw [sN_s, ← hx2]; simp [c_24]) ls (lv_sub hl [0, 1, 2, 3] rfl)
        · skip
          refine lv_iload_n hx hb d_St_harmOfYear_27 rfl (lv_at hl 1 rfl) ?_
          refine lv_aload_n hx hb d_St_harmOfYear_28 rfl (lv_at hl 2 rfl) ?_
          refine g_get C0 hK il_St hP.1 rfl 9 (by decide) fl_St_42 rfl d_St_harmOfYear_29 ?_
          refine lv_iload_n hx hb d_St_harmOfYear_32 rfl (lv_at hl 0 rfl) ?_
          refine g_V C0 (k_Ro_at l G (b + 16) 16 (Y.2 13) i (by omega)) co_Ro_at im_Ro_at se_Ro_at in_Ro gc_Ro_at ml_St_88 ⟨Nat.le_of_ble_eq_true rfl, Nat.le_of_ble_eq_true rfl⟩ hK (hP.2.2 13 (by decide)).1 rfl (hP.2.2 13 (by decide)) rfl hl.1 rfl (Nat.le_of_ble_eq_true rfl) d_St_harmOfYear_33 ⟨Nat.le_of_ble_eq_true rfl, Nat.le_of_ble_eq_true rfl⟩ (g_r rfl ?_)
          refine g_iadd C0 (z := x + (rA (Y.2 13) i)) d_St_harmOfYear_36 rfl ?_
          refine lv_istore_n (lv' := [(2, .int (nI (x + (rA (Y.2 13) i)))), (3, .int (nI i)), (0, .ref b), (1, .int (nI v))]) hx hb d_St_harmOfYear_37 rfl hl (by decide) rfl (fun ls hl => ?_)
          refine lv_iinc (v := (nI (i + 1))) (lv' := [(3, .int (nI (i + 1))), (2, .int (nI (x + (rA (Y.2 13) i)))), (0, .ref b), (1, .int (nI v))]) hx hb d_St_harmOfYear_38 hl (k := 1) rfl (gI_inc _) (by decide) rfl (fun ls hl => ?_)
          refine lv_goto (tgt := 4) hx hb d_St_harmOfYear_41 (by decide) ?_
          exact ih4 (i + 1) (x + (rA (Y.2 13) i)) (by omega) (by omega) (by rw [sN_s, ← hx2]; simp [c_24]) ls (lv_sub hl [0, 1, 2, 3] rfl)
  exact lp4 (((Y.2 11).1 - 0) + 1) 0 0 (by omega) (by omega) rfl ls (lv_sub hl [0, 1, 2, 3] rfl)

set_option maxHeartbeats 4000000 in
set_option maxRecDepth 100000 in
theorem k_St_harmedBy (l : Launch) (G : gT) (b : Nat) (Y : ST) (h : Nat) (hh : h < 2 ^ 31) (hY : SOk Y) : gM l y_St_harmedBy c_St_harmedBy 4 (some .int) 3 65 0 0 G [.ref b, .int (nI h)] (fun H => StAt G b Y H) (rd (.int (nI (hdB Y h)))) noF := by
  refine g_enter "GaleNames$State" (by decide +kernel) rfl (Nat.le_of_ble_eq_true rfl) ?_
  intro p e s m args below meth c C0 hlk hr hnm hP hK ls hl
  have hx := C0.1
  have hb := C0.2.1
  have hl : lv_has ls 4 [(0, .ref b), (1, .int (nI h))] := hl
  have hlt := (hP.2.2 1 (by decide)).lt
  have h16 : (Y.2 11).1 ≤ 16 := (hP.2.2 11 (by decide)).2.2.1
  refine lv_iconst (v := nI 0) hx hb d_St_harmedBy_0 (by decide +kernel) ?_
  refine lv_istore_n (lv' := [(2, .int (nI 0)), (0, .ref b), (1, .int (nI h))]) hx hb d_St_harmedBy_1 rfl hl (by decide) rfl (fun ls hl => ?_)
  refine lv_iconst (v := nI 0) hx hb d_St_harmedBy_2 (by decide +kernel) ?_
  refine lv_istore_n (lv' := [(3, .int (nI 0)), (2, .int (nI 0)), (0, .ref b), (1, .int (nI h))]) hx hb d_St_harmedBy_3 rfl hl (by decide) rfl (fun ls hl => ?_)
  have lp4 : ∀ (fu : Nat) (i : Nat) (x : Nat), ((Y.2 1).1 - i) < fu → i ≤ (Y.2 1).1 → x = cN (fun j => decide (h ≤ hrY Y j)) i → ∀ ls : Array Slot, lv_has ls 4 [(3, .int (nI i)), (2, .int (nI x)), (0, .ref b), (1, .int (nI h))] → W p l e ({ frames := 3, cells := 0, slots := 0, locals := 65 } : Room) s m args below meth c s.heap [] 0 0 (MQ below (gQ (rd (.int (nI (hdB Y h))))) args s 0 0 noF) (F0 m 4 ls []) := by
    intro fu
    induction fu with
    | zero => intro i x  hfu; exact absurd hfu (Nat.not_lt_zero _)
    | succ fu ih4 =>
      intro i x hfu hi hx2 ls hl
      refine lv_iload_n hx hb d_St_harmedBy_4 rfl (lv_at hl 0 rfl) ?_
      refine lv_aload_n hx hb d_St_harmedBy_5 rfl (lv_at hl 2 rfl) ?_
      refine g_get C0 hK il_St hP.1 rfl 2 (by decide) fl_St_20 rfl d_St_harmedBy_6 ?_
      refine g_V C0 (k_Ro_size l G (b + 3) 40 (Y.2 1) ) co_Ro_size im_Ro_size se_Ro_size in_Ro gc_Ro_size ml_St_84 ⟨Nat.le_of_ble_eq_true rfl, Nat.le_of_ble_eq_true rfl⟩ hK (hP.2.2 1 (by decide)).1 rfl (hP.2.2 1 (by decide)) rfl hl.1 rfl (Nat.le_of_ble_eq_true rfl) d_St_harmedBy_9 ⟨Nat.le_of_ble_eq_true rfl, Nat.le_of_ble_eq_true rfl⟩ (g_r rfl ?_)
      refine g_cge (tgt := 33) C0 d_St_harmedBy_12 (by decide) (by omega) (by omega) (fun c_12 => ?_) (fun c_12 => ?_)
      · skip
        refine lv_iload_n hx hb d_St_harmedBy_33 rfl (lv_at hl 1 rfl) ?_
        refine g_iret C0 hlk hr d_St_harmedBy_34 (t_nil (free := noF)) ?_
        exact ⟨rdI (by rw [hx2, show i = (Y.2 1).1 by omega]; rfl), rfl⟩
      · skip
        refine lv_aload_n hx hb d_St_harmedBy_15 rfl (lv_at hl 2 rfl) ?_
        refine lv_iload_n hx hb d_St_harmedBy_16 rfl (lv_at hl 0 rfl) ?_
        refine g_V C0 (k_St_harmOfYear l G b Y i (by omega) (hY.b (k := 11) (by decide))) co_St_harmOfYear im_St_harmOfYear se_St_harmOfYear in_St gc_St_harmOfYear ml_St_131 ⟨Nat.le_of_ble_eq_true rfl, Nat.le_of_ble_eq_true rfl⟩ hK hP.1 rfl hP rfl hl.1 rfl (Nat.le_of_ble_eq_true rfl) d_St_harmedBy_17 ⟨Nat.le_of_ble_eq_true rfl, Nat.le_of_ble_eq_true rfl⟩ (g_r rfl ?_)
        refine lv_iload_n hx hb d_St_harmedBy_20 rfl (lv_at hl 3 rfl) ?_
        refine g_clt (tgt := 27) C0 d_St_harmedBy_21 (by decide) (hrY_lt hY h16 _) (by omega) (fun c_21 => ?_) (fun c_21 => ?_)
        · skip
          refine lv_iinc (v := (nI (i + 1))) (lv' := [(3, .int (nI (i + 1))), (2, .int (nI x)), (0, .ref b), (1, .int (nI h))]) hx hb d_St_harmedBy_27 hl (k := 0) rfl (gI_inc _) (by decide) rfl (fun ls hl => ?_)
          refine lv_goto (tgt := 4) hx hb d_St_harmedBy_30 (by decide) ?_
          exact ih4 (i + 1) x (by omega) (by omega) (by rw [cN_s, ← hx2]; simp [Nat.not_le.mpr, c_21]) ls (lv_sub hl [0, 1, 2, 3] rfl)
        · skip
          refine lv_iinc (v := (nI (x + 1))) (lv' := [(2, .int (nI (x + 1))), (3, .int (nI i)), (0, .ref b), (1, .int (nI h))]) hx hb d_St_harmedBy_24 hl (k := 1) rfl (gI_inc _) (by decide) rfl (fun ls hl => ?_)
          refine lv_iinc (v := (nI (i + 1))) (lv' := [(3, .int (nI (i + 1))), (2, .int (nI (x + 1))), (0, .ref b), (1, .int (nI h))]) hx hb d_St_harmedBy_27 hl (k := 1) rfl (gI_inc _) (by decide) rfl (fun ls hl => ?_)
          refine lv_goto (tgt := 4) hx hb d_St_harmedBy_30 (by decide) ?_
          exact ih4 (i + 1) (x + 1) (by omega) (by omega) (by rw [cN_s, ← hx2]; simp [Nat.not_le.mpr, c_21]) ls (lv_sub hl [0, 1, 2, 3] rfl)
  exact lp4 (((Y.2 1).1 - 0) + 1) 0 0 (by omega) (by omega) rfl ls (lv_sub hl [0, 1, 2, 3] rfl)

set_option maxHeartbeats 4000000 in
set_option maxRecDepth 100000 in
theorem k_St_namesakesOf (l : Launch) (G : gT) (b : Nat) (Y : ST) (v : Nat) (hv : v < 2 ^ 31) (hY : SOk Y) : gM l y_St_namesakesOf c_St_namesakesOf 2 (some .int) 3 65 0 0 G [.ref b, .int (nI v)] (fun H => StAt G b Y H) (rd (.int (nI (nsO Y v)))) noF := by
  refine g_enter "GaleNames$State" (by decide +kernel) rfl (Nat.le_of_ble_eq_true rfl) ?_
  intro p e s m args below meth c C0 hlk hr hnm hP hK ls hl
  have hx := C0.1
  have hb := C0.2.1
  have hl : lv_has ls 2 [(0, .ref b), (1, .int (nI v))] := hl
  refine lv_aload_n hx hb d_St_namesakesOf_0 rfl (lv_at hl 0 rfl) ?_
  refine g_get C0 hK il_St hP.1 rfl 10 (by decide) fl_St_45 rfl d_St_namesakesOf_1 ?_
  refine lv_iload_n hx hb d_St_namesakesOf_4 rfl (lv_at hl 1 rfl) ?_
  refine g_V C0 (k_Ro_timesOf l G (b + 18) 10 (Y.2 14) v (by omega) (hY.b (by decide))) co_Ro_timesOf im_Ro_timesOf se_Ro_timesOf in_Ro gc_Ro_timesOf ml_St_146 ⟨Nat.le_of_ble_eq_true rfl, Nat.le_of_ble_eq_true rfl⟩ hK (hP.2.2 14 (by decide)).1 rfl (hP.2.2 14 (by decide)) rfl hl.1 rfl (Nat.le_of_ble_eq_true rfl) d_St_namesakesOf_5 ⟨Nat.le_of_ble_eq_true rfl, Nat.le_of_ble_eq_true rfl⟩ (g_r rfl ?_)
  refine g_iret C0 hlk hr d_St_namesakesOf_8 (t_nil (free := noF)) ?_
  exact ⟨rfl, rfl⟩
