set_option maxHeartbeats 4000000 in
set_option maxRecDepth 100000 in
theorem k_Ga_fill (l : Launch) (G : gT) (x : Nat) (X : XS) (a k : Int32) (hX : XOk X) : gM l y_Ga_fill c_Ga_fill 6 (some .int) 7 158 0 0 G [.ref x, .int a, .int k] (fun H => XAt G x X H) (wi (.int (cFill X a k).1) (fun H H1 => XAt G x (cFill X a k).2 H1 ∧ gFr x (x + 262) H H1)) (gRg x (x + 262)) := by
  refine g_enter "GaleNames" (by decide +kernel) rfl (Nat.le_of_ble_eq_true rfl) ?_
  intro p e s m args below meth c C0 hlk hr hnm hP hK ls hl
  have hx := C0.1
  have hb := C0.2.1
  have hl : lv_has ls 6 [(0, .ref x), (1, .int a), (2, .int k)] := hl
  have hsv : SvAt G x X.2.2.2.1 X.2.2.2.2 s.heap := hP.2.2.2.2.2.1
  have hT30 : rB (xRs X).2 (2 ^ 30) := pRs_B _ _
  have h40 : (X.1.2 1).1 ≤ 40 := (hP.2.1.2.2 1 (by decide)).2.2.1
  have hS80 := hP.2.2.1.2.1.lt
  rcases hlo : loA (x + 1) a k with _ | z0
  · skip
    refine lv_aload_n hx hb d_Ga_fill_0 rfl (lv_at hl 0 rfl) ?_
    refine g_get C0 hK il_Ga hP.1 rfl 0 (by decide) fl_Ga_12 rfl d_Ga_fill_1 ?_
    refine lv_iload_n hx hb d_Ga_fill_4 rfl (lv_at hl 1 rfl) ?_
    refine lv_iload_n hx hb d_Ga_fill_5 rfl (lv_at hl 2 rfl) ?_
    refine g_V C0 (k_St_listOfX l G (x + 1) X.1 a k hlo) co_St_listOf im_St_listOf se_St_listOf in_St gc_St_listOf ml_Ga_55 ⟨Nat.le_of_ble_eq_true rfl, Nat.le_of_ble_eq_true rfl⟩ hK hP.2.1.1 rfl hP.2.1 rfl hl.1 rfl (Nat.le_of_ble_eq_true rfl) d_Ga_fill_6 ⟨Nat.le_of_ble_eq_true rfl, Nat.le_of_ble_eq_true rfl⟩ (g_r rfl ?_)
    refine lv_astore_nN (lv' := [(3, .null), (0, .ref x), (1, .int a), (2, .int k)]) hx hb d_Ga_fill_9 rfl hl (by decide) rfl (fun ls hl => ?_)
    refine lv_aload_nN hx hb d_Ga_fill_10 rfl (lv_at hl 0 rfl) ?_
    refine lv_ifnonnullN hx hb d_Ga_fill_11 ?_
    refine lv_iconst (v := -1) hx hb d_Ga_fill_14 (by decide +kernel) ?_
    refine g_iret C0 hlk hr d_Ga_fill_15 (t_nil (free := gRg x (x + 262))) ?_
    exact x_end (X' := ((X.1, (X.2.1.1, X.2.1.2), (X.2.2.1.1, X.2.2.1.2.1, X.2.2.1.2.2), X.2.2.2) : XS)) (by unfold cFill; rw [inL_f hlo]; rfl) ⟨hP.1, hP.2.1, ⟨hP.2.2.1.1, hP.2.2.1.2.1, hP.2.2.1.2.2⟩, hP.2.2.2.1, hP.2.2.2.2.1, hsv, hP.2.2.2.2.2.2⟩ gFr.rf
  · skip
    obtain ⟨i, j, hi, hj, rfl, rfl⟩ := inL_t hlo
    have hlx := lix_lt hi hj
    refine lv_aload_n hx hb d_Ga_fill_0 rfl (lv_at hl 0 rfl) ?_
    refine g_get C0 hK il_Ga hP.1 rfl 0 (by decide) fl_Ga_12 rfl d_Ga_fill_1 ?_
    refine lv_iload_n hx hb d_Ga_fill_4 rfl (lv_at hl 1 rfl) ?_
    refine lv_iload_n hx hb d_Ga_fill_5 rfl (lv_at hl 2 rfl) ?_
    refine g_V C0 (k_St_listOfN l G (x + 1) X.1 i j (by omega) (by omega)) co_St_listOf im_St_listOf se_St_listOf in_St gc_St_listOf ml_Ga_55 ⟨Nat.le_of_ble_eq_true rfl, Nat.le_of_ble_eq_true rfl⟩ hK hP.2.1.1 rfl hP.2.1 rfl hl.1 rfl (Nat.le_of_ble_eq_true rfl) d_Ga_fill_6 ⟨Nat.le_of_ble_eq_true rfl, Nat.le_of_ble_eq_true rfl⟩ (g_r rfl ?_)
    refine lv_astore_n (lv' := [(3, .ref (x + 1 + 24 + 2 * lix i j)), (0, .ref x), (1, .int (nI i)), (2, .int (nI j))]) hx hb d_Ga_fill_9 rfl hl (by decide) rfl (fun ls hl => ?_)
    refine lv_aload_n hx hb d_Ga_fill_10 rfl (lv_at hl 0 rfl) ?_
    refine lv_ifnonnull (tgt := 16) hx hb d_Ga_fill_11 (by decide) ?_
    refine lv_aload_n hx hb d_Ga_fill_16 rfl (lv_at hl 1 rfl) ?_
    refine g_get C0 hK il_Ga hP.1 rfl 1 (by decide) fl_Ga_19 rfl d_Ga_fill_17 ?_
    refine g_V C0 (k_Pa_read l G (x + 37) X.2.1.1 X.2.1.2 hX.2.1) co_Pa_read im_Pa_read se_Pa_read in_Pa gc_Pa_read ml_Ga_59 ⟨Nat.le_of_ble_eq_true rfl, Nat.le_of_ble_eq_true rfl⟩ hK hP.2.2.1.1 rfl ⟨hP.2.2.1.1, hP.2.2.1.2.1, hP.2.2.1.2.2⟩ rfl hl.1 rfl (Nat.le_of_ble_eq_true rfl) d_Ga_fill_20 ⟨Nat.le_of_ble_eq_true rfl, Nat.le_of_ble_eq_true rfl⟩ (g_wi (free := gRg x (x + 262)) (t_nil (free := gRg x (x + 262))) (gRg.mono (by omega) (by omega)) (fun H_1 locs hL ⟨hR_2, hf_3⟩ => ?_))
    refine lv_bipush (v := -6) hx hb d_Ga_fill_23 (by decide +kernel) ?_
    refine lv_icmp_eq (tgt := 31) hx hb d_Ga_fill_25 (by decide) (fun c_25 => ?_) (fun c_25 => ?_)
    · skip
      have c_25 : (xRs X).1 = none := (oI6_n (fun v h => Nat.lt_of_le_of_lt (pRs_le h) hS80)).mp c_25
      have hTl : (xRs X).2.1 ≤ 27 := hR_2.2.2.2.2.1
      have hLl : (X.1.2 (5 + lix i j)).1 ≤ 8 := (hP.2.1.ls hlx).2.2.1
      refine lv_aload_n hx hb d_Ga_fill_31 rfl (lv_at hl 1 rfl) ?_
      refine g_get C0 hK il_Ga (hP.1.fr hf_3 (by omega)) rfl 1 (by decide) fl_Ga_19 rfl d_Ga_fill_32 ?_
      refine g_V C0 (k_Pa_told l G (x + 37) X.2.1.1 ((pRs X.2.1.2.2 X.2.1.1).2)) co_Pa_told im_Pa_told se_Pa_told in_Pa gc_Pa_told ml_Ga_63 ⟨Nat.le_of_ble_eq_true rfl, Nat.le_of_ble_eq_true rfl⟩ hK hR_2.1 rfl ⟨hR_2.1, hR_2.2.1, hR_2.2.2⟩ rfl hl.1 rfl (Nat.le_of_ble_eq_true rfl) d_Ga_fill_35 ⟨Nat.le_of_ble_eq_true rfl, Nat.le_of_ble_eq_true rfl⟩ (g_r rfl ?_)
      refine lv_astore (lv' := [(4, .ref (x + 40)), (3, .ref (x + 1 + 24 + 2 * lix i j)), (0, .ref x), (1, .int (nI i)), (2, .int (nI j))]) hx hb d_Ga_fill_38 hl (by decide) rfl (fun ls hl => ?_)
      refine lv_aload_n hx hb d_Ga_fill_40 rfl (lv_at hl 2 rfl) ?_
      refine g_get C0 hK il_Ga (hP.1.fr hf_3 (by omega)) rfl 0 (by decide) fl_Ga_12 rfl d_Ga_fill_41 ?_
      refine lv_aload hx hb d_Ga_fill_44 (lv_at hl 0 rfl) ?_
      refine lv_iload_n hx hb d_Ga_fill_46 rfl (lv_at hl 3 rfl) ?_
      refine lv_aload_n hx hb d_Ga_fill_47 rfl (lv_at hl 1 rfl) ?_
      refine g_V C0 (k_St_mayJoin l G (x + 1) X.1 (x + 40) 27 ((pRs X.2.1.2.2 X.2.1.1).2) i (lix i j) ((pRs_B _ _).mono (by decide)) hi hlx hX.1) co_St_mayJoin im_St_mayJoin se_St_mayJoin in_St gc_St_mayJoin ml_Ga_67 ⟨Nat.le_of_ble_eq_true rfl, Nat.le_of_ble_eq_true rfl⟩ hK (hP.2.1.fr hf_3 (by omega)).1 rfl ⟨(hP.2.1.fr hf_3 (by omega)), hR_2.2.2⟩ rfl hl.1 rfl (Nat.le_of_ble_eq_true rfl) d_Ga_fill_48 ⟨Nat.le_of_ble_eq_true rfl, Nat.le_of_ble_eq_true rfl⟩ (g_r rfl ?_)
      refine g_zne (tgt := 57) C0 d_Ga_fill_51 (by decide) (fun c_51 => ?_) (fun c_51 => ?_)
      · skip
        have c_51 : mJ X.1 (xRs X).2 i (5 + lix i j) = true := c_51
        refine lv_aload_n hx hb d_Ga_fill_57 rfl (lv_at hl 1 rfl) ?_
        refine g_V C0 (k_Ro_size l G (x + 1 + 24 + 2 * lix i j) 8 (X.1.2 (5 + (lix i j))) ) co_Ro_size im_Ro_size se_Ro_size in_Ro gc_Ro_size ml_Ga_71 ⟨Nat.le_of_ble_eq_true rfl, Nat.le_of_ble_eq_true rfl⟩ hK ((hP.2.1.fr hf_3 (by omega)).ls (lix_lt (by omega) (by omega))).1 rfl ((hP.2.1.fr hf_3 (by omega)).ls (lix_lt (by omega) (by omega))) rfl hl.1 rfl (Nat.le_of_ble_eq_true rfl) d_Ga_fill_58 ⟨Nat.le_of_ble_eq_true rfl, Nat.le_of_ble_eq_true rfl⟩ (g_r rfl ?_)
        refine lv_aload hx hb d_Ga_fill_61 (lv_at hl 0 rfl) ?_
        refine g_V C0 (k_Ro_size l G (x + 40) 27 ((pRs X.2.1.2.2 X.2.1.1).2) ) co_Ro_size im_Ro_size se_Ro_size in_Ro gc_Ro_size ml_Ga_71 ⟨Nat.le_of_ble_eq_true rfl, Nat.le_of_ble_eq_true rfl⟩ hK hR_2.2.2.1 rfl hR_2.2.2 rfl hl.1 rfl (Nat.le_of_ble_eq_true rfl) d_Ga_fill_63 ⟨Nat.le_of_ble_eq_true rfl, Nat.le_of_ble_eq_true rfl⟩ (g_r rfl ?_)
        refine g_iadd C0 (z := (X.1.2 (5 + (lix i j))).1 + (((pRs X.2.1.2.2 X.2.1.1).2).1)) d_Ga_fill_66 rfl ?_
        refine lv_bipush (v := nI 8) hx hb d_Ga_fill_67 (by decide +kernel) ?_
        refine g_cgt (tgt := 86) C0 d_Ga_fill_69 (by decide) (by have h1 := hTl; have h2 := hLl; exact Nat.lt_of_le_of_lt (Nat.add_le_add h2 h1) (by decide)) (by omega) (fun c_69 => ?_) (fun c_69 => ?_)
        · skip
          have c_69 : 8 < (X.1.2 (5 + lix i j)).1 + (xRs X).2.1 := c_69
          refine lv_bipush (v := -4) hx hb d_Ga_fill_86 (by decide +kernel) ?_
          refine g_iret C0 hlk hr d_Ga_fill_88 hL ?_
          exact x_end (X' := ((X.1, (X.2.1.1, (pRs X.2.1.2.2 X.2.1.1).2), (X.2.2.1.1, X.2.2.1.2.1, X.2.2.1.2.2), X.2.2.2) : XS)) (by unfold cFill; rw [inL_nI hi hj, if_pos rfl, nI_clamp (by omega), nI_clamp (by omega)]; unfold cFil; rw [c_25]; exact (if_neg (by simp)).trans ((if_neg (by rw [c_51]; simp)).trans (if_pos (Or.inl c_69)))) ⟨(hP.1.fr hf_3 (by omega)), (hP.2.1.fr hf_3 (by omega)), ⟨hR_2.1, hR_2.2.1, hR_2.2.2⟩, (hP.2.2.2.1.fr hf_3 (by omega)), (hP.2.2.2.2.1.fr hf_3 (by omega)), (hsv.fr hf_3 (by omega)), hP.2.2.2.2.2.2⟩ (gFr.rf.tr (hf_3.mono (by omega) (by omega)))
        · skip
          have c_69 : (X.1.2 (5 + lix i j)).1 + (xRs X).2.1 ≤ 8 := c_69
          refine lv_aload_n hx hb d_Ga_fill_72 rfl (lv_at hl 2 rfl) ?_
          refine g_get C0 hK il_Ga (hP.1.fr hf_3 (by omega)) rfl 0 (by decide) fl_Ga_12 rfl d_Ga_fill_73 ?_
          refine lv_aload hx hb d_Ga_fill_76 (lv_at hl 0 rfl) ?_
          refine g_V C0 (k_St_knownWith l G (x + 1) X.1 (x + 40) 27 ((pRs X.2.1.2.2 X.2.1.1).2) ((pRs_B _ _).mono (by decide)) hX.1) co_St_knownWith im_St_knownWith se_St_knownWith in_St gc_St_knownWith ml_Ga_74 ⟨Nat.le_of_ble_eq_true rfl, Nat.le_of_ble_eq_true rfl⟩ hK (hP.2.1.fr hf_3 (by omega)).1 rfl ⟨(hP.2.1.fr hf_3 (by omega)), hR_2.2.2⟩ rfl hl.1 rfl (Nat.le_of_ble_eq_true rfl) d_Ga_fill_78 ⟨Nat.le_of_ble_eq_true rfl, Nat.le_of_ble_eq_true rfl⟩ (g_r rfl ?_)
          refine lv_bipush (v := nI 40) hx hb d_Ga_fill_81 (by decide +kernel) ?_
          refine g_cle (tgt := 89) C0 d_Ga_fill_83 (by decide) (by have h1 := cN_le (fun i => !(rPl (X.1.2 1) ((xRs X).2.2 i)).isSome) (xRs X).2.1; have h2 := hTl; exact Nat.lt_of_le_of_lt (Nat.add_le_add h40 (Nat.le_trans h1 h2)) (by decide)) (by omega) (fun c_83 => ?_) (fun c_83 => ?_)
          · skip
            have c_83 : knW X.1 (xRs X).2 ≤ 40 := c_83
            refine lv_aload_n hx hb d_Ga_fill_89 rfl (lv_at hl 2 rfl) ?_
            refine g_get C0 hK il_Ga (hP.1.fr hf_3 (by omega)) rfl 2 (by decide) fl_Ga_26 rfl d_Ga_fill_90 ?_
            refine lv_aload_n hx hb d_Ga_fill_93 rfl (lv_at hl 2 rfl) ?_
            refine g_get C0 hK il_Ga (hP.1.fr hf_3 (by omega)) rfl 0 (by decide) fl_Ga_12 rfl d_Ga_fill_94 ?_
            refine g_V C0 (k_Hi_record l G (x + 42) X.2.2.1.1 X.2.2.1.2.1 X.2.2.1.2.2 (x + 1) X.1 (by omega)) co_Hi_record im_Hi_record se_Hi_record in_Hi gc_Hi_record ml_Ga_37 ⟨Nat.le_of_ble_eq_true rfl, Nat.le_of_ble_eq_true rfl⟩ hK (hP.2.2.2.1.fr hf_3 (by omega)).1 rfl ⟨(hP.2.2.2.1.fr hf_3 (by omega)), (hP.2.1.fr hf_3 (by omega))⟩ rfl hl.1 rfl (Nat.le_of_ble_eq_true rfl) d_Ga_fill_97 ⟨Nat.le_of_ble_eq_true rfl, Nat.le_of_ble_eq_true rfl⟩ (g_wv (free := gRg x (x + 262)) hL (gRg.mono (by omega) (by omega)) (fun H_4 locs hL ⟨hR_5, hf_6⟩ => ?_))
            refine lv_iconst (v := nI 0) hx hb d_Ga_fill_100 (by decide +kernel) ?_
            refine lv_istore (lv' := [(5, .int (nI 0)), (4, .ref (x + 40)), (3, .ref (x + 1 + 24 + 2 * lix i j)), (0, .ref x), (1, .int (nI i)), (2, .int (nI j))]) hx hb d_Ga_fill_101 hl (by decide) rfl (fun ls hl => ?_)
            have lp103 : ∀ (fu : Nat) (t : Nat) (H : Heap) (locs : List Loc), ((xRs X).2.1 - t) < fu → t ≤ (xRs X).2.1 → (∀ qq ∈ locs, (gRg x (x + 262)) qq.base) → XAt G x ((flS X.1 (xRs X).2 (lix i j) t, (X.2.1.1, (pRs X.2.1.2.2 X.2.1.1).2), (hrN X.2.2.1.1 + 1, hrP X.2.2.1.1 X.2.2.1.2.1, hrZ X.2.2.1.1 X.2.2.1.2.2 X.1), X.2.2.2) : XS) H → SvAt G x X.2.2.2.1 X.2.2.2.2 H → gFr x (x + 262) s.heap H → ∀ ls : Array Slot, lv_has ls 6 [(5, .int (nI t)), (4, .ref (x + 40)), (3, .ref (x + 1 + 24 + 2 * lix i j)), (0, .ref x), (1, .int (nI i)), (2, .int (nI j))] → W p l e ({ frames := 7, cells := 0, slots := 0, locals := 158 } : Room) s m args below meth c H locs 0 0 (MQ below (gQ (wi (.int (cFill X (nI i) (nI j)).1) (fun H H1 => XAt G x (cFill X (nI i) (nI j)).2 H1 ∧ gFr x (x + 262) H H1))) args s 0 0 (gRg x (x + 262))) (F0 m 103 ls []) := by
              intro fu
              induction fu with
              | zero => intro t H locs hfu; exact absurd hfu (Nat.not_lt_zero _)
              | succ fu ih103 =>
                intro t H locs hfu ht hL hP hsv hF ls hl
                have hfo := fl_ok hX.1 h40 hT30 hlx t ht
                have hT31 : (xRs X).2.1 < 2 ^ 31 := Nat.lt_of_le_of_lt hTl (by decide)
                refine lv_iload hx hb d_Ga_fill_103 (lv_at hl 0 rfl) ?_
                refine lv_aload hx hb d_Ga_fill_105 (lv_at hl 1 rfl) ?_
                refine g_V C0 (k_Ro_size l G (x + 40) 27 ((pRs X.2.1.2.2 X.2.1.1).2) ) co_Ro_size im_Ro_size se_Ro_size in_Ro gc_Ro_size ml_Ga_71 ⟨Nat.le_of_ble_eq_true rfl, Nat.le_of_ble_eq_true rfl⟩ hK hP.2.2.1.2.2.1 rfl hP.2.2.1.2.2 rfl hl.1 rfl (Nat.le_of_ble_eq_true rfl) d_Ga_fill_107 ⟨Nat.le_of_ble_eq_true rfl, Nat.le_of_ble_eq_true rfl⟩ (g_r rfl ?_)
                refine g_cge (tgt := 137) C0 d_Ga_fill_110 (by decide) (by omega) (by omega) (fun c_110 => ?_) (fun c_110 => ?_)
                · skip
                  have et : t = (xRs X).2.1 := by first | omega | exact Nat.le_antisymm ht (by assumption)
                  subst et
                  refine lv_aload_n hx hb d_Ga_fill_137 rfl (lv_at hl 3 rfl) ?_
                  refine g_get C0 hK il_Ga hP.1 rfl 1 (by decide) fl_Ga_19 rfl d_Ga_fill_138 ?_
                  refine g_V C0 (k_Pa_signs l G (x + 37) X.2.1.1 ((pRs X.2.1.2.2 X.2.1.1).2)) co_Pa_signs im_Pa_signs se_Pa_signs in_Pa gc_Pa_signs ml_Ga_85 ⟨Nat.le_of_ble_eq_true rfl, Nat.le_of_ble_eq_true rfl⟩ hK hP.2.2.1.1 rfl ⟨hP.2.2.1.1, hP.2.2.1.2.1, hP.2.2.1.2.2⟩ rfl hl.1 rfl (Nat.le_of_ble_eq_true rfl) d_Ga_fill_141 ⟨Nat.le_of_ble_eq_true rfl, Nat.le_of_ble_eq_true rfl⟩ (g_r rfl ?_)
                  refine g_V C0 (k_Ro_clear l G (x + 38) 80 X.2.1.1 ) co_Ro_clear im_Ro_clear se_Ro_clear in_Ro gc_Ro_clear ml_Ga_88 ⟨Nat.le_of_ble_eq_true rfl, Nat.le_of_ble_eq_true rfl⟩ hK hP.2.2.1.2.1.1 rfl hP.2.2.1.2.1 rfl hl.1 rfl (Nat.le_of_ble_eq_true rfl) d_Ga_fill_144 ⟨Nat.le_of_ble_eq_true rfl, Nat.le_of_ble_eq_true rfl⟩ (g_wv (free := gRg x (x + 262)) hL (gRg.mono (by omega) (by omega)) (fun H_7 locs hL ⟨hR_8, hf_9⟩ => ?_))
                  refine lv_aload_n hx hb d_Ga_fill_147 rfl (lv_at hl 2 rfl) ?_
                  refine g_V C0 (k_Ro_size l G (x + 1 + 24 + 2 * lix i j) 8 ((flS X.1 (xRs X).2 (lix i j) (xRs X).2.1).2 (5 + (lix i j))) ) co_Ro_size im_Ro_size se_Ro_size in_Ro gc_Ro_size ml_Ga_71 ⟨Nat.le_of_ble_eq_true rfl, Nat.le_of_ble_eq_true rfl⟩ hK ((hP.2.1.fr hf_9 (by omega)).ls (lix_lt (by omega) (by omega))).1 rfl ((hP.2.1.fr hf_9 (by omega)).ls (lix_lt (by omega) (by omega))) rfl hl.1 rfl (Nat.le_of_ble_eq_true rfl) d_Ga_fill_148 ⟨Nat.le_of_ble_eq_true rfl, Nat.le_of_ble_eq_true rfl⟩ (g_r rfl ?_)
                  refine g_iret C0 hlk hr d_Ga_fill_151 hL ?_
                  exact x_end (X' := ((flS X.1 (xRs X).2 (lix i j) (xRs X).2.1, ((0, X.2.1.1.2), (pRs X.2.1.2.2 X.2.1.1).2), (hrN X.2.2.1.1 + 1, hrP X.2.2.1.1 X.2.2.1.2.1, hrZ X.2.2.1.1 X.2.2.1.2.2 X.1), X.2.2.2) : XS)) (by unfold cFill; rw [inL_nI hi hj, if_pos rfl, nI_clamp (by omega), nI_clamp (by omega)]; unfold cFil; rw [c_25]; exact (if_neg (by simp)).trans ((if_neg (by rw [c_51]; simp)).trans (if_neg (by rintro (h | h); exact absurd h (Nat.not_lt.mpr c_69); exact absurd h (Nat.not_lt.mpr c_83))))) ⟨(hP.1.fr hf_9 (by omega)), (hP.2.1.fr hf_9 (by omega)), ⟨(hP.2.2.1.1.fr hf_9 (by omega)), hR_8, (hP.2.2.1.2.2.fr hf_9 (by omega))⟩, (hP.2.2.2.1.fr hf_9 (by omega)), (hP.2.2.2.2.1.fr hf_9 (by omega)), (hsv.fr hf_9 (by omega)), hP.2.2.2.2.2.2⟩ (hF.tr (hf_9.mono (by omega) (by omega)))
                · skip
                  have c_110 : t < (xRs X).2.1 := c_110
                  refine lv_aload_n hx hb d_Ga_fill_113 rfl (lv_at hl 2 rfl) ?_
                  refine lv_aload_n hx hb d_Ga_fill_114 rfl (lv_at hl 3 rfl) ?_
                  refine g_get C0 hK il_Ga hP.1 rfl 0 (by decide) fl_Ga_12 rfl d_Ga_fill_115 ?_
                  refine lv_aload hx hb d_Ga_fill_118 (lv_at hl 1 rfl) ?_
                  refine lv_iload hx hb d_Ga_fill_120 (lv_at hl 0 rfl) ?_
                  refine g_V C0 (k_Ro_atN l G (x + 40) 27 ((pRs X.2.1.2.2 X.2.1.1).2) t (by omega) (by omega)) co_Ro_at im_Ro_at se_Ro_at in_Ro gc_Ro_at ml_Ga_45 ⟨Nat.le_of_ble_eq_true rfl, Nat.le_of_ble_eq_true rfl⟩ hK hP.2.2.1.2.2.1 rfl hP.2.2.1.2.2 rfl hl.1 rfl (Nat.le_of_ble_eq_true rfl) d_Ga_fill_122 ⟨Nat.le_of_ble_eq_true rfl, Nat.le_of_ble_eq_true rfl⟩ (g_r rfl ?_)
                  refine g_V C0 (k_St_learn l G (x + 1) (flS X.1 (xRs X).2 (lix i j) t) (((pRs X.2.1.2.2 X.2.1.1).2).2 t) (Nat.lt_trans (hT30 t (by omega)) (by decide)) hfo.1) co_St_learn im_St_learn se_St_learn in_St gc_St_learn ml_Ga_78 ⟨Nat.le_of_ble_eq_true rfl, Nat.le_of_ble_eq_true rfl⟩ hK hP.2.1.1 rfl hP.2.1 rfl hl.1 rfl (Nat.le_of_ble_eq_true rfl) d_Ga_fill_125 ⟨Nat.le_of_ble_eq_true rfl, Nat.le_of_ble_eq_true rfl⟩ (g_wi (free := gRg x (x + 262)) hL (gRg.mono (by omega) (by omega)) (fun H_10 locs hL ⟨hR_11, hf_12⟩ => ?_))
                  refine g_V C0 (k_Ro_add l G (x + 1 + 24 + 2 * lix i j) 8 ((lrn (flS X.1 (xRs X).2 (lix i j) t) (((pRs X.2.1.2.2 X.2.1.1).2).2 t)).2 (5 + (lix i j))) (lrnN (flS X.1 (xRs X).2 (lix i j) t) (((pRs X.2.1.2.2 X.2.1.1).2).2 t))) co_Ro_add im_Ro_add se_Ro_add in_Ro gc_Ro_add ml_Ga_81 ⟨Nat.le_of_ble_eq_true rfl, Nat.le_of_ble_eq_true rfl⟩ hK (hR_11.ls (lix_lt (by omega) (by omega))).1 rfl (hR_11.ls (lix_lt (by omega) (by omega))) rfl hl.1 rfl (Nat.le_of_ble_eq_true rfl) d_Ga_fill_128 ⟨Nat.le_of_ble_eq_true rfl, Nat.le_of_ble_eq_true rfl⟩ (g_wv (free := gRg x (x + 262)) hL (gRg.mono (by omega) (by omega)) (fun H_13 locs hL ⟨hR_14, hf_15⟩ => ?_))
                  have hS_14 := hR_11.upl (lix_lt (by omega) (by omega)) hR_14 hf_15
                  refine lv_iinc (v := (nI (t + 1))) (lv' := [(5, .int (nI (t + 1))), (4, .ref (x + 40)), (3, .ref (x + 1 + 24 + 2 * lix i j)), (0, .ref x), (1, .int (nI i)), (2, .int (nI j))]) hx hb d_Ga_fill_131 hl (k := 0) rfl (gI_inc _) (by decide) rfl (fun ls hl => ?_)
                  refine lv_goto (tgt := 103) hx hb d_Ga_fill_134 (by decide) ?_
                  exact ih103 (t + 1) H_13 locs (by omega) (by omega) hL (⟨((hP.1.fr hf_12 (by omega)).fr hf_15 (by omega)), hS_14, ⟨((hP.2.2.1.1.fr hf_12 (by omega)).fr hf_15 (by omega)), ((hP.2.2.1.2.1.fr hf_12 (by omega)).fr hf_15 (by omega)), ((hP.2.2.1.2.2.fr hf_12 (by omega)).fr hf_15 (by omega))⟩, ((hP.2.2.2.1.fr hf_12 (by omega)).fr hf_15 (by omega)), ((hP.2.2.2.2.1.fr hf_12 (by omega)).fr hf_15 (by omega)), ((hsv.fr hf_12 (by omega)).fr hf_15 (by omega)), hP.2.2.2.2.2.2⟩) ((hsv.fr hf_12 (by omega)).fr hf_15 (by omega)) ((hF.tr (hf_12.mono (by omega) (by omega))).tr (hf_15.mono (by omega) (by omega))) ls (lv_sub hl [0, 1, 2, 3, 4, 5] rfl)
            exact lp103 (((xRs X).2.1 - 0) + 1) 0 H_4 locs (by omega) (by omega) hL (⟨((hP.1.fr hf_3 (by omega)).fr hf_6 (by omega)), ((hP.2.1.fr hf_3 (by omega)).fr hf_6 (by omega)), ⟨(hR_2.1.fr hf_6 (by omega)), (hR_2.2.1.fr hf_6 (by omega)), (hR_2.2.2.fr hf_6 (by omega))⟩, hR_5, ((hP.2.2.2.2.1.fr hf_3 (by omega)).fr hf_6 (by omega)), ((hsv.fr hf_3 (by omega)).fr hf_6 (by omega)), hP.2.2.2.2.2.2⟩) ((hsv.fr hf_3 (by omega)).fr hf_6 (by omega)) ((gFr.rf.tr (hf_3.mono (by omega) (by omega))).tr (hf_6.mono (by omega) (by omega))) ls (lv_sub hl [0, 1, 2, 3, 4, 5] rfl)
          · skip
            have c_83 : 40 < knW X.1 (xRs X).2 := c_83
            refine lv_bipush (v := -4) hx hb d_Ga_fill_86 (by decide +kernel) ?_
            refine g_iret C0 hlk hr d_Ga_fill_88 hL ?_
            exact x_end (X' := ((X.1, (X.2.1.1, (pRs X.2.1.2.2 X.2.1.1).2), (X.2.2.1.1, X.2.2.1.2.1, X.2.2.1.2.2), X.2.2.2) : XS)) (by unfold cFill; rw [inL_nI hi hj, if_pos rfl, nI_clamp (by omega), nI_clamp (by omega)]; unfold cFil; rw [c_25]; exact (if_neg (by simp)).trans ((if_neg (by rw [c_51]; simp)).trans (if_pos (Or.inr c_83)))) ⟨(hP.1.fr hf_3 (by omega)), (hP.2.1.fr hf_3 (by omega)), ⟨hR_2.1, hR_2.2.1, hR_2.2.2⟩, (hP.2.2.2.1.fr hf_3 (by omega)), (hP.2.2.2.2.1.fr hf_3 (by omega)), (hsv.fr hf_3 (by omega)), hP.2.2.2.2.2.2⟩ (gFr.rf.tr (hf_3.mono (by omega) (by omega)))
      · skip
        have c_51 : mJ X.1 (xRs X).2 i (5 + lix i j) = false := c_51
        refine lv_bipush (v := -5) hx hb d_Ga_fill_54 (by decide +kernel) ?_
        refine g_iret C0 hlk hr d_Ga_fill_56 hL ?_
        exact x_end (X' := ((X.1, (X.2.1.1, (pRs X.2.1.2.2 X.2.1.1).2), (X.2.2.1.1, X.2.2.1.2.1, X.2.2.1.2.2), X.2.2.2) : XS)) (by unfold cFill; rw [inL_nI hi hj, if_pos rfl, nI_clamp (by omega), nI_clamp (by omega)]; unfold cFil; rw [c_25]; exact (if_neg (by simp)).trans (if_pos c_51)) ⟨(hP.1.fr hf_3 (by omega)), (hP.2.1.fr hf_3 (by omega)), ⟨hR_2.1, hR_2.2.1, hR_2.2.2⟩, (hP.2.2.2.1.fr hf_3 (by omega)), (hP.2.2.2.2.1.fr hf_3 (by omega)), (hsv.fr hf_3 (by omega)), hP.2.2.2.2.2.2⟩ (gFr.rf.tr (hf_3.mono (by omega) (by omega)))
    · skip
      obtain ⟨z1, hz1⟩ : ∃ z, (xRs X).1 = some z := oI6_some c_25
      refine lv_bipush (v := -3) hx hb d_Ga_fill_28 (by decide +kernel) ?_
      refine g_iret C0 hlk hr d_Ga_fill_30 hL ?_
      exact x_end (X' := ((X.1, (X.2.1.1, (pRs X.2.1.2.2 X.2.1.1).2), (X.2.2.1.1, X.2.2.1.2.1, X.2.2.1.2.2), X.2.2.2) : XS)) (by unfold cFill; rw [inL_nI hi hj, if_pos rfl, nI_clamp (by omega), nI_clamp (by omega)]; unfold cFil; rw [hz1]; rfl) ⟨(hP.1.fr hf_3 (by omega)), (hP.2.1.fr hf_3 (by omega)), ⟨hR_2.1, hR_2.2.1, hR_2.2.2⟩, (hP.2.2.2.1.fr hf_3 (by omega)), (hP.2.2.2.2.1.fr hf_3 (by omega)), (hsv.fr hf_3 (by omega)), hP.2.2.2.2.2.2⟩ (gFr.rf.tr (hf_3.mono (by omega) (by omega)))

set_option maxHeartbeats 4000000 in
set_option maxRecDepth 100000 in
theorem k_Ga_undo (l : Launch) (G : gT) (x : Nat) (X : XS)  (hX : XOk X) : gM l y_Ga_undo c_Ga_undo 2 (some .int) 4 84 0 0 G [.ref x] (fun H => XAt G x X H) (wi (.int (cUndo X).1) (fun H H1 => XAt G x (cUndo X).2 H1 ∧ gFr x (x + 262) H H1)) (gRg x (x + 262)) := by
  refine g_enter "GaleNames" (by decide +kernel) rfl (Nat.le_of_ble_eq_true rfl) ?_
  intro p e s m args below meth c C0 hlk hr hnm hP hK ls hl
  have hx := C0.1
  have hb := C0.2.1
  have hl : lv_has ls 2 [(0, .ref x)] := hl
  have hsv : SvAt G x X.2.2.2.1 X.2.2.2.2 s.heap := hP.2.2.2.2.2.1
  have hn6 := hP.2.2.2.1.2.2.2.1
  rcases Nat.eq_zero_or_pos X.2.2.1.1 with hn | hn
  · skip
    refine lv_aload_n hx hb d_Ga_undo_0 rfl (lv_at hl 0 rfl) ?_
    refine g_get C0 hK il_Ga hP.1 rfl 2 (by decide) fl_Ga_26 rfl d_Ga_undo_1 ?_
    refine g_V C0 (k_Hi_takeLatest0 l G (x + 42) X.2.2.1.1 X.2.2.1.2.1 X.2.2.1.2.2 hn) co_Hi_takeLatest im_Hi_takeLatest se_Hi_takeLatest in_Hi gc_Hi_takeLatest ml_Ga_216 ⟨Nat.le_of_ble_eq_true rfl, Nat.le_of_ble_eq_true rfl⟩ hK hP.2.2.2.1.1 rfl hP.2.2.2.1 rfl hl.1 rfl (Nat.le_of_ble_eq_true rfl) d_Ga_undo_4 ⟨Nat.le_of_ble_eq_true rfl, Nat.le_of_ble_eq_true rfl⟩ (g_r rfl ?_)
    refine lv_astore_nN (lv' := [(1, .null), (0, .ref x)]) hx hb d_Ga_undo_7 rfl hl (by decide) rfl (fun ls hl => ?_)
    refine lv_aload_nN hx hb d_Ga_undo_8 rfl (lv_at hl 0 rfl) ?_
    refine lv_ifnonnullN hx hb d_Ga_undo_9 ?_
    refine lv_bipush (v := -5) hx hb d_Ga_undo_12 (by decide +kernel) ?_
    refine g_iret C0 hlk hr d_Ga_undo_14 (t_nil (free := gRg x (x + 262))) ?_
    exact x_end (X' := ((X.1, (X.2.1.1, X.2.1.2), (X.2.2.1.1, X.2.2.1.2.1, X.2.2.1.2.2), X.2.2.2) : XS)) (by unfold cUndo; exact if_pos hn) ⟨hP.1, hP.2.1, ⟨hP.2.2.1.1, hP.2.2.1.2.1, hP.2.2.1.2.2⟩, hP.2.2.2.1, hP.2.2.2.2.1, hsv, hP.2.2.2.2.2.2⟩ gFr.rf
  · skip
    refine lv_aload_n hx hb d_Ga_undo_0 rfl (lv_at hl 0 rfl) ?_
    refine g_get C0 hK il_Ga hP.1 rfl 2 (by decide) fl_Ga_26 rfl d_Ga_undo_1 ?_
    refine g_V C0 (k_Hi_takeLatest l G (x + 42) X.2.2.1.1 X.2.2.1.2.1 X.2.2.1.2.2 hn) co_Hi_takeLatest im_Hi_takeLatest se_Hi_takeLatest in_Hi gc_Hi_takeLatest ml_Ga_216 ⟨Nat.le_of_ble_eq_true rfl, Nat.le_of_ble_eq_true rfl⟩ hK hP.2.2.2.1.1 rfl hP.2.2.2.1 rfl hl.1 rfl (Nat.le_of_ble_eq_true rfl) d_Ga_undo_4 ⟨Nat.le_of_ble_eq_true rfl, Nat.le_of_ble_eq_true rfl⟩ (g_wi (free := gRg x (x + 262)) (t_nil (free := gRg x (x + 262))) (gRg.mono (by omega) (by omega)) (fun H_1 locs hL ⟨hR_2, hf_3⟩ => ?_))
    refine lv_astore_n (lv' := [(1, .ref (x + 42 + 2 + 36 * X.2.2.1.2.1 (X.2.2.1.1 - 1))), (0, .ref x)]) hx hb d_Ga_undo_7 rfl hl (by decide) rfl (fun ls hl => ?_)
    refine lv_aload_n hx hb d_Ga_undo_8 rfl (lv_at hl 0 rfl) ?_
    refine lv_ifnonnull (tgt := 15) hx hb d_Ga_undo_9 (by decide) ?_
    refine lv_aload_n hx hb d_Ga_undo_15 rfl (lv_at hl 1 rfl) ?_
    refine g_get C0 hK il_Ga (hP.1.fr hf_3 (by omega)) rfl 0 (by decide) fl_Ga_12 rfl d_Ga_undo_16 ?_
    refine lv_aload_n hx hb d_Ga_undo_19 rfl (lv_at hl 0 rfl) ?_
    refine g_V C0 (k_St_copy l G (x + 1) X.1 (x + 42 + 2 + 36 * X.2.2.1.2.1 (X.2.2.1.1 - 1)) (X.2.2.1.2.2 (X.2.2.1.1 - 1)) (by omega)) co_St_copy im_St_copy se_St_copy in_St gc_St_copy ml_Ga_220 ⟨Nat.le_of_ble_eq_true rfl, Nat.le_of_ble_eq_true rfl⟩ hK (hP.2.1.fr hf_3 (by omega)).1 rfl ⟨(hP.2.1.fr hf_3 (by omega)), hR_2.2.2.1 (X.2.2.1.1 - 1) (by omega)⟩ rfl hl.1 rfl (Nat.le_of_ble_eq_true rfl) d_Ga_undo_20 ⟨Nat.le_of_ble_eq_true rfl, Nat.le_of_ble_eq_true rfl⟩ (g_wv (free := gRg x (x + 262)) hL (gRg.mono (by omega) (by omega)) (fun H_4 locs hL ⟨hR_5, hf_6⟩ => ?_))
    refine lv_aload_n hx hb d_Ga_undo_23 rfl (lv_at hl 1 rfl) ?_
    refine g_get C0 hK il_Ga ((hP.1.fr hf_3 (by omega)).fr hf_6 (by omega)) rfl 2 (by decide) fl_Ga_26 rfl d_Ga_undo_24 ?_
    refine g_V C0 (k_Hi_size l G (x + 42) (X.2.2.1.1 - 1) X.2.2.1.2.1 X.2.2.1.2.2) co_Hi_size im_Hi_size se_Hi_size in_Hi gc_Hi_size ml_Ga_196 ⟨Nat.le_of_ble_eq_true rfl, Nat.le_of_ble_eq_true rfl⟩ hK (hR_2.fr hf_6 (by omega)).1 rfl (hR_2.fr hf_6 (by omega)) rfl hl.1 rfl (Nat.le_of_ble_eq_true rfl) d_Ga_undo_27 ⟨Nat.le_of_ble_eq_true rfl, Nat.le_of_ble_eq_true rfl⟩ (g_r rfl ?_)
    refine g_iret C0 hlk hr d_Ga_undo_30 hL ?_
    exact x_end (X' := ((cpL X.1 (X.2.2.1.2.2 (X.2.2.1.1 - 1)) 17, (X.2.1.1, X.2.1.2), (X.2.2.1.1 - 1, X.2.2.1.2.1, X.2.2.1.2.2), X.2.2.2) : XS)) (by unfold cUndo; exact if_neg (Nat.ne_of_gt hn)) ⟨((hP.1.fr hf_3 (by omega)).fr hf_6 (by omega)), hR_5, ⟨((hP.2.2.1.1.fr hf_3 (by omega)).fr hf_6 (by omega)), ((hP.2.2.1.2.1.fr hf_3 (by omega)).fr hf_6 (by omega)), ((hP.2.2.1.2.2.fr hf_3 (by omega)).fr hf_6 (by omega))⟩, (hR_2.fr hf_6 (by omega)), ((hP.2.2.2.2.1.fr hf_3 (by omega)).fr hf_6 (by omega)), ((hsv.fr hf_3 (by omega)).fr hf_6 (by omega)), hP.2.2.2.2.2.2⟩ ((gFr.rf.tr (hf_3.mono (by omega) (by omega))).tr (hf_6.mono (by omega) (by omega)))

set_option maxHeartbeats 4000000 in
set_option maxRecDepth 100000 in
theorem k_Ga_restore (l : Launch) (G : gT) (x : Nat) (X : XS) (a : Int32) (hX : XOk X) : gM l y_Ga_restore c_Ga_restore 3 (some .int) 5 106 0 0 G [.ref x, .int a] (fun H => XAt G x X H) (wi (.int (cRes X a).1) (fun H H1 => XAt G x (cRes X a).2 H1 ∧ gFr x (x + 262) H H1)) (gRg x (x + 262)) := by
  refine g_enter "GaleNames" (by decide +kernel) rfl (Nat.le_of_ble_eq_true rfl) ?_
  intro p e s m args below meth c C0 hlk hr hnm hP hK ls hl
  have hx := C0.1
  have hb := C0.2.1
  have hl : lv_has ls 3 [(0, .ref x), (1, .int a)] := hl
  have hsv : SvAt G x X.2.2.2.1 X.2.2.2.2 s.heap := hP.2.2.2.2.2.1
  refine lv_aload_n hx hb d_Ga_restore_0 rfl (lv_at hl 0 rfl) ?_
  refine g_get C0 hK il_Ga hP.1 rfl 3 (by decide) fl_Ga_33 rfl d_Ga_restore_1 ?_
  refine lv_iload_n hx hb d_Ga_restore_4 rfl (lv_at hl 1 rfl) ?_
  refine g_V C0 (k_Sl_has l G (x + 260) X.2.2.2.1 a) co_Sl_has im_Sl_has se_Sl_has in_Sl gc_Sl_has ml_Ga_223 ⟨Nat.le_of_ble_eq_true rfl, Nat.le_of_ble_eq_true rfl⟩ hK hP.2.2.2.2.1.1 rfl hP.2.2.2.2.1 rfl hl.1 rfl (Nat.le_of_ble_eq_true rfl) d_Ga_restore_5 ⟨Nat.le_of_ble_eq_true rfl, Nat.le_of_ble_eq_true rfl⟩ (g_r rfl ?_)
  refine g_zne (tgt := 14) C0 d_Ga_restore_8 (by decide) (fun c_8 => ?_) (fun c_8 => ?_)
  · skip
    obtain ⟨i, hi, hi31, rfl⟩ := inR_t c_8
    rcases ho : X.2.2.2.1 i with _ | z
    · skip
      refine lv_aload_n hx hb d_Ga_restore_14 rfl (lv_at hl 0 rfl) ?_
      refine g_get C0 hK il_Ga hP.1 rfl 3 (by decide) fl_Ga_33 rfl d_Ga_restore_15 ?_
      refine lv_iload_n hx hb d_Ga_restore_18 rfl (lv_at hl 1 rfl) ?_
      refine g_V C0 (k_Sl_keptInN l G (x + 260) X.2.2.2.1 i (by omega) ho) co_Sl_keptIn im_Sl_keptIn se_Sl_keptIn in_Sl gc_Sl_keptIn ml_Ga_228 ⟨Nat.le_of_ble_eq_true rfl, Nat.le_of_ble_eq_true rfl⟩ hK hP.2.2.2.2.1.1 rfl hP.2.2.2.2.1 rfl hl.1 rfl (Nat.le_of_ble_eq_true rfl) d_Ga_restore_19 ⟨Nat.le_of_ble_eq_true rfl, Nat.le_of_ble_eq_true rfl⟩ (g_r rfl ?_)
      refine lv_astore_nN (lv' := [(2, .null), (0, .ref x), (1, .int (nI i))]) hx hb d_Ga_restore_22 rfl hl (by decide) rfl (fun ls hl => ?_)
      refine lv_aload_nN hx hb d_Ga_restore_23 rfl (lv_at hl 0 rfl) ?_
      refine lv_ifnonnullN hx hb d_Ga_restore_24 ?_
      refine lv_bipush (v := -5) hx hb d_Ga_restore_27 (by decide +kernel) ?_
      refine g_iret C0 hlk hr d_Ga_restore_29 (t_nil (free := gRg x (x + 262))) ?_
      exact x_end (X' := ((X.1, (X.2.1.1, X.2.1.2), (X.2.2.1.1, X.2.2.1.2.1, X.2.2.1.2.2), X.2.2.2) : XS)) (by unfold cRes; rw [c_8, if_pos rfl, nI_clamp hi31, ho]) ⟨hP.1, hP.2.1, ⟨hP.2.2.1.1, hP.2.2.1.2.1, hP.2.2.1.2.2⟩, hP.2.2.2.1, hP.2.2.2.2.1, hsv, hP.2.2.2.2.2.2⟩ gFr.rf
    · skip
      have hz0 := (hP.2.2.2.2.2.1 i hi z ho).1
      refine lv_aload_n hx hb d_Ga_restore_14 rfl (lv_at hl 0 rfl) ?_
      refine g_get C0 hK il_Ga hP.1 rfl 3 (by decide) fl_Ga_33 rfl d_Ga_restore_15 ?_
      refine lv_iload_n hx hb d_Ga_restore_18 rfl (lv_at hl 1 rfl) ?_
      refine g_V C0 (k_Sl_keptInS l G (x + 260) X.2.2.2.1 i z (by omega) ho) co_Sl_keptIn im_Sl_keptIn se_Sl_keptIn in_Sl gc_Sl_keptIn ml_Ga_228 ⟨Nat.le_of_ble_eq_true rfl, Nat.le_of_ble_eq_true rfl⟩ hK hP.2.2.2.2.1.1 rfl hP.2.2.2.2.1 rfl hl.1 rfl (Nat.le_of_ble_eq_true rfl) d_Ga_restore_19 ⟨Nat.le_of_ble_eq_true rfl, Nat.le_of_ble_eq_true rfl⟩ (g_r rfl ?_)
      refine lv_astore_n (lv' := [(2, .ref z), (0, .ref x), (1, .int (nI i))]) hx hb d_Ga_restore_22 rfl hl (by decide) rfl (fun ls hl => ?_)
      refine lv_aload_n hx hb d_Ga_restore_23 rfl (lv_at hl 0 rfl) ?_
      refine lv_ifnonnull (tgt := 30) hx hb d_Ga_restore_24 (by decide) ?_
      refine lv_aload_n hx hb d_Ga_restore_30 rfl (lv_at hl 1 rfl) ?_
      refine g_get C0 hK il_Ga hP.1 rfl 2 (by decide) fl_Ga_26 rfl d_Ga_restore_31 ?_
      refine lv_aload_n hx hb d_Ga_restore_34 rfl (lv_at hl 1 rfl) ?_
      refine g_get C0 hK il_Ga hP.1 rfl 0 (by decide) fl_Ga_12 rfl d_Ga_restore_35 ?_
      refine g_V C0 (k_Hi_record l G (x + 42) X.2.2.1.1 X.2.2.1.2.1 X.2.2.1.2.2 (x + 1) X.1 (by omega)) co_Hi_record im_Hi_record se_Hi_record in_Hi gc_Hi_record ml_Ga_37 ⟨Nat.le_of_ble_eq_true rfl, Nat.le_of_ble_eq_true rfl⟩ hK hP.2.2.2.1.1 rfl ⟨hP.2.2.2.1, hP.2.1⟩ rfl hl.1 rfl (Nat.le_of_ble_eq_true rfl) d_Ga_restore_38 ⟨Nat.le_of_ble_eq_true rfl, Nat.le_of_ble_eq_true rfl⟩ (g_wv (free := gRg x (x + 262)) (t_nil (free := gRg x (x + 262))) (gRg.mono (by omega) (by omega)) (fun H_1 locs hL ⟨hR_2, hf_3⟩ => ?_))
      refine lv_aload_n hx hb d_Ga_restore_41 rfl (lv_at hl 1 rfl) ?_
      refine g_get C0 hK il_Ga (hP.1.fr hf_3 (by omega)) rfl 0 (by decide) fl_Ga_12 rfl d_Ga_restore_42 ?_
      refine lv_aload_n hx hb d_Ga_restore_45 rfl (lv_at hl 0 rfl) ?_
      refine g_V C0 (k_St_copy l G (x + 1) X.1 z (X.2.2.2.2 i) (by omega)) co_St_copy im_St_copy se_St_copy in_St gc_St_copy ml_Ga_220 ⟨Nat.le_of_ble_eq_true rfl, Nat.le_of_ble_eq_true rfl⟩ hK (hP.2.1.fr hf_3 (by omega)).1 rfl ⟨(hP.2.1.fr hf_3 (by omega)), ((hsv.fr hf_3 (by omega)) i hi z ho).2⟩ rfl hl.1 rfl (Nat.le_of_ble_eq_true rfl) d_Ga_restore_46 ⟨Nat.le_of_ble_eq_true rfl, Nat.le_of_ble_eq_true rfl⟩ (g_wv (free := gRg x (x + 262)) hL (gRg.mono (by omega) (by omega)) (fun H_4 locs hL ⟨hR_5, hf_6⟩ => ?_))
      refine lv_aload_n hx hb d_Ga_restore_49 rfl (lv_at hl 1 rfl) ?_
      refine g_get C0 hK il_Ga ((hP.1.fr hf_3 (by omega)).fr hf_6 (by omega)) rfl 0 (by decide) fl_Ga_12 rfl d_Ga_restore_50 ?_
      refine g_getN C0 hK il_St hR_5.1 rfl 2 (by decide) fn_Ga_149 rfl d_Ga_restore_53 ?_
      refine g_V C0 (k_Ro_size l G (x + 4) 40 ((cpL X.1 (X.2.2.2.2 i) 17).2 1) ) co_Ro_size im_Ro_size se_Ro_size in_Ro gc_Ro_size ml_Ga_71 ⟨Nat.le_of_ble_eq_true rfl, Nat.le_of_ble_eq_true rfl⟩ hK (hR_5.2.2 1 (by decide)).1 rfl (hR_5.2.2 1 (by decide)) rfl hl.1 rfl (Nat.le_of_ble_eq_true rfl) d_Ga_restore_56 ⟨Nat.le_of_ble_eq_true rfl, Nat.le_of_ble_eq_true rfl⟩ (g_r rfl ?_)
      refine g_iret C0 hlk hr d_Ga_restore_59 hL ?_
      exact x_end (X' := ((cpL X.1 (X.2.2.2.2 i) 17, (X.2.1.1, X.2.1.2), (hrN X.2.2.1.1 + 1, hrP X.2.2.1.1 X.2.2.1.2.1, hrZ X.2.2.1.1 X.2.2.1.2.2 X.1), X.2.2.2) : XS)) (by unfold cRes; rw [c_8, if_pos rfl, nI_clamp hi31, ho]; rfl) ⟨((hP.1.fr hf_3 (by omega)).fr hf_6 (by omega)), hR_5, ⟨((hP.2.2.1.1.fr hf_3 (by omega)).fr hf_6 (by omega)), ((hP.2.2.1.2.1.fr hf_3 (by omega)).fr hf_6 (by omega)), ((hP.2.2.1.2.2.fr hf_3 (by omega)).fr hf_6 (by omega))⟩, (hR_2.fr hf_6 (by omega)), ((hP.2.2.2.2.1.fr hf_3 (by omega)).fr hf_6 (by omega)), ((hsv.fr hf_3 (by omega)).fr hf_6 (by omega)), hP.2.2.2.2.2.2⟩ ((gFr.rf.tr (hf_3.mono (by omega) (by omega))).tr (hf_6.mono (by omega) (by omega)))
  · skip
    refine lv_bipush (v := -2) hx hb d_Ga_restore_11 (by decide +kernel) ?_
    refine g_iret C0 hlk hr d_Ga_restore_13 (t_nil (free := gRg x (x + 262))) ?_
    exact x_end (X' := ((X.1, (X.2.1.1, X.2.1.2), (X.2.2.1.1, X.2.2.1.2.1, X.2.2.1.2.2), X.2.2.2) : XS)) (by unfold cRes; rw [c_8]; rfl) ⟨hP.1, hP.2.1, ⟨hP.2.2.1.1, hP.2.2.1.2.1, hP.2.2.1.2.2⟩, hP.2.2.2.1, hP.2.2.2.2.1, hsv, hP.2.2.2.2.2.2⟩ gFr.rf
