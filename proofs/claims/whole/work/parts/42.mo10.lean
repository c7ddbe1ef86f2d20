set_option maxHeartbeats 4000000 in
set_option maxRecDepth 100000 in
theorem k_Mo_comes (l : Launch) (G : gT) (o : Nat) (S sp bf sv iz rr pd : Nat → Nat) (ln sts td ac : Nat) (ct k : Nat) (hc : ct < 2) (hk : k < 3) (hM : mOk S) (hR : rOk rr pd td) : gM l y_Mo_comes c_Mo_comes 9 (some .int) 3 71 0 0 G [.ref o, .int (nI ct), .int (nI k)] (fun H => MAt G o S sp bf sv iz rr pd ln sts td ac H) (wi (.int (cmR S rr pd td ct k)) (fun H H1 => MAt G o ((cmA S rr pd td ct k td).1) sp bf sv iz rr pd ln sts td ac H1 ∧ gFr o (o + 8) H H1)) (gRg o (o + 8)) := by
  refine g_enter "GaleNamesModel" (by decide +kernel) rfl (Nat.le_of_ble_eq_true rfl) ?_
  intro p e s m args below meth c C0 hlk hr hnm hP hK ls hl
  have hx := C0.1
  have hb := C0.2.1
  have hl : lv_has ls 9 [(0, .ref o), (1, .int (nI ct)), (2, .int (nI k))] := hl
  have hn40 := hM.n
  have hg16 := hM.g
  have hk10 := hM.k
  have htd := hR.1
  have hl8 := hM.l hc hk
  refine lv_iload_n hx hb d_Mo_comes_0 rfl (lv_at hl 1 rfl) ?_
  refine lv_iload_n hx hb d_Mo_comes_1 rfl (lv_at hl 2 rfl) ?_
  refine g_S C0 (k_Mo_l l G ct k) co_Mo_l sm_Mo_l in_Mo gc_Mo_l ml_Mo_68 ⟨Nat.le_of_ble_eq_true rfl, Nat.le_of_ble_eq_true rfl⟩ hK trivial rfl hl.1 rfl (Nat.le_of_ble_eq_true rfl) d_Mo_comes_2 ⟨Nat.le_of_ble_eq_true rfl, Nat.le_of_ble_eq_true rfl⟩ (g_r rfl ?_)
  refine lv_istore_n (lv' := [(3, .int (nI (409 + 27 * ct + 9 * k))), (0, .ref o), (1, .int (nI ct)), (2, .int (nI k))]) hx hb d_Mo_comes_5 rfl hl (by decide) rfl (fun ls hl => ?_)
  refine lv_iconst (v := nI 0) hx hb d_Mo_comes_6 (by decide +kernel) ?_
  refine lv_istore (lv' := [(4, .int (nI 0)), (3, .int (nI (409 + 27 * ct + 9 * k))), (0, .ref o), (1, .int (nI ct)), (2, .int (nI k))]) hx hb d_Mo_comes_7 hl (by decide) rfl (fun ls hl => ?_)
  refine lv_iconst (v := nI 0) hx hb d_Mo_comes_9 (by decide +kernel) ?_
  refine lv_istore (lv' := [(5, .int (nI 0)), (4, .int (nI 0)), (3, .int (nI (409 + 27 * ct + 9 * k))), (0, .ref o), (1, .int (nI ct)), (2, .int (nI k))]) hx hb d_Mo_comes_10 hl (by decide) rfl (fun ls hl => ?_)
  refine lv_iconst (v := nI 0) hx hb d_Mo_comes_12 (by decide +kernel) ?_
  refine lv_istore (lv' := [(6, .int (nI 0)), (5, .int (nI 0)), (4, .int (nI 0)), (3, .int (nI (409 + 27 * ct + 9 * k))), (0, .ref o), (1, .int (nI ct)), (2, .int (nI k))]) hx hb d_Mo_comes_13 hl (by decide) rfl (fun ls hl => ?_)
  have lp15 : ∀ (fu : Nat) (i : Nat) (eb : Bool) (ro : Bool) (H : Heap) (locs : List Loc), (td - i) < fu → i ≤ td → eb = (cmA S rr pd td ct k i).2.1 → ro = (cmA S rr pd td ct k i).2.2 → (∀ qq ∈ locs, (gRg o (o + 8)) qq.base) → MAt G o ((cmA S rr pd td ct k i).1) sp bf sv iz rr pd ln sts td ac H → gFr o (o + 8) s.heap H → ∀ ls : Array Slot, lv_has ls 9 [(6, .int (nI i)), (5, .int (zRo ro)), (4, .int (zEr eb)), (3, .int (nI (409 + 27 * ct + 9 * k))), (0, .ref o), (1, .int (nI ct)), (2, .int (nI k))] → W p l e ({ frames := 3, cells := 0, slots := 0, locals := 71 } : Room) s m args below meth c H locs 0 0 (MQ below (gQ (wi (.int (cmR S rr pd td ct k)) (fun H H1 => MAt G o ((cmA S rr pd td ct k td).1) sp bf sv iz rr pd ln sts td ac H1 ∧ gFr o (o + 8) H H1))) args s 0 0 (gRg o (o + 8))) (F0 m 15 ls []) := by
    intro fu
    induction fu with
    | zero => intro i eb ro H locs hfu; exact absurd hfu (Nat.not_lt_zero _)
    | succ fu ih15 =>
      intro i eb ro H locs hfu hi hee hro hL hP hF ls hl
      have hMi := cmA_ok (c := ct) (k := k) hM hR i hi
      have hqb := hMi.1.l hc hk
      refine lv_iload hx hb d_Mo_comes_15 (lv_at hl 0 rfl) ?_
      refine lv_aload_n hx hb d_Mo_comes_17 rfl (lv_at hl 4 rfl) ?_
      refine g_get C0 hK il_Mo hP.1 rfl 9 (by decide) fl_Mo_51 rfl d_Mo_comes_18 ?_
      refine g_cge (tgt := 153) C0 d_Mo_comes_21 (by decide) (by first | omega | exact hM.b (by omega) | exact hR.p (by omega)) (by first | omega | exact hM.b (by omega) | exact hR.p (by omega)) (fun c_21 => ?_) (fun c_21 => ?_)
      · skip
        have ei : i = td := by omega
        have hE : cmA S rr pd td ct k td = cmA S rr pd td ct k i := by rw [ei]
        refine lv_iload hx hb d_Mo_comes_153 (lv_at hl 2 rfl) ?_
        refine lv_bipush (v := -5) hx hb d_Mo_comes_155 (by decide +kernel) ?_
        refine lv_icmp_ne (tgt := 165) hx hb d_Mo_comes_157 (by decide) (fun c_157 => ?_) (fun c_157 => ?_)
        · skip
          have hne : ¬ (cmA S rr pd td ct k i).2.1 = true := by rw [← hee]; exact fun q => c_157 (zEr_t.mpr q)
          refine lv_iload hx hb d_Mo_comes_165 (lv_at hl 1 rfl) ?_
          refine lv_bipush (v := -4) hx hb d_Mo_comes_167 (by decide +kernel) ?_
          refine lv_icmp_eq (tgt := 188) hx hb d_Mo_comes_169 (by decide) (fun c_169 => ?_) (fun c_169 => ?_)
          · skip
            refine lv_bipush (v := -4) hx hb d_Mo_comes_188 (by decide +kernel) ?_
            refine lv_goto (tgt := 194) hx hb d_Mo_comes_190 (by decide) ?_
            refine g_iret C0 hlk hr d_Mo_comes_194 hL ?_
            exact ⟨rdI (by rw [cmR, hE, if_neg hne, if_pos (Or.inl (by rw [← hro]; exact zRo_t.mp c_169))] <;> rfl), (by rw [hE]; exact ⟨hP.1, hP.2.1, hP.2.2.1, hP.2.2.2.1, hP.2.2.2.2.1, hP.2.2.2.2.2.1, hP.2.2.2.2.2.2.1, hP.2.2.2.2.2.2.2⟩), hF⟩
          · skip
            have hnr : ¬ (cmA S rr pd td ct k i).2.2 = true := by rw [← hro]; exact fun q => c_169 (zRo_t.mpr q)
            refine lv_aload_n hx hb d_Mo_comes_172 rfl (lv_at hl 4 rfl) ?_
            refine g_get C0 hK il_Mo hP.1 rfl 0 (by decide) fl_Mo_7 rfl d_Mo_comes_173 ?_
            refine lv_iload_n hx hb d_Mo_comes_176 rfl (lv_at hl 3 rfl) ?_
            refine g_iald C0 hK hP.2.1 (by omega) (by omega) d_Mo_comes_177 ?_
            refine lv_aload_n hx hb d_Mo_comes_178 rfl (lv_at hl 4 rfl) ?_
            refine g_get C0 hK il_Mo hP.1 rfl 9 (by decide) fl_Mo_51 rfl d_Mo_comes_179 ?_
            refine g_iadd C0 (z := ((cmA S rr pd td ct k i).1) (409 + 27 * ct + 9 * k) + td) d_Mo_comes_182 rfl ?_
            refine lv_bipush (v := nI 8) hx hb d_Mo_comes_183 (by decide +kernel) ?_
            refine g_cle (tgt := 193) C0 d_Mo_comes_185 (by decide) (by first | omega | exact hM.b (by omega) | exact hR.p (by omega)) (by first | omega | exact hM.b (by omega) | exact hR.p (by omega)) (fun c_185 => ?_) (fun c_185 => ?_)
            · skip
              refine lv_iconst (v := nI 0) hx hb d_Mo_comes_193 (by decide +kernel) ?_
              refine g_iret C0 hlk hr d_Mo_comes_194 hL ?_
              exact ⟨rdI (by rw [cmR, hE, if_neg hne, if_neg (fun q => q.elim hnr (fun q2 => by omega))] <;> rfl), (by rw [hE]; exact ⟨hP.1, hP.2.1, hP.2.2.1, hP.2.2.2.1, hP.2.2.2.2.1, hP.2.2.2.2.2.1, hP.2.2.2.2.2.2.1, hP.2.2.2.2.2.2.2⟩), hF⟩
            · skip
              refine lv_bipush (v := -4) hx hb d_Mo_comes_188 (by decide +kernel) ?_
              refine lv_goto (tgt := 194) hx hb d_Mo_comes_190 (by decide) ?_
              refine g_iret C0 hlk hr d_Mo_comes_194 hL ?_
              exact ⟨rdI (by rw [cmR, hE, if_neg hne, if_pos (Or.inr (by omega))] <;> rfl), (by rw [hE]; exact ⟨hP.1, hP.2.1, hP.2.2.1, hP.2.2.2.1, hP.2.2.2.2.1, hP.2.2.2.2.2.1, hP.2.2.2.2.2.2.1, hP.2.2.2.2.2.2.2⟩), hF⟩
        · skip
          refine lv_bipush (v := -5) hx hb d_Mo_comes_160 (by decide +kernel) ?_
          refine lv_goto (tgt := 194) hx hb d_Mo_comes_162 (by decide) ?_
          refine g_iret C0 hlk hr d_Mo_comes_194 hL ?_
          exact ⟨rdI (by rw [cmR, hE, if_pos (by rw [← hee]; exact zEr_t.mp c_157)] <;> rfl), (by rw [hE]; exact ⟨hP.1, hP.2.1, hP.2.2.1, hP.2.2.2.1, hP.2.2.2.2.1, hP.2.2.2.2.2.1, hP.2.2.2.2.2.2.1, hP.2.2.2.2.2.2.2⟩), hF⟩
      · skip
        refine lv_iload hx hb d_Mo_comes_24 (lv_at hl 2 rfl) ?_
        refine lv_bipush (v := -5) hx hb d_Mo_comes_26 (by decide +kernel) ?_
        refine lv_icmp_eq (tgt := 153) hx hb d_Mo_comes_28 (by decide) (fun c_28 => ?_) (fun c_28 => ?_)
        · skip
          have he : eb = true := zEr_t.mp c_28
          have hE : cmA S rr pd td ct k td = cmA S rr pd td ct k i := cmA_end (by rw [← hee]; exact he) hi
          refine lv_iload hx hb d_Mo_comes_153 (lv_at hl 2 rfl) ?_
          refine lv_bipush (v := -5) hx hb d_Mo_comes_155 (by decide +kernel) ?_
          refine lv_icmp_ne (tgt := 165) hx hb d_Mo_comes_157 (by decide) (fun c_157 => ?_) (fun c_157 => ?_)
          · exact absurd c_28 c_157
          · skip
            refine lv_bipush (v := -5) hx hb d_Mo_comes_160 (by decide +kernel) ?_
            refine lv_goto (tgt := 194) hx hb d_Mo_comes_162 (by decide) ?_
            refine g_iret C0 hlk hr d_Mo_comes_194 hL ?_
            exact ⟨rdI (by rw [cmR, hE, if_pos (by rw [← hee]; exact zEr_t.mp c_157)] <;> rfl), (by rw [hE]; exact ⟨hP.1, hP.2.1, hP.2.2.1, hP.2.2.2.1, hP.2.2.2.2.1, hP.2.2.2.2.2.1, hP.2.2.2.2.2.2.1, hP.2.2.2.2.2.2.2⟩), hF⟩
        · skip
          have he : eb = false := by
            cases eb with
            | false => rfl
            | true => exact absurd (zEr_t.mpr rfl) c_28
          have he2 : (cmA S rr pd td ct k i).2.1 = false := by rw [← hee]; exact he
          refine lv_aload_n hx hb d_Mo_comes_31 rfl (lv_at hl 4 rfl) ?_
          refine lv_iload hx hb d_Mo_comes_32 (lv_at hl 0 rfl) ?_
          refine g_V C0 (k_Mo_known l G o ((cmA S rr pd td ct k i).1) sp bf sv iz rr pd ln sts td ac i (by omega) hMi.1 hR) co_Mo_known im_Mo_known se_Mo_known in_Mo gc_Mo_known ml_Mo_61 ⟨Nat.le_of_ble_eq_true rfl, Nat.le_of_ble_eq_true rfl⟩ hK hP.1 rfl ⟨hP.1, hP.2.1, hP.2.2.1, hP.2.2.2.1, hP.2.2.2.2.1, hP.2.2.2.2.2.1, hP.2.2.2.2.2.2.1, hP.2.2.2.2.2.2.2⟩ rfl hl.1 rfl (Nat.le_of_ble_eq_true rfl) d_Mo_comes_34 ⟨Nat.le_of_ble_eq_true rfl, Nat.le_of_ble_eq_true rfl⟩ (g_r rfl ?_)
          refine lv_bipush (v := -6) hx hb d_Mo_comes_37 (by decide +kernel) ?_
          refine lv_icmp_ne (tgt := 80) hx hb d_Mo_comes_39 (by decide) (fun c_39 => ?_) (fun c_39 => ?_)
          · skip
            have c_39 : mKn (cmA S rr pd td ct k i).1 rr pd i ≠ none := fun q => c_39 ((oI6_n (fun j h => Nat.lt_of_lt_of_le (mKn_lt h) (by have := hMi.1.n; omega))).mpr q)
            have h40 : mKn (cmA S rr pd td ct k i).1 rr pd i = none → (cmA S rr pd td ct k i).1 4 < 40 := fun q => absurd q c_39
            have hcl := cmA_l he2 (fun q => c_39 q.1)
            refine lv_aload_n hx hb d_Mo_comes_80 rfl (lv_at hl 4 rfl) ?_
            refine lv_iload hx hb d_Mo_comes_81 (lv_at hl 0 rfl) ?_
            refine g_V C0 (k_Mo_learnsN l G o ((cmA S rr pd td ct k i).1) sp bf sv iz rr pd ln sts td ac i (by omega) h40 hMi.1 hR) co_Mo_learns im_Mo_learns se_Mo_learns in_Mo gc_Mo_learns ml_Mo_94 ⟨Nat.le_of_ble_eq_true rfl, Nat.le_of_ble_eq_true rfl⟩ hK hP.1 rfl ⟨hP.1, hP.2.1, hP.2.2.1, hP.2.2.2.1, hP.2.2.2.2.1, hP.2.2.2.2.2.1, hP.2.2.2.2.2.2.1, hP.2.2.2.2.2.2.2⟩ rfl hl.1 rfl (Nat.le_of_ble_eq_true rfl) d_Mo_comes_83 ⟨Nat.le_of_ble_eq_true rfl, Nat.le_of_ble_eq_true rfl⟩ (g_wi (free := gRg o (o + 8)) hL (fun _ h => h) (fun H_1 locs hL ⟨hR_2, hf_3⟩ => ?_))
            have hML := mOk_mLS hMi.1 hR (by omega) h40
            have hzl : zLn (cmA S rr pd td ct k i).1 rr pd i < mLS (cmA S rr pd td ct k i).1 rr pd i 4 := zLn_lt
            have hzn := hML.n
            refine lv_istore (lv' := [(7, .int (nI (zLn ((cmA S rr pd td ct k i).1) rr pd i))), (6, .int (nI i)), (5, .int (zRo ro)), (4, .int (zEr eb)), (3, .int (nI (409 + 27 * ct + 9 * k))), (0, .ref o), (1, .int (nI ct)), (2, .int (nI k))]) hx hb d_Mo_comes_86 hl (by decide) rfl (fun ls hl => ?_)
            refine lv_aload_n hx hb d_Mo_comes_88 rfl (lv_at hl 5 rfl) ?_
            refine g_get C0 hK il_Mo hR_2.1 rfl 0 (by decide) fl_Mo_7 rfl d_Mo_comes_89 ?_
            refine lv_iload hx hb d_Mo_comes_92 (lv_at hl 0 rfl) ?_
            refine g_S C0 (k_Mo_n l G (zLn ((cmA S rr pd td ct k i).1) rr pd i)) co_Mo_n sm_Mo_n in_Mo gc_Mo_n ml_Mo_57 ⟨Nat.le_of_ble_eq_true rfl, Nat.le_of_ble_eq_true rfl⟩ hK trivial rfl hl.1 rfl (Nat.le_of_ble_eq_true rfl) d_Mo_comes_94 ⟨Nat.le_of_ble_eq_true rfl, Nat.le_of_ble_eq_true rfl⟩ (g_r rfl ?_)
            refine lv_bipush (v := nI 7) hx hb d_Mo_comes_97 (by decide +kernel) ?_
            refine g_iadd C0 (z := 9 + 10 * (zLn ((cmA S rr pd td ct k i).1) rr pd i) + 7) d_Mo_comes_99 rfl ?_
            refine g_iald C0 hK hR_2.2.1 (by omega) (by omega) d_Mo_comes_100 ?_
            refine lv_iconst (v := nI 1) hx hb d_Mo_comes_101 (by decide +kernel) ?_
            refine g_ceq (tgt := 126) C0 d_Mo_comes_102 (by decide) (hML.b (by omega)) (by first | omega | exact hM.b (by omega) | exact hR.p (by omega)) (fun c_102 => ?_) (fun c_102 => ?_)
            · skip
              refine lv_iconst (v := nI 1) hx hb d_Mo_comes_126 (by decide +kernel) ?_
              refine lv_goto (tgt := 131) hx hb d_Mo_comes_127 (by decide) ?_
              refine lv_istore (lv' := [(8, .int (nI 1)), (7, .int (nI (zLn ((cmA S rr pd td ct k i).1) rr pd i))), (6, .int (nI i)), (5, .int (zRo ro)), (4, .int (zEr eb)), (3, .int (nI (409 + 27 * ct + 9 * k))), (0, .ref o), (1, .int (nI ct)), (2, .int (nI k))]) hx hb d_Mo_comes_131 hl (by decide) rfl (fun ls hl => ?_)
              refine lv_iload hx hb d_Mo_comes_133 (lv_at hl 0 rfl) ?_
              refine lv_if_eq (tgt := 143) hx hb d_Mo_comes_135 (by decide) (fun c_135 => ?_) (fun c_135 => ?_)
              · first | exact absurd c_135 (by decide) | exact absurd rfl c_135
              · skip
                refine lv_bipush (v := -5) hx hb d_Mo_comes_138 (by decide +kernel) ?_
                refine lv_goto (tgt := 145) hx hb d_Mo_comes_140 (by decide) ?_
                refine lv_istore (lv' := [(4, .int (-5)), (8, .int (nI 1)), (7, .int (nI (zLn ((cmA S rr pd td ct k i).1) rr pd i))), (6, .int (nI i)), (5, .int (zRo ro)), (3, .int (nI (409 + 27 * ct + 9 * k))), (0, .ref o), (1, .int (nI ct)), (2, .int (nI k))]) hx hb d_Mo_comes_145 hl (by decide) rfl (fun ls hl => ?_)
                refine lv_iinc (v := (nI (i + 1))) (lv' := [(6, .int (nI (i + 1))), (4, .int (-5)), (8, .int (nI 1)), (7, .int (nI (zLn ((cmA S rr pd td ct k i).1) rr pd i))), (5, .int (zRo ro)), (3, .int (nI (409 + 27 * ct + 9 * k))), (0, .ref o), (1, .int (nI ct)), (2, .int (nI k))]) hx hb d_Mo_comes_147 hl (k := 3) rfl (gI_inc _) (by decide) rfl (fun ls hl => ?_)
                refine lv_goto (tgt := 15) hx hb d_Mo_comes_150 (by decide) ?_
                exact ih15 (i + 1) true ro H_1 locs (by omega) (by omega) (by rw [hcl]; simp [c_102]) (by rw [hcl]; exact hro) hL (by rw [hcl]; exact ⟨hR_2.1, hR_2.2.1, hR_2.2.2.1, hR_2.2.2.2.1, hR_2.2.2.2.2.1, hR_2.2.2.2.2.2.1, hR_2.2.2.2.2.2.2.1, hR_2.2.2.2.2.2.2.2⟩) (hF.tr hf_3) ls (lv_sub hl [0, 4, 1, 5, 6, 7, 8] rfl)
            · skip
              refine lv_aload_n hx hb d_Mo_comes_105 rfl (lv_at hl 5 rfl) ?_
              refine lv_iload hx hb d_Mo_comes_106 (lv_at hl 0 rfl) ?_
              refine lv_iload_n hx hb d_Mo_comes_108 rfl (lv_at hl 6 rfl) ?_
              refine g_V C0 (k_Mo_isOn l G o (mLS ((cmA S rr pd td ct k i).1) rr pd i) sp bf sv iz rr pd ln sts td ac (zLn ((cmA S rr pd td ct k i).1) rr pd i) ct (by omega) (by omega) hML) co_Mo_isOn im_Mo_isOn se_Mo_isOn in_Mo gc_Mo_isOn ml_Mo_97 ⟨Nat.le_of_ble_eq_true rfl, Nat.le_of_ble_eq_true rfl⟩ hK hR_2.1 rfl ⟨hR_2.1, hR_2.2.1, hR_2.2.2.1, hR_2.2.2.2.1, hR_2.2.2.2.2.1, hR_2.2.2.2.2.2.1, hR_2.2.2.2.2.2.2.1, hR_2.2.2.2.2.2.2.2⟩ rfl hl.1 rfl (Nat.le_of_ble_eq_true rfl) d_Mo_comes_109 ⟨Nat.le_of_ble_eq_true rfl, Nat.le_of_ble_eq_true rfl⟩ (g_r rfl ?_)
              refine g_zne (tgt := 126) C0 d_Mo_comes_112 (by decide) (fun c_112 => ?_) (fun c_112 => ?_)
              · skip
                refine lv_iconst (v := nI 1) hx hb d_Mo_comes_126 (by decide +kernel) ?_
                refine lv_goto (tgt := 131) hx hb d_Mo_comes_127 (by decide) ?_
                refine lv_istore (lv' := [(8, .int (nI 1)), (7, .int (nI (zLn ((cmA S rr pd td ct k i).1) rr pd i))), (6, .int (nI i)), (5, .int (zRo ro)), (4, .int (zEr eb)), (3, .int (nI (409 + 27 * ct + 9 * k))), (0, .ref o), (1, .int (nI ct)), (2, .int (nI k))]) hx hb d_Mo_comes_131 hl (by decide) rfl (fun ls hl => ?_)
                refine lv_iload hx hb d_Mo_comes_133 (lv_at hl 0 rfl) ?_
                refine lv_if_eq (tgt := 143) hx hb d_Mo_comes_135 (by decide) (fun c_135 => ?_) (fun c_135 => ?_)
                · first | exact absurd c_135 (by decide) | exact absurd rfl c_135
                · skip
                  refine lv_bipush (v := -5) hx hb d_Mo_comes_138 (by decide +kernel) ?_
                  refine lv_goto (tgt := 145) hx hb d_Mo_comes_140 (by decide) ?_
                  refine lv_istore (lv' := [(4, .int (-5)), (8, .int (nI 1)), (7, .int (nI (zLn ((cmA S rr pd td ct k i).1) rr pd i))), (6, .int (nI i)), (5, .int (zRo ro)), (3, .int (nI (409 + 27 * ct + 9 * k))), (0, .ref o), (1, .int (nI ct)), (2, .int (nI k))]) hx hb d_Mo_comes_145 hl (by decide) rfl (fun ls hl => ?_)
                  refine lv_iinc (v := (nI (i + 1))) (lv' := [(6, .int (nI (i + 1))), (4, .int (-5)), (8, .int (nI 1)), (7, .int (nI (zLn ((cmA S rr pd td ct k i).1) rr pd i))), (5, .int (zRo ro)), (3, .int (nI (409 + 27 * ct + 9 * k))), (0, .ref o), (1, .int (nI ct)), (2, .int (nI k))]) hx hb d_Mo_comes_147 hl (k := 3) rfl (gI_inc _) (by decide) rfl (fun ls hl => ?_)
                  refine lv_goto (tgt := 15) hx hb d_Mo_comes_150 (by decide) ?_
                  exact ih15 (i + 1) true ro H_1 locs (by omega) (by omega) (by rw [hcl]; simp [c_102, c_112]) (by rw [hcl]; exact hro) hL (by rw [hcl]; exact ⟨hR_2.1, hR_2.2.1, hR_2.2.2.1, hR_2.2.2.2.1, hR_2.2.2.2.2.1, hR_2.2.2.2.2.2.1, hR_2.2.2.2.2.2.2.1, hR_2.2.2.2.2.2.2.2⟩) (hF.tr hf_3) ls (lv_sub hl [0, 4, 1, 5, 6, 7, 8] rfl)
              · skip
                refine lv_aload_n hx hb d_Mo_comes_115 rfl (lv_at hl 5 rfl) ?_
                refine lv_iload hx hb d_Mo_comes_116 (lv_at hl 1 rfl) ?_
                refine lv_iload_n hx hb d_Mo_comes_118 rfl (lv_at hl 6 rfl) ?_
                refine lv_iload_n hx hb d_Mo_comes_119 rfl (lv_at hl 7 rfl) ?_
                refine g_V C0 (k_Mo_isBad l G o (mLS ((cmA S rr pd td ct k i).1) rr pd i) sp bf sv iz rr pd ln sts td ac i ct k (by omega) (by omega) (by omega) hML hR) co_Mo_isBad im_Mo_isBad se_Mo_isBad in_Mo gc_Mo_isBad ml_Mo_91 ⟨Nat.le_of_ble_eq_true rfl, Nat.le_of_ble_eq_true rfl⟩ hK hR_2.1 rfl ⟨hR_2.1, hR_2.2.1, hR_2.2.2.1, hR_2.2.2.2.1, hR_2.2.2.2.2.1, hR_2.2.2.2.2.2.1, hR_2.2.2.2.2.2.2.1, hR_2.2.2.2.2.2.2.2⟩ rfl hl.1 rfl (Nat.le_of_ble_eq_true rfl) d_Mo_comes_120 ⟨Nat.le_of_ble_eq_true rfl, Nat.le_of_ble_eq_true rfl⟩ (g_r rfl ?_)
                refine g_zeq (tgt := 130) C0 d_Mo_comes_123 (by decide) (fun c_123 => ?_) (fun c_123 => ?_)
                · skip
                  refine lv_iconst (v := nI 0) hx hb d_Mo_comes_130 (by decide +kernel) ?_
                  refine lv_istore (lv' := [(8, .int (nI 0)), (7, .int (nI (zLn ((cmA S rr pd td ct k i).1) rr pd i))), (6, .int (nI i)), (5, .int (zRo ro)), (4, .int (zEr eb)), (3, .int (nI (409 + 27 * ct + 9 * k))), (0, .ref o), (1, .int (nI ct)), (2, .int (nI k))]) hx hb d_Mo_comes_131 hl (by decide) rfl (fun ls hl => ?_)
                  refine lv_iload hx hb d_Mo_comes_133 (lv_at hl 0 rfl) ?_
                  refine lv_if_eq (tgt := 143) hx hb d_Mo_comes_135 (by decide) (fun c_135 => ?_) (fun c_135 => ?_)
                  · skip
                    refine lv_iload hx hb d_Mo_comes_143 (lv_at hl 4 rfl) ?_
                    refine lv_istore (lv' := [(4, .int (zEr eb)), (8, .int (nI 0)), (7, .int (nI (zLn ((cmA S rr pd td ct k i).1) rr pd i))), (6, .int (nI i)), (5, .int (zRo ro)), (3, .int (nI (409 + 27 * ct + 9 * k))), (0, .ref o), (1, .int (nI ct)), (2, .int (nI k))]) hx hb d_Mo_comes_145 hl (by decide) rfl (fun ls hl => ?_)
                    refine lv_iinc (v := (nI (i + 1))) (lv' := [(6, .int (nI (i + 1))), (4, .int (zEr eb)), (8, .int (nI 0)), (7, .int (nI (zLn ((cmA S rr pd td ct k i).1) rr pd i))), (5, .int (zRo ro)), (3, .int (nI (409 + 27 * ct + 9 * k))), (0, .ref o), (1, .int (nI ct)), (2, .int (nI k))]) hx hb d_Mo_comes_147 hl (k := 3) rfl (gI_inc _) (by decide) rfl (fun ls hl => ?_)
                    refine lv_goto (tgt := 15) hx hb d_Mo_comes_150 (by decide) ?_
                    exact ih15 (i + 1) eb ro H_1 locs (by omega) (by omega) (by rw [hcl]; simp only [he, Bool.or_assoc] ; simp [c_102, c_112, c_123]) (by rw [hcl]; exact hro) hL (by rw [hcl]; exact ⟨hR_2.1, hR_2.2.1, hR_2.2.2.1, hR_2.2.2.2.1, hR_2.2.2.2.2.1, hR_2.2.2.2.2.2.1, hR_2.2.2.2.2.2.2.1, hR_2.2.2.2.2.2.2.2⟩) (hF.tr hf_3) ls (lv_sub hl [0, 4, 1, 5, 6, 7, 8] rfl)
                  · first | exact absurd c_135 (by decide) | exact absurd rfl c_135
                · skip
                  refine lv_iconst (v := nI 1) hx hb d_Mo_comes_126 (by decide +kernel) ?_
                  refine lv_goto (tgt := 131) hx hb d_Mo_comes_127 (by decide) ?_
                  refine lv_istore (lv' := [(8, .int (nI 1)), (7, .int (nI (zLn ((cmA S rr pd td ct k i).1) rr pd i))), (6, .int (nI i)), (5, .int (zRo ro)), (4, .int (zEr eb)), (3, .int (nI (409 + 27 * ct + 9 * k))), (0, .ref o), (1, .int (nI ct)), (2, .int (nI k))]) hx hb d_Mo_comes_131 hl (by decide) rfl (fun ls hl => ?_)
                  refine lv_iload hx hb d_Mo_comes_133 (lv_at hl 0 rfl) ?_
                  refine lv_if_eq (tgt := 143) hx hb d_Mo_comes_135 (by decide) (fun c_135 => ?_) (fun c_135 => ?_)
                  · first | exact absurd c_135 (by decide) | exact absurd rfl c_135
                  · skip
                    refine lv_bipush (v := -5) hx hb d_Mo_comes_138 (by decide +kernel) ?_
                    refine lv_goto (tgt := 145) hx hb d_Mo_comes_140 (by decide) ?_
                    refine lv_istore (lv' := [(4, .int (-5)), (8, .int (nI 1)), (7, .int (nI (zLn ((cmA S rr pd td ct k i).1) rr pd i))), (6, .int (nI i)), (5, .int (zRo ro)), (3, .int (nI (409 + 27 * ct + 9 * k))), (0, .ref o), (1, .int (nI ct)), (2, .int (nI k))]) hx hb d_Mo_comes_145 hl (by decide) rfl (fun ls hl => ?_)
                    refine lv_iinc (v := (nI (i + 1))) (lv' := [(6, .int (nI (i + 1))), (4, .int (-5)), (8, .int (nI 1)), (7, .int (nI (zLn ((cmA S rr pd td ct k i).1) rr pd i))), (5, .int (zRo ro)), (3, .int (nI (409 + 27 * ct + 9 * k))), (0, .ref o), (1, .int (nI ct)), (2, .int (nI k))]) hx hb d_Mo_comes_147 hl (k := 3) rfl (gI_inc _) (by decide) rfl (fun ls hl => ?_)
                    refine lv_goto (tgt := 15) hx hb d_Mo_comes_150 (by decide) ?_
                    exact ih15 (i + 1) true ro H_1 locs (by omega) (by omega) (by rw [hcl]; simp [c_102, c_112, c_123]) (by rw [hcl]; exact hro) hL (by rw [hcl]; exact ⟨hR_2.1, hR_2.2.1, hR_2.2.2.1, hR_2.2.2.2.1, hR_2.2.2.2.2.1, hR_2.2.2.2.2.2.1, hR_2.2.2.2.2.2.2.1, hR_2.2.2.2.2.2.2.2⟩) (hF.tr hf_3) ls (lv_sub hl [0, 4, 1, 5, 6, 7, 8] rfl)
          · skip
            have c_39 : mKn (cmA S rr pd td ct k i).1 rr pd i = none := (oI6_n (fun j h => Nat.lt_of_lt_of_le (mKn_lt h) (by have := hMi.1.n; omega))).mp c_39
            refine lv_aload_n hx hb d_Mo_comes_42 rfl (lv_at hl 4 rfl) ?_
            refine g_get C0 hK il_Mo hP.1 rfl 0 (by decide) fl_Mo_7 rfl d_Mo_comes_43 ?_
            refine lv_iconst (v := nI 4) hx hb d_Mo_comes_46 (by decide +kernel) ?_
            refine g_iald C0 hK hP.2.1 (by omega) (by omega) d_Mo_comes_47 ?_
            refine lv_bipush (v := nI 40) hx hb d_Mo_comes_48 (by decide +kernel) ?_
            refine g_cne (tgt := 80) C0 d_Mo_comes_50 (by decide) (hMi.1.b (by omega)) (by first | omega | exact hM.b (by omega) | exact hR.p (by omega)) (fun c_50 => ?_) (fun c_50 => ?_)
            · skip
              have h40 : mKn (cmA S rr pd td ct k i).1 rr pd i = none → (cmA S rr pd td ct k i).1 4 < 40 := fun _ => by have := hMi.1.n; omega
              have hcl := cmA_l he2 (fun q => c_50 q.2)
              refine lv_aload_n hx hb d_Mo_comes_80 rfl (lv_at hl 4 rfl) ?_
              refine lv_iload hx hb d_Mo_comes_81 (lv_at hl 0 rfl) ?_
              refine g_V C0 (k_Mo_learnsN l G o ((cmA S rr pd td ct k i).1) sp bf sv iz rr pd ln sts td ac i (by omega) h40 hMi.1 hR) co_Mo_learns im_Mo_learns se_Mo_learns in_Mo gc_Mo_learns ml_Mo_94 ⟨Nat.le_of_ble_eq_true rfl, Nat.le_of_ble_eq_true rfl⟩ hK hP.1 rfl ⟨hP.1, hP.2.1, hP.2.2.1, hP.2.2.2.1, hP.2.2.2.2.1, hP.2.2.2.2.2.1, hP.2.2.2.2.2.2.1, hP.2.2.2.2.2.2.2⟩ rfl hl.1 rfl (Nat.le_of_ble_eq_true rfl) d_Mo_comes_83 ⟨Nat.le_of_ble_eq_true rfl, Nat.le_of_ble_eq_true rfl⟩ (g_wi (free := gRg o (o + 8)) hL (fun _ h => h) (fun H_4 locs hL ⟨hR_5, hf_6⟩ => ?_))
              have hML := mOk_mLS hMi.1 hR (by omega) h40
              have hzl : zLn (cmA S rr pd td ct k i).1 rr pd i < mLS (cmA S rr pd td ct k i).1 rr pd i 4 := zLn_lt
              have hzn := hML.n
              refine lv_istore (lv' := [(7, .int (nI (zLn ((cmA S rr pd td ct k i).1) rr pd i))), (6, .int (nI i)), (5, .int (zRo ro)), (4, .int (zEr eb)), (3, .int (nI (409 + 27 * ct + 9 * k))), (0, .ref o), (1, .int (nI ct)), (2, .int (nI k))]) hx hb d_Mo_comes_86 hl (by decide) rfl (fun ls hl => ?_)
              refine lv_aload_n hx hb d_Mo_comes_88 rfl (lv_at hl 5 rfl) ?_
              refine g_get C0 hK il_Mo hR_5.1 rfl 0 (by decide) fl_Mo_7 rfl d_Mo_comes_89 ?_
              refine lv_iload hx hb d_Mo_comes_92 (lv_at hl 0 rfl) ?_
              refine g_S C0 (k_Mo_n l G (zLn ((cmA S rr pd td ct k i).1) rr pd i)) co_Mo_n sm_Mo_n in_Mo gc_Mo_n ml_Mo_57 ⟨Nat.le_of_ble_eq_true rfl, Nat.le_of_ble_eq_true rfl⟩ hK trivial rfl hl.1 rfl (Nat.le_of_ble_eq_true rfl) d_Mo_comes_94 ⟨Nat.le_of_ble_eq_true rfl, Nat.le_of_ble_eq_true rfl⟩ (g_r rfl ?_)
              refine lv_bipush (v := nI 7) hx hb d_Mo_comes_97 (by decide +kernel) ?_
              refine g_iadd C0 (z := 9 + 10 * (zLn ((cmA S rr pd td ct k i).1) rr pd i) + 7) d_Mo_comes_99 rfl ?_
              refine g_iald C0 hK hR_5.2.1 (by omega) (by omega) d_Mo_comes_100 ?_
              refine lv_iconst (v := nI 1) hx hb d_Mo_comes_101 (by decide +kernel) ?_
              refine g_ceq (tgt := 126) C0 d_Mo_comes_102 (by decide) (hML.b (by omega)) (by first | omega | exact hM.b (by omega) | exact hR.p (by omega)) (fun c_102 => ?_) (fun c_102 => ?_)
              · skip
                refine lv_iconst (v := nI 1) hx hb d_Mo_comes_126 (by decide +kernel) ?_
                refine lv_goto (tgt := 131) hx hb d_Mo_comes_127 (by decide) ?_
                refine lv_istore (lv' := [(8, .int (nI 1)), (7, .int (nI (zLn ((cmA S rr pd td ct k i).1) rr pd i))), (6, .int (nI i)), (5, .int (zRo ro)), (4, .int (zEr eb)), (3, .int (nI (409 + 27 * ct + 9 * k))), (0, .ref o), (1, .int (nI ct)), (2, .int (nI k))]) hx hb d_Mo_comes_131 hl (by decide) rfl (fun ls hl => ?_)
                refine lv_iload hx hb d_Mo_comes_133 (lv_at hl 0 rfl) ?_
                refine lv_if_eq (tgt := 143) hx hb d_Mo_comes_135 (by decide) (fun c_135 => ?_) (fun c_135 => ?_)
                · first | exact absurd c_135 (by decide) | exact absurd rfl c_135
                · skip
                  refine lv_bipush (v := -5) hx hb d_Mo_comes_138 (by decide +kernel) ?_
                  refine lv_goto (tgt := 145) hx hb d_Mo_comes_140 (by decide) ?_
                  refine lv_istore (lv' := [(4, .int (-5)), (8, .int (nI 1)), (7, .int (nI (zLn ((cmA S rr pd td ct k i).1) rr pd i))), (6, .int (nI i)), (5, .int (zRo ro)), (3, .int (nI (409 + 27 * ct + 9 * k))), (0, .ref o), (1, .int (nI ct)), (2, .int (nI k))]) hx hb d_Mo_comes_145 hl (by decide) rfl (fun ls hl => ?_)
                  refine lv_iinc (v := (nI (i + 1))) (lv' := [(6, .int (nI (i + 1))), (4, .int (-5)), (8, .int (nI 1)), (7, .int (nI (zLn ((cmA S rr pd td ct k i).1) rr pd i))), (5, .int (zRo ro)), (3, .int (nI (409 + 27 * ct + 9 * k))), (0, .ref o), (1, .int (nI ct)), (2, .int (nI k))]) hx hb d_Mo_comes_147 hl (k := 3) rfl (gI_inc _) (by decide) rfl (fun ls hl => ?_)
                  refine lv_goto (tgt := 15) hx hb d_Mo_comes_150 (by decide) ?_
                  exact ih15 (i + 1) true ro H_4 locs (by omega) (by omega) (by rw [hcl]; simp [c_102]) (by rw [hcl]; exact hro) hL (by rw [hcl]; exact ⟨hR_5.1, hR_5.2.1, hR_5.2.2.1, hR_5.2.2.2.1, hR_5.2.2.2.2.1, hR_5.2.2.2.2.2.1, hR_5.2.2.2.2.2.2.1, hR_5.2.2.2.2.2.2.2⟩) (hF.tr hf_6) ls (lv_sub hl [0, 4, 1, 5, 6, 7, 8] rfl)
              · skip
                refine lv_aload_n hx hb d_Mo_comes_105 rfl (lv_at hl 5 rfl) ?_
                refine lv_iload hx hb d_Mo_comes_106 (lv_at hl 0 rfl) ?_
                refine lv_iload_n hx hb d_Mo_comes_108 rfl (lv_at hl 6 rfl) ?_
                refine g_V C0 (k_Mo_isOn l G o (mLS ((cmA S rr pd td ct k i).1) rr pd i) sp bf sv iz rr pd ln sts td ac (zLn ((cmA S rr pd td ct k i).1) rr pd i) ct (by omega) (by omega) hML) co_Mo_isOn im_Mo_isOn se_Mo_isOn in_Mo gc_Mo_isOn ml_Mo_97 ⟨Nat.le_of_ble_eq_true rfl, Nat.le_of_ble_eq_true rfl⟩ hK hR_5.1 rfl ⟨hR_5.1, hR_5.2.1, hR_5.2.2.1, hR_5.2.2.2.1, hR_5.2.2.2.2.1, hR_5.2.2.2.2.2.1, hR_5.2.2.2.2.2.2.1, hR_5.2.2.2.2.2.2.2⟩ rfl hl.1 rfl (Nat.le_of_ble_eq_true rfl) d_Mo_comes_109 ⟨Nat.le_of_ble_eq_true rfl, Nat.le_of_ble_eq_true rfl⟩ (g_r rfl ?_)
                refine g_zne (tgt := 126) C0 d_Mo_comes_112 (by decide) (fun c_112 => ?_) (fun c_112 => ?_)
                · skip
                  refine lv_iconst (v := nI 1) hx hb d_Mo_comes_126 (by decide +kernel) ?_
                  refine lv_goto (tgt := 131) hx hb d_Mo_comes_127 (by decide) ?_
                  refine lv_istore (lv' := [(8, .int (nI 1)), (7, .int (nI (zLn ((cmA S rr pd td ct k i).1) rr pd i))), (6, .int (nI i)), (5, .int (zRo ro)), (4, .int (zEr eb)), (3, .int (nI (409 + 27 * ct + 9 * k))), (0, .ref o), (1, .int (nI ct)), (2, .int (nI k))]) hx hb d_Mo_comes_131 hl (by decide) rfl (fun ls hl => ?_)
                  refine lv_iload hx hb d_Mo_comes_133 (lv_at hl 0 rfl) ?_
                  refine lv_if_eq (tgt := 143) hx hb d_Mo_comes_135 (by decide) (fun c_135 => ?_) (fun c_135 => ?_)
                  · first | exact absurd c_135 (by decide) | exact absurd rfl c_135
                  · skip
                    refine lv_bipush (v := -5) hx hb d_Mo_comes_138 (by decide +kernel) ?_
                    refine lv_goto (tgt := 145) hx hb d_Mo_comes_140 (by decide) ?_
                    refine lv_istore (lv' := [(4, .int (-5)), (8, .int (nI 1)), (7, .int (nI (zLn ((cmA S rr pd td ct k i).1) rr pd i))), (6, .int (nI i)), (5, .int (zRo ro)), (3, .int (nI (409 + 27 * ct + 9 * k))), (0, .ref o), (1, .int (nI ct)), (2, .int (nI k))]) hx hb d_Mo_comes_145 hl (by decide) rfl (fun ls hl => ?_)
                    refine lv_iinc (v := (nI (i + 1))) (lv' := [(6, .int (nI (i + 1))), (4, .int (-5)), (8, .int (nI 1)), (7, .int (nI (zLn ((cmA S rr pd td ct k i).1) rr pd i))), (5, .int (zRo ro)), (3, .int (nI (409 + 27 * ct + 9 * k))), (0, .ref o), (1, .int (nI ct)), (2, .int (nI k))]) hx hb d_Mo_comes_147 hl (k := 3) rfl (gI_inc _) (by decide) rfl (fun ls hl => ?_)
                    refine lv_goto (tgt := 15) hx hb d_Mo_comes_150 (by decide) ?_
                    exact ih15 (i + 1) true ro H_4 locs (by omega) (by omega) (by rw [hcl]; simp [c_102, c_112]) (by rw [hcl]; exact hro) hL (by rw [hcl]; exact ⟨hR_5.1, hR_5.2.1, hR_5.2.2.1, hR_5.2.2.2.1, hR_5.2.2.2.2.1, hR_5.2.2.2.2.2.1, hR_5.2.2.2.2.2.2.1, hR_5.2.2.2.2.2.2.2⟩) (hF.tr hf_6) ls (lv_sub hl [0, 4, 1, 5, 6, 7, 8] rfl)
                · skip
                  refine lv_aload_n hx hb d_Mo_comes_115 rfl (lv_at hl 5 rfl) ?_
                  refine lv_iload hx hb d_Mo_comes_116 (lv_at hl 1 rfl) ?_
                  refine lv_iload_n hx hb d_Mo_comes_118 rfl (lv_at hl 6 rfl) ?_
                  refine lv_iload_n hx hb d_Mo_comes_119 rfl (lv_at hl 7 rfl) ?_
                  refine g_V C0 (k_Mo_isBad l G o (mLS ((cmA S rr pd td ct k i).1) rr pd i) sp bf sv iz rr pd ln sts td ac i ct k (by omega) (by omega) (by omega) hML hR) co_Mo_isBad im_Mo_isBad se_Mo_isBad in_Mo gc_Mo_isBad ml_Mo_91 ⟨Nat.le_of_ble_eq_true rfl, Nat.le_of_ble_eq_true rfl⟩ hK hR_5.1 rfl ⟨hR_5.1, hR_5.2.1, hR_5.2.2.1, hR_5.2.2.2.1, hR_5.2.2.2.2.1, hR_5.2.2.2.2.2.1, hR_5.2.2.2.2.2.2.1, hR_5.2.2.2.2.2.2.2⟩ rfl hl.1 rfl (Nat.le_of_ble_eq_true rfl) d_Mo_comes_120 ⟨Nat.le_of_ble_eq_true rfl, Nat.le_of_ble_eq_true rfl⟩ (g_r rfl ?_)
                  refine g_zeq (tgt := 130) C0 d_Mo_comes_123 (by decide) (fun c_123 => ?_) (fun c_123 => ?_)
                  · skip
                    refine lv_iconst (v := nI 0) hx hb d_Mo_comes_130 (by decide +kernel) ?_
                    refine lv_istore (lv' := [(8, .int (nI 0)), (7, .int (nI (zLn ((cmA S rr pd td ct k i).1) rr pd i))), (6, .int (nI i)), (5, .int (zRo ro)), (4, .int (zEr eb)), (3, .int (nI (409 + 27 * ct + 9 * k))), (0, .ref o), (1, .int (nI ct)), (2, .int (nI k))]) hx hb d_Mo_comes_131 hl (by decide) rfl (fun ls hl => ?_)
                    refine lv_iload hx hb d_Mo_comes_133 (lv_at hl 0 rfl) ?_
                    refine lv_if_eq (tgt := 143) hx hb d_Mo_comes_135 (by decide) (fun c_135 => ?_) (fun c_135 => ?_)
                    · skip
                      refine lv_iload hx hb d_Mo_comes_143 (lv_at hl 4 rfl) ?_
                      refine lv_istore (lv' := [(4, .int (zEr eb)), (8, .int (nI 0)), (7, .int (nI (zLn ((cmA S rr pd td ct k i).1) rr pd i))), (6, .int (nI i)), (5, .int (zRo ro)), (3, .int (nI (409 + 27 * ct + 9 * k))), (0, .ref o), (1, .int (nI ct)), (2, .int (nI k))]) hx hb d_Mo_comes_145 hl (by decide) rfl (fun ls hl => ?_)
                      refine lv_iinc (v := (nI (i + 1))) (lv' := [(6, .int (nI (i + 1))), (4, .int (zEr eb)), (8, .int (nI 0)), (7, .int (nI (zLn ((cmA S rr pd td ct k i).1) rr pd i))), (5, .int (zRo ro)), (3, .int (nI (409 + 27 * ct + 9 * k))), (0, .ref o), (1, .int (nI ct)), (2, .int (nI k))]) hx hb d_Mo_comes_147 hl (k := 3) rfl (gI_inc _) (by decide) rfl (fun ls hl => ?_)
                      refine lv_goto (tgt := 15) hx hb d_Mo_comes_150 (by decide) ?_
                      exact ih15 (i + 1) eb ro H_4 locs (by omega) (by omega) (by rw [hcl]; simp only [he, Bool.or_assoc] ; simp [c_102, c_112, c_123]) (by rw [hcl]; exact hro) hL (by rw [hcl]; exact ⟨hR_5.1, hR_5.2.1, hR_5.2.2.1, hR_5.2.2.2.1, hR_5.2.2.2.2.1, hR_5.2.2.2.2.2.1, hR_5.2.2.2.2.2.2.1, hR_5.2.2.2.2.2.2.2⟩) (hF.tr hf_6) ls (lv_sub hl [0, 4, 1, 5, 6, 7, 8] rfl)
                    · first | exact absurd c_135 (by decide) | exact absurd rfl c_135
                  · skip
                    refine lv_iconst (v := nI 1) hx hb d_Mo_comes_126 (by decide +kernel) ?_
                    refine lv_goto (tgt := 131) hx hb d_Mo_comes_127 (by decide) ?_
                    refine lv_istore (lv' := [(8, .int (nI 1)), (7, .int (nI (zLn ((cmA S rr pd td ct k i).1) rr pd i))), (6, .int (nI i)), (5, .int (zRo ro)), (4, .int (zEr eb)), (3, .int (nI (409 + 27 * ct + 9 * k))), (0, .ref o), (1, .int (nI ct)), (2, .int (nI k))]) hx hb d_Mo_comes_131 hl (by decide) rfl (fun ls hl => ?_)
                    refine lv_iload hx hb d_Mo_comes_133 (lv_at hl 0 rfl) ?_
                    refine lv_if_eq (tgt := 143) hx hb d_Mo_comes_135 (by decide) (fun c_135 => ?_) (fun c_135 => ?_)
                    · first | exact absurd c_135 (by decide) | exact absurd rfl c_135
                    · skip
                      refine lv_bipush (v := -5) hx hb d_Mo_comes_138 (by decide +kernel) ?_
                      refine lv_goto (tgt := 145) hx hb d_Mo_comes_140 (by decide) ?_
                      refine lv_istore (lv' := [(4, .int (-5)), (8, .int (nI 1)), (7, .int (nI (zLn ((cmA S rr pd td ct k i).1) rr pd i))), (6, .int (nI i)), (5, .int (zRo ro)), (3, .int (nI (409 + 27 * ct + 9 * k))), (0, .ref o), (1, .int (nI ct)), (2, .int (nI k))]) hx hb d_Mo_comes_145 hl (by decide) rfl (fun ls hl => ?_)
                      refine lv_iinc (v := (nI (i + 1))) (lv' := [(6, .int (nI (i + 1))), (4, .int (-5)), (8, .int (nI 1)), (7, .int (nI (zLn ((cmA S rr pd td ct k i).1) rr pd i))), (5, .int (zRo ro)), (3, .int (nI (409 + 27 * ct + 9 * k))), (0, .ref o), (1, .int (nI ct)), (2, .int (nI k))]) hx hb d_Mo_comes_147 hl (k := 3) rfl (gI_inc _) (by decide) rfl (fun ls hl => ?_)
                      refine lv_goto (tgt := 15) hx hb d_Mo_comes_150 (by decide) ?_
                      exact ih15 (i + 1) true ro H_4 locs (by omega) (by omega) (by rw [hcl]; simp [c_102, c_112, c_123]) (by rw [hcl]; exact hro) hL (by rw [hcl]; exact ⟨hR_5.1, hR_5.2.1, hR_5.2.2.1, hR_5.2.2.2.1, hR_5.2.2.2.2.1, hR_5.2.2.2.2.2.1, hR_5.2.2.2.2.2.2.1, hR_5.2.2.2.2.2.2.2⟩) (hF.tr hf_6) ls (lv_sub hl [0, 4, 1, 5, 6, 7, 8] rfl)
            · skip
              have hck := cmA_k he2 c_39 c_50
              refine lv_bipush (v := -4) hx hb d_Mo_comes_53 (by decide +kernel) ?_
              refine lv_istore (lv' := [(5, .int (-4)), (6, .int (nI i)), (4, .int (zEr eb)), (3, .int (nI (409 + 27 * ct + 9 * k))), (0, .ref o), (1, .int (nI ct)), (2, .int (nI k))]) hx hb d_Mo_comes_55 hl (by decide) rfl (fun ls hl => ?_)
              refine lv_aload_n hx hb d_Mo_comes_57 rfl (lv_at hl 4 rfl) ?_
              refine lv_iload hx hb d_Mo_comes_58 (lv_at hl 1 rfl) ?_
              refine lv_iload_n hx hb d_Mo_comes_60 rfl (lv_at hl 5 rfl) ?_
              refine lv_iload_n hx hb d_Mo_comes_61 rfl (lv_at hl 6 rfl) ?_
              refine g_V C0 (k_Mo_isBad l G o ((cmA S rr pd td ct k i).1) sp bf sv iz rr pd ln sts td ac i ct k (by omega) (by omega) (by omega) hMi.1 hR) co_Mo_isBad im_Mo_isBad se_Mo_isBad in_Mo gc_Mo_isBad ml_Mo_91 ⟨Nat.le_of_ble_eq_true rfl, Nat.le_of_ble_eq_true rfl⟩ hK hP.1 rfl ⟨hP.1, hP.2.1, hP.2.2.1, hP.2.2.2.1, hP.2.2.2.2.1, hP.2.2.2.2.2.1, hP.2.2.2.2.2.2.1, hP.2.2.2.2.2.2.2⟩ rfl hl.1 rfl (Nat.le_of_ble_eq_true rfl) d_Mo_comes_62 ⟨Nat.le_of_ble_eq_true rfl, Nat.le_of_ble_eq_true rfl⟩ (g_r rfl ?_)
              refine g_zeq (tgt := 73) C0 d_Mo_comes_65 (by decide) (fun c_65 => ?_) (fun c_65 => ?_)
              · skip
                refine lv_iload hx hb d_Mo_comes_73 (lv_at hl 2 rfl) ?_
                refine lv_istore (lv' := [(4, .int (zEr eb)), (5, .int (-4)), (6, .int (nI i)), (3, .int (nI (409 + 27 * ct + 9 * k))), (0, .ref o), (1, .int (nI ct)), (2, .int (nI k))]) hx hb d_Mo_comes_75 hl (by decide) rfl (fun ls hl => ?_)
                refine lv_goto (tgt := 147) hx hb d_Mo_comes_77 (by decide) ?_
                refine lv_iinc (v := (nI (i + 1))) (lv' := [(6, .int (nI (i + 1))), (4, .int (zEr eb)), (5, .int (-4)), (3, .int (nI (409 + 27 * ct + 9 * k))), (0, .ref o), (1, .int (nI ct)), (2, .int (nI k))]) hx hb d_Mo_comes_147 hl (k := 2) rfl (gI_inc _) (by decide) rfl (fun ls hl => ?_)
                refine lv_goto (tgt := 15) hx hb d_Mo_comes_150 (by decide) ?_
                exact ih15 (i + 1) eb true H locs (by omega) (by omega) (by rw [hck]; exact he.trans c_65.symm) (by rw [hck]) hL (by rw [hck]; exact ⟨hP.1, hP.2.1, hP.2.2.1, hP.2.2.2.1, hP.2.2.2.2.1, hP.2.2.2.2.2.1, hP.2.2.2.2.2.2.1, hP.2.2.2.2.2.2.2⟩) hF ls (lv_sub hl [0, 2, 1, 3, 4, 5, 6] rfl)
              · skip
                refine lv_bipush (v := -5) hx hb d_Mo_comes_68 (by decide +kernel) ?_
                refine lv_goto (tgt := 75) hx hb d_Mo_comes_70 (by decide) ?_
                refine lv_istore (lv' := [(4, .int (-5)), (5, .int (-4)), (6, .int (nI i)), (3, .int (nI (409 + 27 * ct + 9 * k))), (0, .ref o), (1, .int (nI ct)), (2, .int (nI k))]) hx hb d_Mo_comes_75 hl (by decide) rfl (fun ls hl => ?_)
                refine lv_goto (tgt := 147) hx hb d_Mo_comes_77 (by decide) ?_
                refine lv_iinc (v := (nI (i + 1))) (lv' := [(6, .int (nI (i + 1))), (4, .int (-5)), (5, .int (-4)), (3, .int (nI (409 + 27 * ct + 9 * k))), (0, .ref o), (1, .int (nI ct)), (2, .int (nI k))]) hx hb d_Mo_comes_147 hl (k := 2) rfl (gI_inc _) (by decide) rfl (fun ls hl => ?_)
                refine lv_goto (tgt := 15) hx hb d_Mo_comes_150 (by decide) ?_
                exact ih15 (i + 1) true true H locs (by omega) (by omega) (by rw [hck]; exact c_65.symm) (by rw [hck]) hL (by rw [hck]; exact ⟨hP.1, hP.2.1, hP.2.2.1, hP.2.2.2.1, hP.2.2.2.2.1, hP.2.2.2.2.2.1, hP.2.2.2.2.2.2.1, hP.2.2.2.2.2.2.2⟩) hF ls (lv_sub hl [0, 2, 1, 3, 4, 5, 6] rfl)
  exact lp15 ((td - 0) + 1) 0 false false s.heap [] (by omega) (by omega) rfl rfl (t_nil (free := gRg o (o + 8))) (⟨hP.1, hP.2.1, hP.2.2.1, hP.2.2.2.1, hP.2.2.2.2.1, hP.2.2.2.2.2.1, hP.2.2.2.2.2.2.1, hP.2.2.2.2.2.2.2⟩) gFr.rf ls (lv_sub hl [0, 1, 2, 3, 4, 5, 6] rfl)
