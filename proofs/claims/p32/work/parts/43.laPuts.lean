set_option maxHeartbeats 4000000 in
set_option maxRecDepth 100000 in
theorem k_La_puts (l : Launch) (G : gT) (x : Nat) (X : XS) (t : Nat) (cz : Nat) (hcz : cz < 2 ^ 31) (h74 : X.2.1.1.1 + 6 ≤ 80) (hI : IY t X.1) (hX : XOk X) : gM l y_La_puts c_La_puts 4 (some .boolean) 2 50 0 0 G [.ref x, .int (nI cz)] (fun H => XAt G x X H) (wi (.int (bI true)) (fun H H1 => XAt G x (xPd X (chR X.2.1.1 cz (2 + cz % 5)) X.2.1.2) H1 ∧ gFr x (x + 262) H H1)) (gRg x (x + 262)) := by
  refine g_enter "GaleNamesLaw" (by decide +kernel) rfl (Nat.le_of_ble_eq_true rfl) ?_
  intro p e s m args below meth c C0 hlk hr hnm hP hK ls hl
  have hx := C0.1
  have hb := C0.2.1
  have hl : lv_has ls 4 [(0, .ref x), (1, .int (nI cz))] := hl
  refine lv_iconst (v := nI 1) hx hb d_La_puts_0 (by decide +kernel) ?_
  refine lv_istore_n (lv' := [(2, .int (nI 1)), (0, .ref x), (1, .int (nI cz))]) hx hb d_La_puts_1 rfl hl (by decide) rfl (fun ls hl => ?_)
  refine lv_iconst (v := nI 0) hx hb d_La_puts_2 (by decide +kernel) ?_
  refine lv_istore_n (lv' := [(3, .int (nI 0)), (2, .int (nI 1)), (0, .ref x), (1, .int (nI cz))]) hx hb d_La_puts_3 rfl hl (by decide) rfl (fun ls hl => ?_)
  have lp4 : ∀ (fu : Nat) (k : Nat) (H : Heap) (locs : List Loc), (6 - k) < fu → k ≤ 2 + cz % 5 → (∀ qq ∈ locs, (gRg x (x + 262)) qq.base) → XAt G x (xPd X (chR X.2.1.1 cz k) X.2.1.2) H → gFr x (x + 262) s.heap H → ∀ ls : Array Slot, lv_has ls 4 [(3, .int (nI k)), (2, .int (nI 1)), (0, .ref x), (1, .int (nI cz))] → W p l e ({ frames := 2, cells := 0, slots := 0, locals := 50 } : Room) s m args below meth c H locs 0 0 (MQ below (gQ (wi (.int (bI true)) (fun H H1 => XAt G x (xPd X (chR X.2.1.1 cz (2 + cz % 5)) X.2.1.2) H1 ∧ gFr x (x + 262) H H1))) args s 0 0 (gRg x (x + 262))) (F0 m 4 ls []) := by
    intro fu
    induction fu with
    | zero => intro k H locs hfu; exact absurd hfu (Nat.not_lt_zero _)
    | succ fu ih4 =>
      intro k H locs hfu hk hL hP hF ls hl
      have hck := chR_ok (P := X.2.1.1) (cz := cz) (k := k) (by omega)
      have hOk : XOk (xPd X (chR X.2.1.1 cz k) X.2.1.2) := ⟨hX.1, chR_B hX.2.1 k, hX.2.2⟩
      have hq7 : cz / 2 ^ (4 + 2 * k) < 2 ^ 31 := Nat.lt_of_le_of_lt (Nat.div_le_self _ _) hcz
      refine lv_iload_n hx hb d_La_puts_4 rfl (lv_at hl 0 rfl) ?_
      refine lv_iconst (v := nI 2) hx hb d_La_puts_5 (by decide +kernel) ?_
      refine lv_iload_n hx hb d_La_puts_6 rfl (lv_at hl 3 rfl) ?_
      refine lv_iconst (v := nI 5) hx hb d_La_puts_7 (by decide +kernel) ?_
      refine g_irem C0 (z := cz % 5) d_La_puts_8 (by omega) (by omega) (by omega) rfl ?_
      refine g_iadd C0 (z := 2 + (cz % 5)) d_La_puts_9 rfl ?_
      refine g_cge (tgt := 49) C0 d_La_puts_10 (by decide) (by omega) (by omega) (fun c_10 => ?_) (fun c_10 => ?_)
      · skip
        have ek : k = 2 + cz % 5 := by omega
        rw [ek] at hP
        refine lv_iload_n hx hb d_La_puts_49 rfl (lv_at hl 1 rfl) ?_
        refine g_zret (b := true) C0 hlk hr d_La_puts_50 hL ?_
        exact ⟨rfl, hP, hF⟩
      · skip
        refine lv_iload_n hx hb d_La_puts_13 rfl (lv_at hl 1 rfl) ?_
        refine lv_if_eq (tgt := 49) hx hb d_La_puts_14 (by decide) (fun c_14 => ?_) (fun c_14 => ?_)
        · first | exact absurd c_14 (by decide) | exact absurd rfl c_14
        · skip
          refine lv_aload_n hx hb d_La_puts_17 rfl (lv_at hl 2 rfl) ?_
          refine lv_bipush (v := nI 97) hx hb d_La_puts_18 (by decide +kernel) ?_
          refine lv_iload_n hx hb d_La_puts_20 rfl (lv_at hl 3 rfl) ?_
          refine lv_iconst (v := nI 4) hx hb d_La_puts_21 (by decide +kernel) ?_
          refine lv_iconst (v := nI 2) hx hb d_La_puts_22 (by decide +kernel) ?_
          refine lv_iload_n hx hb d_La_puts_23 rfl (lv_at hl 0 rfl) ?_
          refine g_imul C0 (z := 2 * k) d_La_puts_24 rfl ?_
          refine g_iadd C0 (z := 4 + (2 * k)) d_La_puts_25 rfl ?_
          refine g_ishr C0 (z := cz / 2 ^ (4 + 2 * k)) d_La_puts_26 (by omega) (by omega) rfl ?_
          refine lv_iconst (v := nI 4) hx hb d_La_puts_27 (by decide +kernel) ?_
          refine g_irem C0 (z := (cz / 2 ^ (4 + 2 * k)) % 4) d_La_puts_28 (by omega) (by omega) (by omega) rfl ?_
          refine g_iadd C0 (z := 97 + ((cz / 2 ^ (4 + 2 * k)) % 4)) d_La_puts_29 rfl ?_
          refine lv_i2l (v := lN (97 + ((cz / 2 ^ (4 + 2 * k)) % 4))) hx hb d_La_puts_30 (nI_i2l (by omega)) ?_
          refine g_V C0 (g_valw (v' := (nI (X.2.1.1.1 + k + 1))) (X' := xPd X (chR X.2.1.1 cz (k + 1)) X.2.1.2) (k_Ga_put l G x (xPd X (chR X.2.1.1 cz k) X.2.1.2) (97 + ((cz / 2 ^ (4 + 2 * k)) % 4)) (by omega) hOk) (by rw [put_1 (by omega) (by omega) (by show (chR X.2.1.1 cz k).1 < 80; omega)]; show (nI ((chR X.2.1.1 cz k).1 + 1), xPd X (chR X.2.1.1 cz (k + 1)) X.2.1.2) = _; rw [hck.1])) co_Ga_put im_Ga_put se_Ga_put in_Ga gc_Ga_put ml_La_9 ⟨Nat.le_of_ble_eq_true rfl, Nat.le_of_ble_eq_true rfl⟩ hK hP.1 rfl hP rfl hl.1 rfl (Nat.le_of_ble_eq_true rfl) d_La_puts_31 ⟨Nat.le_of_ble_eq_true rfl, Nat.le_of_ble_eq_true rfl⟩ (g_wi (free := gRg x (x + 262)) hL (fun _ h => h) (fun H_1 locs hL ⟨hR_2, hf_3⟩ => ?_))
          refine lv_if_le (tgt := 41) hx hb d_La_puts_34 (by decide) (fun c_34 => ?_) (fun c_34 => ?_)
          · exact absurd c_34 (nI_posn (by omega) (by omega))
          · skip
            refine lv_iconst (v := nI 1) hx hb d_La_puts_37 (by decide +kernel) ?_
            refine lv_goto (tgt := 42) hx hb d_La_puts_38 (by decide) ?_
            refine lv_istore_n (lv' := [(2, .int (nI 1)), (3, .int (nI k)), (0, .ref x), (1, .int (nI cz))]) hx hb d_La_puts_42 rfl hl (by decide) rfl (fun ls hl => ?_)
            refine lv_iinc (v := (nI (k + 1))) (lv' := [(3, .int (nI (k + 1))), (2, .int (nI 1)), (0, .ref x), (1, .int (nI cz))]) hx hb d_La_puts_43 hl (k := 1) rfl (gI_inc _) (by decide) rfl (fun ls hl => ?_)
            refine lv_goto (tgt := 4) hx hb d_La_puts_46 (by decide) ?_
            exact ih4 (k + 1) H_1 locs (by omega) (by omega) hL hR_2 (hF.tr hf_3) ls (lv_sub hl [0, 1, 2, 3] rfl)
  exact lp4 ((6 - 0) + 1) 0 s.heap [] (by omega) (by omega) (t_nil (free := gRg x (x + 262))) hP gFr.rf ls (lv_sub hl [0, 1, 2, 3] rfl)
