set_option maxHeartbeats 4000000 in
set_option maxRecDepth 100000 in
theorem k_Ke_letterAt (l : Launch) (G : gT) (κ : Nat) (x : Int32) (hκ : κ < 2 ^ 31) : gM l y_Ke_letterAt c_Ke_letterAt 2 (some .int) 0 0 0 0 G [.int (nI κ), .int x] (fun _ => True) (rd (.int (nI (kA κ x)))) noF := by
  refine g_enter "GaleNames$Key" (by decide +kernel) rfl (Nat.le_of_ble_eq_true rfl) ?_
  intro p e s m args below meth c C0 hlk hr hnm hP hK ls hl
  have hx := C0.1
  have hb := C0.2.1
  have hl : lv_has ls 2 [(0, .int (nI κ)), (1, .int x)] := hl
  refine lv_iload_n hx hb d_Ke_letterAt_0 rfl (lv_at hl 1 rfl) ?_
  refine lv_if_lt (tgt := 10) hx hb d_Ke_letterAt_1 (by decide) (fun c_1 => ?_) (fun c_1 => ?_)
  · skip
    refine lv_iconst (v := nI 0) hx hb d_Ke_letterAt_10 (by decide +kernel) ?_
    refine g_iret C0 hlk hr d_Ke_letterAt_11 (t_nil (free := noF)) ?_
    exact ⟨rdI (by rw [kA, inR_neg c_1]; rfl), rfl⟩
  · skip
    obtain ⟨i, hi, rfl⟩ := gI_ex c_1
    refine lv_iload_n hx hb d_Ke_letterAt_4 rfl (lv_at hl 1 rfl) ?_
    refine lv_bipush (v := nI 6) hx hb d_Ke_letterAt_5 (by decide +kernel) ?_
    refine g_clt (tgt := 12) C0 d_Ke_letterAt_7 (by decide) (by omega) (by omega) (fun c_7 => ?_) (fun c_7 => ?_)
    · skip
      refine lv_iload_n hx hb d_Ke_letterAt_12 rfl (lv_at hl 0 rfl) ?_
      refine lv_iconst (v := nI 5) hx hb d_Ke_letterAt_13 (by decide +kernel) ?_
      refine lv_iconst (v := nI 5) hx hb d_Ke_letterAt_14 (by decide +kernel) ?_
      refine lv_iload_n hx hb d_Ke_letterAt_15 rfl (lv_at hl 1 rfl) ?_
      refine g_isub C0 (z := 5 - i) d_Ke_letterAt_16 (by omega) ?_
      refine g_imul C0 (z := 5 * (5 - i)) d_Ke_letterAt_17 rfl ?_
      refine g_ishr C0 (z := κ / 2 ^ (5 * (5 - i))) d_Ke_letterAt_18 (by omega) (by omega) rfl ?_
      refine lv_bipush (v := nI 31) hx hb d_Ke_letterAt_19 (by decide +kernel) ?_
      refine g_iand C0 (z := kL κ i) d_Ke_letterAt_21 (Nat.and_two_pow_sub_one_eq_mod _ 5) ?_
      refine g_iret C0 hlk hr d_Ke_letterAt_22 (t_nil (free := noF)) ?_
      exact ⟨rdI (by rw [kA_nI (by omega)]), rfl⟩
    · skip
      refine lv_iconst (v := nI 0) hx hb d_Ke_letterAt_10 (by decide +kernel) ?_
      refine g_iret C0 hlk hr d_Ke_letterAt_11 (t_nil (free := noF)) ?_
      exact ⟨rdI (by rw [kA, inR_nI hi, if_neg (by simp; omega)]), rfl⟩

theorem k_Ke_letterAtN (l : Launch) (G : gT) (κ i : Nat) (hκ : κ < 2 ^ 31) (hi : i < 6) : gM l y_Ke_letterAt c_Ke_letterAt 2 (some .int) 0 0 0 0 G [.int (nI κ), .int (nI i)] (fun _ => True) (rd (.int (nI (kL κ i)))) noF := by
  have h := k_Ke_letterAt l G κ (nI i) hκ
  rw [kA_nI hi] at h
  exact h

set_option maxHeartbeats 4000000 in
set_option maxRecDepth 100000 in
theorem k_Ke_withLetter (l : Launch) (G : gT) (κ i v : Nat) (hi : i < 6) : gM l y_Ke_withLetter c_Ke_withLetter 3 (some .int) 0 0 0 0 G [.int (nI κ), .int (nI i), .int (nI v)] (fun _ => True) (rd (.int (nI (kW κ i v)))) noF := by
  refine g_enter "GaleNames$Key" (by decide +kernel) rfl (Nat.le_of_ble_eq_true rfl) ?_
  intro p e s m args below meth c C0 hlk hr hnm hP hK ls hl
  have hx := C0.1
  have hb := C0.2.1
  have hl : lv_has ls 3 [(0, .int (nI κ)), (1, .int (nI i)), (2, .int (nI v))] := hl
  refine lv_iload_n hx hb d_Ke_withLetter_0 rfl (lv_at hl 1 rfl) ?_
  refine lv_if_lt (tgt := 10) hx hb d_Ke_withLetter_1 (by decide) (fun c_1 => ?_) (fun c_1 => ?_)
  · exact absurd c_1 (nI_pos (by omega))
  · skip
    refine lv_iload_n hx hb d_Ke_withLetter_4 rfl (lv_at hl 1 rfl) ?_
    refine lv_bipush (v := nI 6) hx hb d_Ke_withLetter_5 (by decide +kernel) ?_
    refine g_clt (tgt := 12) C0 d_Ke_withLetter_7 (by decide) (by omega) (by omega) (fun c_7 => ?_) (fun c_7 => ?_)
    · skip
      refine lv_iload_n hx hb d_Ke_withLetter_12 rfl (lv_at hl 0 rfl) ?_
      refine lv_iload_n hx hb d_Ke_withLetter_13 rfl (lv_at hl 2 rfl) ?_
      refine lv_iconst (v := nI 5) hx hb d_Ke_withLetter_14 (by decide +kernel) ?_
      refine lv_iconst (v := nI 5) hx hb d_Ke_withLetter_15 (by decide +kernel) ?_
      refine lv_iload_n hx hb d_Ke_withLetter_16 rfl (lv_at hl 1 rfl) ?_
      refine g_isub C0 (z := 5 - i) d_Ke_withLetter_17 (by omega) ?_
      refine g_imul C0 (z := 5 * (5 - i)) d_Ke_withLetter_18 rfl ?_
      refine g_ishl C0 (z := v * 2 ^ (5 * (5 - i))) d_Ke_withLetter_19 (by omega) rfl ?_
      refine g_ior C0 (z := kW κ i v) d_Ke_withLetter_20 rfl ?_
      refine g_iret C0 hlk hr d_Ke_withLetter_21 (t_nil (free := noF)) ?_
      exact ⟨rfl, rfl⟩
    · omega

set_option maxHeartbeats 4000000 in
set_option maxRecDepth 100000 in
theorem k_Ke_signOf (l : Launch) (G : gT) (v : Nat) : gM l y_Ke_signOf c_Ke_signOf 1 (some .int) 0 0 0 0 G [.int (nI v)] (fun _ => True) (rd (.int (nI (96 + v)))) noF := by
  refine g_enter "GaleNames$Key" (by decide +kernel) rfl (Nat.le_of_ble_eq_true rfl) ?_
  intro p e s m args below meth c C0 hlk hr hnm hP hK ls hl
  have hx := C0.1
  have hb := C0.2.1
  have hl : lv_has ls 1 [(0, .int (nI v))] := hl
  refine lv_bipush (v := nI 96) hx hb d_Ke_signOf_0 (by decide +kernel) ?_
  refine lv_iload_n hx hb d_Ke_signOf_2 rfl (lv_at hl 0 rfl) ?_
  refine g_iadd C0 (z := 96 + v) d_Ke_signOf_3 rfl ?_
  refine g_iret C0 hlk hr d_Ke_signOf_4 (t_nil (free := noF)) ?_
  exact ⟨rfl, rfl⟩

set_option maxHeartbeats 4000000 in
set_option maxRecDepth 100000 in
theorem k_Ke_letterOf (l : Launch) (G : gT) (g : Nat) (hg : g < 2 ^ 31) : gM l y_Ke_letterOf c_Ke_letterOf 2 (some .int) 0 0 0 0 G [.int (nI g)] (fun _ => True) (rd (.int (nI (kO g)))) noF := by
  refine g_enter "GaleNames$Key" (by decide +kernel) rfl (Nat.le_of_ble_eq_true rfl) ?_
  intro p e s m args below meth c C0 hlk hr hnm hP hK ls hl
  have hx := C0.1
  have hb := C0.2.1
  have hl : lv_has ls 2 [(0, .int (nI g))] := hl
  rcases Nat.lt_or_ge g 97 with h97 | h97
  · skip
    refine lv_iload_n hx hb d_Ke_letterOf_0 rfl (lv_at hl 0 rfl) ?_
    refine lv_bipush (v := nI 97) hx hb d_Ke_letterOf_1 (by decide +kernel) ?_
    refine lv_isub hx hb d_Ke_letterOf_3 ?_
    refine lv_iconst (v := nI 1) hx hb d_Ke_letterOf_4 (by decide +kernel) ?_
    refine lv_iadd hx hb d_Ke_letterOf_5 ?_
    refine lv_istore_n (lv' := [(1, .int (((nI g) - (nI 97)) + (nI 1))), (0, .int (nI g))]) hx hb d_Ke_letterOf_6 rfl hl (by decide) rfl (fun ls hl => ?_)
    refine lv_iload_n hx hb d_Ke_letterOf_7 rfl (lv_at hl 0 rfl) ?_
    refine lv_iconst (v := nI 1) hx hb d_Ke_letterOf_8 (by decide +kernel) ?_
    refine lv_icmp_lt (tgt := 22) hx hb d_Ke_letterOf_9 (by decide) (fun c_9 => ?_) (fun c_9 => ?_)
    · skip
      refine lv_iconst (v := nI 0) hx hb d_Ke_letterOf_22 (by decide +kernel) ?_
      refine g_iret C0 hlk hr d_Ke_letterOf_23 (t_nil (free := noF)) ?_
      exact ⟨rdI (by rw [kO]; first | rw [if_pos (by omega)] | rw [if_neg (by omega)]), rfl⟩
    · skip
      have c_9b := gI_off h97 c_9
      exact c_9b.elim
  · skip
    refine lv_iload_n hx hb d_Ke_letterOf_0 rfl (lv_at hl 0 rfl) ?_
    refine lv_bipush (v := nI 97) hx hb d_Ke_letterOf_1 (by decide +kernel) ?_
    refine g_isub C0 (z := g - 97) d_Ke_letterOf_3 (by omega) ?_
    refine lv_iconst (v := nI 1) hx hb d_Ke_letterOf_4 (by decide +kernel) ?_
    refine g_iadd C0 (z := g - 96) d_Ke_letterOf_5 (by omega) ?_
    refine lv_istore_n (lv' := [(1, .int (nI (g - 96))), (0, .int (nI g))]) hx hb d_Ke_letterOf_6 rfl hl (by decide) rfl (fun ls hl => ?_)
    refine lv_iload_n hx hb d_Ke_letterOf_7 rfl (lv_at hl 0 rfl) ?_
    refine lv_iconst (v := nI 1) hx hb d_Ke_letterOf_8 (by decide +kernel) ?_
    refine g_clt (tgt := 22) C0 d_Ke_letterOf_9 (by decide) (by omega) (by omega) (fun c_9 => ?_) (fun c_9 => ?_)
    · omega
    · skip
      refine lv_iload_n hx hb d_Ke_letterOf_12 rfl (lv_at hl 0 rfl) ?_
      refine lv_bipush (v := nI 26) hx hb d_Ke_letterOf_13 (by decide +kernel) ?_
      refine g_cgt (tgt := 22) C0 d_Ke_letterOf_15 (by decide) (by omega) (by omega) (fun c_15 => ?_) (fun c_15 => ?_)
      · skip
        refine lv_iconst (v := nI 0) hx hb d_Ke_letterOf_22 (by decide +kernel) ?_
        refine g_iret C0 hlk hr d_Ke_letterOf_23 (t_nil (free := noF)) ?_
        exact ⟨rdI (by rw [kO]; first | rw [if_pos (by omega)] | rw [if_neg (by omega)]), rfl⟩
      · skip
        refine lv_iload_n hx hb d_Ke_letterOf_18 rfl (lv_at hl 0 rfl) ?_
        refine lv_goto (tgt := 23) hx hb d_Ke_letterOf_19 (by decide) ?_
        refine g_iret C0 hlk hr d_Ke_letterOf_23 (t_nil (free := noF)) ?_
        exact ⟨rdI (by rw [kO]; first | rw [if_pos (by omega)] | rw [if_neg (by omega)]), rfl⟩

set_option maxHeartbeats 4000000 in
set_option maxRecDepth 100000 in
theorem k_Ke_shared (l : Launch) (G : gT) (κ o : Nat) (hκ : κ < 2 ^ 31) (ho : o < 2 ^ 31) : gM l y_Ke_shared c_Ke_shared 3 (some .int) 1 21 0 0 G [.int (nI κ), .int (nI o)] (fun _ => True) (rd (.int (nI (kS κ o)))) noF := by
  refine g_enter "GaleNames$Key" (by decide +kernel) rfl (Nat.le_of_ble_eq_true rfl) ?_
  intro p e s m args below meth c C0 hlk hr hnm hP hK ls hl
  have hx := C0.1
  have hb := C0.2.1
  have hl : lv_has ls 3 [(0, .int (nI κ)), (1, .int (nI o))] := hl
  refine lv_iconst (v := nI 0) hx hb d_Ke_shared_0 (by decide +kernel) ?_
  refine lv_istore_n (lv' := [(2, .int (nI 0)), (0, .int (nI κ)), (1, .int (nI o))]) hx hb d_Ke_shared_1 rfl hl (by decide) rfl (fun ls hl => ?_)
  have lp2 : ∀ (fu : Nat) (i : Nat), (6 - i) < fu → i ≤ 6 → (∀ j, j < i → kL κ j ≠ 0 ∧ kL κ j = kL o j) → ∀ ls : Array Slot, lv_has ls 3 [(2, .int (nI i)), (0, .int (nI κ)), (1, .int (nI o))] → W p l e ({ frames := 1, cells := 0, slots := 0, locals := 21 } : Room) s m args below meth c s.heap [] 0 0 (MQ below (gQ (rd (.int (nI (kS κ o))))) args s 0 0 noF) (F0 m 2 ls []) := by
    intro fu
    induction fu with
    | zero => intro i  hfu; exact absurd hfu (Nat.not_lt_zero _)
    | succ fu ih2 =>
      intro i hfu hi hj ls hl
      refine lv_iload_n hx hb d_Ke_shared_2 rfl (lv_at hl 0 rfl) ?_
      refine lv_bipush (v := nI 6) hx hb d_Ke_shared_3 (by decide +kernel) ?_
      refine g_cge (tgt := 35) C0 d_Ke_shared_5 (by decide) (by omega) (by omega) (fun c_5 => ?_) (fun c_5 => ?_)
      · skip
        refine lv_iload_n hx hb d_Ke_shared_35 rfl (lv_at hl 0 rfl) ?_
        refine g_iret C0 hlk hr d_Ke_shared_36 (t_nil (free := noF)) ?_
        exact ⟨rdI (by rw [kS_at hi hj (by omega)]), rfl⟩
      · skip
        refine lv_iload_n hx hb d_Ke_shared_8 rfl (lv_at hl 1 rfl) ?_
        refine lv_iload_n hx hb d_Ke_shared_9 rfl (lv_at hl 0 rfl) ?_
        refine g_S C0 (k_Ke_letterAtN l G κ i (by omega) (by omega)) co_Ke_letterAt sm_Ke_letterAt in_Ke gc_Ke_letterAt ml_Ke_15 ⟨Nat.le_of_ble_eq_true rfl, Nat.le_of_ble_eq_true rfl⟩ hK trivial rfl hl.1 rfl (Nat.le_of_ble_eq_true rfl) d_Ke_shared_10 ⟨Nat.le_of_ble_eq_true rfl, Nat.le_of_ble_eq_true rfl⟩ (g_r rfl ?_)
        refine lv_if_eq (tgt := 35) hx hb d_Ke_shared_13 (by decide) (fun c_13 => ?_) (fun c_13 => ?_)
        · skip
          have c_13 := (nI_eqi (a := kL κ i) (b := 0) (by have := kL_lt κ i; omega) (by omega)).mp c_13
          refine lv_iload_n hx hb d_Ke_shared_35 rfl (lv_at hl 0 rfl) ?_
          refine g_iret C0 hlk hr d_Ke_shared_36 (t_nil (free := noF)) ?_
          exact ⟨rdI (by rw [kS_at hi hj (by omega)]), rfl⟩
        · skip
          have c_13 : kL κ i ≠ 0 := fun q => c_13 (by rw [q]; rfl)
          refine lv_iload_n hx hb d_Ke_shared_16 rfl (lv_at hl 1 rfl) ?_
          refine lv_iload_n hx hb d_Ke_shared_17 rfl (lv_at hl 0 rfl) ?_
          refine g_S C0 (k_Ke_letterAtN l G κ i (by omega) (by omega)) co_Ke_letterAt sm_Ke_letterAt in_Ke gc_Ke_letterAt ml_Ke_15 ⟨Nat.le_of_ble_eq_true rfl, Nat.le_of_ble_eq_true rfl⟩ hK trivial rfl hl.1 rfl (Nat.le_of_ble_eq_true rfl) d_Ke_shared_18 ⟨Nat.le_of_ble_eq_true rfl, Nat.le_of_ble_eq_true rfl⟩ (g_r rfl ?_)
          refine lv_iload_n hx hb d_Ke_shared_21 rfl (lv_at hl 2 rfl) ?_
          refine lv_iload_n hx hb d_Ke_shared_22 rfl (lv_at hl 0 rfl) ?_
          refine g_S C0 (k_Ke_letterAtN l G o i (by omega) (by omega)) co_Ke_letterAt sm_Ke_letterAt in_Ke gc_Ke_letterAt ml_Ke_15 ⟨Nat.le_of_ble_eq_true rfl, Nat.le_of_ble_eq_true rfl⟩ hK trivial rfl hl.1 rfl (Nat.le_of_ble_eq_true rfl) d_Ke_shared_23 ⟨Nat.le_of_ble_eq_true rfl, Nat.le_of_ble_eq_true rfl⟩ (g_r rfl ?_)
          refine g_cne (tgt := 35) C0 d_Ke_shared_26 (by decide) (Nat.lt_trans (kL_lt _ _) (by decide)) (Nat.lt_trans (kL_lt _ _) (by decide)) (fun c_26 => ?_) (fun c_26 => ?_)
          · skip
            refine lv_iload_n hx hb d_Ke_shared_35 rfl (lv_at hl 0 rfl) ?_
            refine g_iret C0 hlk hr d_Ke_shared_36 (t_nil (free := noF)) ?_
            exact ⟨rdI (by rw [kS_at hi hj (by omega)]), rfl⟩
          · skip
            refine lv_iinc (v := (nI (i + 1))) (lv' := [(2, .int (nI (i + 1))), (0, .int (nI κ)), (1, .int (nI o))]) hx hb d_Ke_shared_29 hl (k := 0) rfl (gI_inc _) (by decide) rfl (fun ls hl => ?_)
            refine lv_goto (tgt := 2) hx hb d_Ke_shared_32 (by decide) ?_
            exact ih2 (i + 1) (by omega) (by omega) (all_s hj ⟨c_13, c_26⟩) ls (lv_sub hl [0, 1, 2] rfl)
  exact lp2 ((6 - 0) + 1) 0 (by omega) (by omega) (fun j hj => absurd hj (Nat.not_lt_zero _)) ls (lv_sub hl [0, 1, 2] rfl)

set_option maxHeartbeats 4000000 in
set_option maxRecDepth 100000 in
theorem k_Ke_length (l : Launch) (G : gT) (κ : Nat) (hκ : κ < 2 ^ 31) : gM l y_Ke_length c_Ke_length 1 (some .int) 2 43 0 0 G [.int (nI κ)] (fun _ => True) (rd (.int (nI (kS κ κ)))) noF := by
  refine g_enter "GaleNames$Key" (by decide +kernel) rfl (Nat.le_of_ble_eq_true rfl) ?_
  intro p e s m args below meth c C0 hlk hr hnm hP hK ls hl
  have hx := C0.1
  have hb := C0.2.1
  have hl : lv_has ls 1 [(0, .int (nI κ))] := hl
  refine lv_iload_n hx hb d_Ke_length_0 rfl (lv_at hl 0 rfl) ?_
  refine lv_iload_n hx hb d_Ke_length_1 rfl (lv_at hl 0 rfl) ?_
  refine g_S C0 (k_Ke_shared l G κ κ (by omega) (by omega)) co_Ke_shared sm_Ke_shared in_Ke gc_Ke_shared ml_Ke_11 ⟨Nat.le_of_ble_eq_true rfl, Nat.le_of_ble_eq_true rfl⟩ hK trivial rfl hl.1 rfl (Nat.le_of_ble_eq_true rfl) d_Ke_length_2 ⟨Nat.le_of_ble_eq_true rfl, Nat.le_of_ble_eq_true rfl⟩ (g_r rfl ?_)
  refine g_iret C0 hlk hr d_Ke_length_5 (t_nil (free := noF)) ?_
  exact ⟨rfl, rfl⟩

set_option maxHeartbeats 4000000 in
set_option maxRecDepth 100000 in
theorem k_Ke_alike (l : Launch) (G : gT) (κ o v : Nat) (hκ : κ < 2 ^ 31) (ho : o < 2 ^ 31) (hv : v < 2 ^ 31) : gM l y_Ke_alike c_Ke_alike 3 (some .boolean) 2 43 0 0 G [.int (nI κ), .int (nI o), .int (nI v)] (fun _ => True) (rd (.int (bI (kAl κ o v)))) noF := by
  refine g_enter "GaleNames$Key" (by decide +kernel) rfl (Nat.le_of_ble_eq_true rfl) ?_
  intro p e s m args below meth c C0 hlk hr hnm hP hK ls hl
  have hx := C0.1
  have hb := C0.2.1
  have hl : lv_has ls 3 [(0, .int (nI κ)), (1, .int (nI o)), (2, .int (nI v))] := hl
  refine lv_iload_n hx hb d_Ke_alike_0 rfl (lv_at hl 0 rfl) ?_
  refine lv_iload_n hx hb d_Ke_alike_1 rfl (lv_at hl 1 rfl) ?_
  refine g_ceq (tgt := 18) C0 d_Ke_alike_2 (by decide) (by omega) (by omega) (fun c_2 => ?_) (fun c_2 => ?_)
  · skip
    refine lv_iconst (v := nI 0) hx hb d_Ke_alike_18 (by decide +kernel) ?_
    refine g_zret (b := false) C0 hlk hr d_Ke_alike_19 (t_nil (free := noF)) ?_
    exact ⟨rdB (by simp [kAl, c_2]), rfl⟩
  · skip
    refine lv_iload_n hx hb d_Ke_alike_5 rfl (lv_at hl 0 rfl) ?_
    refine lv_iload_n hx hb d_Ke_alike_6 rfl (lv_at hl 1 rfl) ?_
    refine g_S C0 (k_Ke_shared l G κ o (by omega) (by omega)) co_Ke_shared sm_Ke_shared in_Ke gc_Ke_shared ml_Ke_11 ⟨Nat.le_of_ble_eq_true rfl, Nat.le_of_ble_eq_true rfl⟩ hK trivial rfl hl.1 rfl (Nat.le_of_ble_eq_true rfl) d_Ke_alike_7 ⟨Nat.le_of_ble_eq_true rfl, Nat.le_of_ble_eq_true rfl⟩ (g_r rfl ?_)
    refine lv_iload_n hx hb d_Ke_alike_10 rfl (lv_at hl 2 rfl) ?_
    refine g_clt (tgt := 18) C0 d_Ke_alike_11 (by decide) (by have := kS_le κ o; omega) (by omega) (fun c_11 => ?_) (fun c_11 => ?_)
    · skip
      refine lv_iconst (v := nI 0) hx hb d_Ke_alike_18 (by decide +kernel) ?_
      refine g_zret (b := false) C0 hlk hr d_Ke_alike_19 (t_nil (free := noF)) ?_
      exact ⟨rdB (by simp [kAl, c_2, c_11]), rfl⟩
    · skip
      refine lv_iconst (v := nI 1) hx hb d_Ke_alike_14 (by decide +kernel) ?_
      refine lv_goto (tgt := 19) hx hb d_Ke_alike_15 (by decide) ?_
      refine g_zret (b := true) C0 hlk hr d_Ke_alike_19 (t_nil (free := noF)) ?_
      exact ⟨rdB (by simp [kAl, c_2, c_11]), rfl⟩
