/-! write, put, a new one -/
theorem gI_i2c {v : Nat} (h : v < 65536) : ((nI v).toUInt32 % 65536).toInt32 = nI v := by
  have e2 : UInt32.ofNat v % 65536 = UInt32.ofNat v := by
    apply UInt32.toNat_inj.mp
    rw [UInt32.toNat_mod]
    simp
    omega
  rw [show (nI v).toUInt32 = UInt32.ofNat v from rfl, e2]; rfl
def wnM (S : Nat → Nat) (n : Nat) (z : (Nat → Nat) × Nat) : Nat → (Nat → Nat) × Nat
  | 0 => z
  | j + 1 => (va_up (wnM S n z j).1 (wnM S n z j).2 (S (9 + 10 * n + 1 + j)), (wnM S n z j).2 + 1)
def wcM (z : (Nat → Nat) × Nat) (i : Nat) : (Nat → Nat) × Nat := if 0 < i then (va_up z.1 z.2 44, z.2 + 1) else z
def wrM (S pd : Nat → Nat) (q : Nat) : Nat → (Nat → Nat) × Nat
  | 0 => (pd, 0)
  | i + 1 => wnM S (S (q + 1 + i)) (wcM (wrM S pd q i) i) (S (9 + 10 * S (q + 1 + i)))
theorem wnM_l {S : Nat → Nat} {n : Nat} {z : (Nat → Nat) × Nat} : ∀ j, (wnM S n z j).2 = z.2 + j
  | 0 => rfl
  | j + 1 => by show (wnM S n z j).2 + 1 = _; rw [wnM_l j]; rfl
theorem wcM_l {z : (Nat → Nat) × Nat} {i : Nat} : (wcM z i).2 ≤ z.2 + 1 := by
  unfold wcM; split
  · exact Nat.le_refl _
  · exact Nat.le_succ _
theorem wrM_l {S pd : Nat → Nat} {c k : Nat} (h : mOk S) (hc : c < 2) (hk : k < 3) : ∀ i, i ≤ S (409 + 27 * c + 9 * k) → (wrM S pd (409 + 27 * c + 9 * k) i).2 ≤ 7 * i
  | 0, _ => Nat.le_refl _
  | i + 1, hi => by
    have h1 := wrM_l (pd := pd) h hc hk i (by omega)
    have h2 := wcM_l (z := wrM S pd (409 + 27 * c + 9 * k) i) (i := i)
    have h3 := h.nl (h.le (j := i) hc hk (by omega))
    show (wnM S _ _ _).2 ≤ _
    rw [wnM_l]; omega
def mWri (S sp bf sv iz rr pd : Nat → Nat) (sts td ac c k : Nat) : Int32 × MS := (nI (wrM S pd (409 + 27 * c + 9 * k) (S (409 + 27 * c + 9 * k))).2, (S, sp, bf, sv, iz, rr, (wrM S pd (409 + 27 * c + 9 * k) (S (409 + 27 * c + 9 * k))).1, (wrM S pd (409 + 27 * c + 9 * k) (S (409 + 27 * c + 9 * k))).2, sts, td, ac))
def mxWri (S sp bf sv iz rr pd : Nat → Nat) (ln sts td ac : Nat) (a k : Int32) : Int32 × MS := if inL a k then mWri S sp bf sv iz rr pd sts td ac a.toNatClampNeg k.toNatClampNeg else (-1, mSt S sp bf sv iz rr pd ln sts td ac)
/-- how many characters a number gives; none: one of them cannot be -/
def pcM : Nat → Nat → Nat → Option Nat
  | 0, _, n => some n
  | f + 1, r, n => if r = 0 then some n else if r % 256 < 33 ∨ 126 < r % 256 then none else pcM f (r / 2 ^ 8) (n + 1)
theorem pcM_z {f n : Nat} : pcM f 0 n = some n := by cases f <;> rfl
theorem pcM_b {f r n : Nat} (h : ¬ r = 0) (h2 : r % 256 < 33 ∨ 126 < r % 256) : pcM (f + 1) r n = none := (if_neg h).trans (if_pos h2)
theorem pcM_s {f r n : Nat} (h : ¬ r = 0) (h2 : ¬ (r % 256 < 33 ∨ 126 < r % 256)) : pcM (f + 1) r n = pcM f (r / 2 ^ 8) (n + 1) := (if_neg h).trans (if_neg h2)
def ptM (pd : Nat → Nat) (ln w n : Nat) : Nat → (Nat → Nat)
  | 0 => pd
  | t + 1 => va_up (ptM pd ln w n t) (ln + t) (w / 2 ^ (8 * (n - 1 - t)) % 256)
theorem ptM_s {pd : Nat → Nat} {ln w n t v : Nat} (h : n - 1 - t = v) : ptM pd ln w n (t + 1) = va_up (ptM pd ln w n t) (ln + t) (w / 2 ^ (8 * v) % 256) := by subst h; rfl
def mPtn (S sp bf sv iz rr pd : Nat → Nat) (ln sts td ac w n : Nat) : Int32 × MS := if n = 0 then (-2, mSt S sp bf sv iz rr pd ln sts td ac) else if 80 < ln + n then (-4, mSt S sp bf sv iz rr pd ln sts td ac) else (nI (ln + n), (S, sp, bf, sv, iz, rr, ptM pd ln w n n, ln + n, sts, td, ac))
def mxPut (S sp bf sv iz rr pd : Nat → Nat) (ln sts td ac w : Nat) : Int32 × MS := match pcM 8 w 0 with
  | none => (-2, mSt S sp bf sv iz rr pd ln sts td ac)
  | some n => mPtn S sp bf sv iz rr pd ln sts td ac w n
theorem mxPut_n {S sp bf sv iz rr pd : Nat → Nat} {ln sts td ac w : Nat} (h : pcM 8 w 0 = none) : mxPut S sp bf sv iz rr pd ln sts td ac w = (-2, mSt S sp bf sv iz rr pd ln sts td ac) := by unfold mxPut; rw [h]
theorem mxPut_s {S sp bf sv iz rr pd : Nat → Nat} {ln sts td ac w n : Nat} (h : pcM 8 w 0 = some n) : mxPut S sp bf sv iz rr pd ln sts td ac w = mPtn S sp bf sv iz rr pd ln sts td ac w n := by unfold mxPut; rw [h]

set_option maxHeartbeats 4000000 in
set_option maxRecDepth 100000 in
theorem k_Mo_write (l : Launch) (G : gT) (o : Nat) (S sp bf sv iz rr pd : Nat → Nat) (ln sts td ac : Nat) (a k : Int32) (hln : ln ≤ 80) (hM : mOk S) (hch : ∀ n, n < S 4 → ∀ j, j < S (9 + 10 * n) → S (9 + 10 * n + 1 + j) < 2 ^ 16) : gM l y_Mo_write c_Mo_write 7 (some .int) 2 43 0 0 G [.ref o, .int a, .int k] (fun H => MAt G o S sp bf sv iz rr pd ln sts td ac H) (wi (.int (mxWri S sp bf sv iz rr pd ln sts td ac a k).1) (fun H H1 => MAtX G o (mxWri S sp bf sv iz rr pd ln sts td ac a k).2 H1 ∧ gFr o (o + 8) H H1)) (gRg o (o + 8)) := by
  refine g_enter "GaleNamesModel" (by decide +kernel) rfl (Nat.le_of_ble_eq_true rfl) ?_
  intro p e s m args below meth c C0 hlk hr hnm hP hK ls hl
  have hx := C0.1
  have hb := C0.2.1
  have hl : lv_has ls 7 [(0, .ref o), (1, .int a), (2, .int k)] := hl
  have hn40 := hM.n
  have hg16 := hM.g
  have hk10 := hM.k
  refine lv_iload_n hx hb d_Mo_write_0 rfl (lv_at hl 1 rfl) ?_
  refine lv_iload_n hx hb d_Mo_write_1 rfl (lv_at hl 2 rfl) ?_
  refine g_S C0 (k_Mo_isList l G a k) co_Mo_isList sm_Mo_isList in_Mo gc_Mo_isList ml_Mo_106 ⟨Nat.le_of_ble_eq_true rfl, Nat.le_of_ble_eq_true rfl⟩ hK trivial rfl hl.1 rfl (Nat.le_of_ble_eq_true rfl) d_Mo_write_2 ⟨Nat.le_of_ble_eq_true rfl, Nat.le_of_ble_eq_true rfl⟩ (g_r rfl ?_)
  refine g_zne (tgt := 10) C0 d_Mo_write_5 (by decide) (fun c_5 => ?_) (fun c_5 => ?_)
  · skip
    have h0 := c_5
    unfold inL at h0
    rw [Bool.and_eq_true] at h0
    obtain ⟨i, hi, hi31, rfl⟩ := inR_t h0.1
    obtain ⟨j, hj, hj31, rfl⟩ := inR_t h0.2
    have hl8 := hM.l hi hj
    refine lv_iload_n hx hb d_Mo_write_10 rfl (lv_at hl 1 rfl) ?_
    refine lv_iload_n hx hb d_Mo_write_11 rfl (lv_at hl 2 rfl) ?_
    refine g_S C0 (k_Mo_l l G i j) co_Mo_l sm_Mo_l in_Mo gc_Mo_l ml_Mo_68 ⟨Nat.le_of_ble_eq_true rfl, Nat.le_of_ble_eq_true rfl⟩ hK trivial rfl hl.1 rfl (Nat.le_of_ble_eq_true rfl) d_Mo_write_12 ⟨Nat.le_of_ble_eq_true rfl, Nat.le_of_ble_eq_true rfl⟩ (g_r rfl ?_)
    refine lv_istore_n (lv' := [(3, .int (nI (409 + 27 * i + 9 * j))), (0, .ref o), (1, .int (nI i)), (2, .int (nI j))]) hx hb d_Mo_write_15 rfl hl (by decide) rfl (fun ls hl => ?_)
    refine lv_aload_n hx hb d_Mo_write_16 rfl (lv_at hl 1 rfl) ?_
    refine lv_iconst (v := nI 0) hx hb d_Mo_write_17 (by decide +kernel) ?_
    refine g_put (free := gRg o (o + 8)) C0 hK il_Mo tk_Mo nm_Mo hP.1 rfl 7 (by decide) fl_Mo_44 rfl rfl rfl (Nat.le_of_ble_eq_true rfl) d_Mo_write_18 (t_nil (free := gRg o (o + 8))) (gRg.mk (by omega) (by omega)) (fun H_1 locs hL hA_2 hc_3 => ?_)
    have hA_2 : gE G o (eO 6 [.ref (o + 1), .ref (o + 2), .ref (o + 3), .ref (o + 4), .ref (o + 5), .ref (o + 6), .ref (o + 7), .int (nI 0), .int (nI sts), .int (nI td), .int (nI ac)]) H_1 := hA_2
    refine lv_iconst (v := nI 0) hx hb d_Mo_write_21 (by decide +kernel) ?_
    refine lv_istore (lv' := [(4, .int (nI 0)), (3, .int (nI (409 + 27 * i + 9 * j))), (0, .ref o), (1, .int (nI i)), (2, .int (nI j))]) hx hb d_Mo_write_22 hl (by decide) rfl (fun ls hl => ?_)
    have lp24 : ∀ (fu : Nat) (n : Nat) (H : Heap) (locs : List Loc), (S (409 + 27 * i + 9 * j) - n) < fu → n ≤ S (409 + 27 * i + 9 * j) → (∀ qq ∈ locs, (gRg o (o + 8)) qq.base) → MAt G o S sp bf sv iz rr ((wrM S pd (409 + 27 * i + 9 * j) n).1) ((wrM S pd (409 + 27 * i + 9 * j) n).2) sts td ac H → gFr o (o + 8) s.heap H → ∀ ls : Array Slot, lv_has ls 7 [(4, .int (nI n)), (3, .int (nI (409 + 27 * i + 9 * j))), (0, .ref o), (1, .int (nI i)), (2, .int (nI j))] → W p l e ({ frames := 2, cells := 0, slots := 0, locals := 43 } : Room) s m args below meth c H locs 0 0 (MQ below (gQ (wi (.int (mxWri S sp bf sv iz rr pd ln sts td ac (nI i) (nI j)).1) (fun H H1 => MAtX G o (mxWri S sp bf sv iz rr pd ln sts td ac (nI i) (nI j)).2 H1 ∧ gFr o (o + 8) H H1))) args s 0 0 (gRg o (o + 8))) (F0 m 24 ls []) := by
      intro fu
      induction fu with
      | zero => intro n H locs hfu; exact absurd hfu (Nat.not_lt_zero _)
      | succ fu ih24 =>
        intro n H locs hfu hn hL hP hF ls hl
        have hwl := wrM_l (pd := pd) hM hi hj n hn
        refine lv_iload hx hb d_Mo_write_24 (lv_at hl 0 rfl) ?_
        refine lv_aload_n hx hb d_Mo_write_26 rfl (lv_at hl 2 rfl) ?_
        refine g_get C0 hK il_Mo hP.1 rfl 0 (by decide) fl_Mo_7 rfl d_Mo_write_27 ?_
        refine lv_iload_n hx hb d_Mo_write_30 rfl (lv_at hl 1 rfl) ?_
        refine g_iald C0 hK hP.2.1 (by omega) (by omega) d_Mo_write_31 ?_
        refine g_cge (tgt := 139) C0 d_Mo_write_32 (by decide) (by first | omega | exact hM.b (by omega) | exact hR.p (by omega)) (by first | omega | exact hM.b (by omega) | exact hR.p (by omega)) (fun c_32 => ?_) (fun c_32 => ?_)
        · skip
          have en : n = S (409 + 27 * i + 9 * j) := by omega
          subst en
          refine lv_aload_n hx hb d_Mo_write_139 rfl (lv_at hl 2 rfl) ?_
          refine g_get C0 hK il_Mo hP.1 rfl 7 (by decide) fl_Mo_44 rfl d_Mo_write_140 ?_
          refine g_iret C0 hlk hr d_Mo_write_143 hL ?_
          exact ⟨rdI (by rw [mxWri, c_5, if_pos rfl, nI_clamp hi31, nI_clamp hj31, mWri]), (by rw [mxWri, c_5, if_pos rfl, nI_clamp hi31, nI_clamp hj31, mWri]; exact ⟨hP.1, hP.2.1, hP.2.2.1, hP.2.2.2.1, hP.2.2.2.2.1, hP.2.2.2.2.2.1, hP.2.2.2.2.2.2.1, hP.2.2.2.2.2.2.2⟩), hF⟩
        · skip
          have hnm := hM.le (j := n) hi hj (by omega)
          have hnl := hM.nl hnm
          refine lv_aload_n hx hb d_Mo_write_35 rfl (lv_at hl 2 rfl) ?_
          refine g_get C0 hK il_Mo hP.1 rfl 0 (by decide) fl_Mo_7 rfl d_Mo_write_36 ?_
          refine lv_iload_n hx hb d_Mo_write_39 rfl (lv_at hl 1 rfl) ?_
          refine lv_iconst (v := nI 1) hx hb d_Mo_write_40 (by decide +kernel) ?_
          refine g_iadd C0 (z := 409 + 27 * i + 9 * j + 1) d_Mo_write_41 rfl ?_
          refine lv_iload hx hb d_Mo_write_42 (lv_at hl 0 rfl) ?_
          refine g_iadd C0 (z := 409 + 27 * i + 9 * j + 1 + n) d_Mo_write_44 rfl ?_
          refine g_iald C0 hK hP.2.1 (by omega) (by omega) d_Mo_write_45 ?_
          refine lv_istore (lv' := [(5, .int (nI (S (409 + 27 * i + 9 * j + 1 + n)))), (4, .int (nI n)), (3, .int (nI (409 + 27 * i + 9 * j))), (0, .ref o), (1, .int (nI i)), (2, .int (nI j))]) hx hb d_Mo_write_46 hl (by decide) rfl (fun ls hl => ?_)
          refine lv_iload hx hb d_Mo_write_48 (lv_at hl 1 rfl) ?_
          refine lv_if_le (tgt := 74) hx hb d_Mo_write_50 (by decide) (fun c_50 => ?_) (fun c_50 => ?_)
          · skip
            have h0 : n = 0 := by
              rcases Nat.eq_zero_or_pos n with q | q
              · exact q
              · exact absurd c_50 (nI_posn q (by omega))
            have hz : wcM (wrM S pd (409 + 27 * i + 9 * j) n) n = wrM S pd (409 + 27 * i + 9 * j) n := by unfold wcM; rw [if_neg (by omega)]
            refine lv_iconst (v := nI 0) hx hb d_Mo_write_74 (by decide +kernel) ?_
            refine lv_istore (lv' := [(6, .int (nI 0)), (5, .int (nI (S (409 + 27 * i + 9 * j + 1 + n)))), (4, .int (nI n)), (3, .int (nI (409 + 27 * i + 9 * j))), (0, .ref o), (1, .int (nI i)), (2, .int (nI j))]) hx hb d_Mo_write_75 hl (by decide) rfl (fun ls hl => ?_)
            have lp77 : ∀ (fu : Nat) (y : Nat) (H : Heap) (locs : List Loc), (S (9 + 10 * S (409 + 27 * i + 9 * j + 1 + n)) - y) < fu → y ≤ S (9 + 10 * S (409 + 27 * i + 9 * j + 1 + n)) → (∀ qq ∈ locs, (gRg o (o + 8)) qq.base) → MAt G o S sp bf sv iz rr ((wnM S (S (409 + 27 * i + 9 * j + 1 + n)) (wcM (wrM S pd (409 + 27 * i + 9 * j) n) n) y).1) ((wnM S (S (409 + 27 * i + 9 * j + 1 + n)) (wcM (wrM S pd (409 + 27 * i + 9 * j) n) n) y).2) sts td ac H → gFr o (o + 8) s.heap H → ∀ ls : Array Slot, lv_has ls 7 [(6, .int (nI y)), (5, .int (nI (S (409 + 27 * i + 9 * j + 1 + n)))), (4, .int (nI n)), (3, .int (nI (409 + 27 * i + 9 * j))), (0, .ref o), (1, .int (nI i)), (2, .int (nI j))] → W p l e ({ frames := 2, cells := 0, slots := 0, locals := 43 } : Room) s m args below meth c H locs 0 0 (MQ below (gQ (wi (.int (mxWri S sp bf sv iz rr pd ln sts td ac (nI i) (nI j)).1) (fun H H1 => MAtX G o (mxWri S sp bf sv iz rr pd ln sts td ac (nI i) (nI j)).2 H1 ∧ gFr o (o + 8) H H1))) args s 0 0 (gRg o (o + 8))) (F0 m 77 ls []) := by
              intro fu
              induction fu with
              | zero => intro y H locs hfu; exact absurd hfu (Nat.not_lt_zero _)
              | succ fu ih77 =>
                intro y H locs hfu hy hL hP hF ls hl
                have hwj : (wnM S (S (409 + 27 * i + 9 * j + 1 + n)) (wcM (wrM S pd (409 + 27 * i + 9 * j) n) n) y).2 = _ := wnM_l y
                have hz2 := wcM_l (z := wrM S pd (409 + 27 * i + 9 * j) n) (i := n)
                refine lv_iload hx hb d_Mo_write_77 (lv_at hl 0 rfl) ?_
                refine lv_aload_n hx hb d_Mo_write_79 rfl (lv_at hl 4 rfl) ?_
                refine g_get C0 hK il_Mo hP.1 rfl 0 (by decide) fl_Mo_7 rfl d_Mo_write_80 ?_
                refine lv_iload hx hb d_Mo_write_83 (lv_at hl 1 rfl) ?_
                refine g_S C0 (k_Mo_n l G (S (409 + 27 * i + 9 * j + 1 + n))) co_Mo_n sm_Mo_n in_Mo gc_Mo_n ml_Mo_57 ⟨Nat.le_of_ble_eq_true rfl, Nat.le_of_ble_eq_true rfl⟩ hK trivial rfl hl.1 rfl (Nat.le_of_ble_eq_true rfl) d_Mo_write_85 ⟨Nat.le_of_ble_eq_true rfl, Nat.le_of_ble_eq_true rfl⟩ (g_r rfl ?_)
                refine g_iald C0 hK hP.2.1 (by omega) (by omega) d_Mo_write_88 ?_
                refine g_cge (tgt := 133) C0 d_Mo_write_89 (by decide) (by first | omega | exact hM.b (by omega) | exact hR.p (by omega)) (by first | omega | exact hM.b (by omega) | exact hR.p (by omega)) (fun c_89 => ?_) (fun c_89 => ?_)
                · skip
                  have ey : y = S (9 + 10 * S (409 + 27 * i + 9 * j + 1 + n)) := by omega
                  subst ey
                  refine lv_iinc (v := (nI (n + 1))) (lv' := [(4, .int (nI (n + 1))), (6, .int (nI (S (9 + 10 * S (409 + 27 * i + 9 * j + 1 + n))))), (5, .int (nI (S (409 + 27 * i + 9 * j + 1 + n)))), (3, .int (nI (409 + 27 * i + 9 * j))), (0, .ref o), (1, .int (nI i)), (2, .int (nI j))]) hx hb d_Mo_write_133 hl (k := 2) rfl (gI_inc _) (by decide) rfl (fun ls hl => ?_)
                  refine lv_goto (tgt := 24) hx hb d_Mo_write_136 (by decide) ?_
                  exact ih24 (n + 1) H locs (by omega) (by omega) hL (⟨hP.1, hP.2.1, hP.2.2.1, hP.2.2.2.1, hP.2.2.2.2.1, hP.2.2.2.2.2.1, hP.2.2.2.2.2.2.1, hP.2.2.2.2.2.2.2⟩) hF ls (lv_sub hl [0, 3, 4, 5, 6] rfl)
                · skip
                  have hcc := hch _ hnm y (by omega)
                  refine lv_aload_n hx hb d_Mo_write_92 rfl (lv_at hl 4 rfl) ?_
                  refine g_get C0 hK il_Mo hP.1 rfl 6 (by decide) fl_Mo_29 rfl d_Mo_write_93 ?_
                  refine lv_aload_n hx hb d_Mo_write_96 rfl (lv_at hl 4 rfl) ?_
                  refine g_get C0 hK il_Mo hP.1 rfl 7 (by decide) fl_Mo_44 rfl d_Mo_write_97 ?_
                  refine lv_aload_n hx hb d_Mo_write_100 rfl (lv_at hl 4 rfl) ?_
                  refine g_get C0 hK il_Mo hP.1 rfl 0 (by decide) fl_Mo_7 rfl d_Mo_write_101 ?_
                  refine lv_iload hx hb d_Mo_write_104 (lv_at hl 1 rfl) ?_
                  refine g_S C0 (k_Mo_n l G (S (409 + 27 * i + 9 * j + 1 + n))) co_Mo_n sm_Mo_n in_Mo gc_Mo_n ml_Mo_57 ⟨Nat.le_of_ble_eq_true rfl, Nat.le_of_ble_eq_true rfl⟩ hK trivial rfl hl.1 rfl (Nat.le_of_ble_eq_true rfl) d_Mo_write_106 ⟨Nat.le_of_ble_eq_true rfl, Nat.le_of_ble_eq_true rfl⟩ (g_r rfl ?_)
                  refine lv_iconst (v := nI 1) hx hb d_Mo_write_109 (by decide +kernel) ?_
                  refine g_iadd C0 (z := 9 + 10 * (S (409 + 27 * i + 9 * j + 1 + n)) + 1) d_Mo_write_110 rfl ?_
                  refine lv_iload hx hb d_Mo_write_111 (lv_at hl 0 rfl) ?_
                  refine g_iadd C0 (z := 9 + 10 * (S (409 + 27 * i + 9 * j + 1 + n)) + 1 + y) d_Mo_write_113 rfl ?_
                  refine g_iald C0 hK hP.2.1 (by omega) (by omega) d_Mo_write_114 ?_
                  refine lv_i2c (v := (nI (S (9 + 10 * (S (409 + 27 * i + 9 * j + 1 + n)) + 1 + y)))) hx hb d_Mo_write_115 (gI_i2c (by omega)) ?_
                  refine g_cast (free := gRg o (o + 8)) C0 hK hP.2.2.2.2.2.2.2 (by omega) (by omega) (by omega) d_Mo_write_116 hL (gRg.mk (by omega) (by omega)) (fun H_4 locs hL hA_5 hc_6 => ?_)
                  refine lv_aload_n hx hb d_Mo_write_117 rfl (lv_at hl 4 rfl) ?_
                  refine lv_dup hx hb d_Mo_write_118 rfl ?_
                  refine g_get C0 hK il_Mo (hP.1.ch hc_6 (by omega)) rfl 7 (by decide) fl_Mo_44 rfl d_Mo_write_119 ?_
                  refine lv_iconst (v := nI 1) hx hb d_Mo_write_122 (by decide +kernel) ?_
                  refine g_iadd C0 (z := (wnM S (S (409 + 27 * i + 9 * j + 1 + n)) (wcM (wrM S pd (409 + 27 * i + 9 * j) n) n) y).2 + 1) d_Mo_write_123 rfl ?_
                  refine g_put (free := gRg o (o + 8)) C0 hK il_Mo tk_Mo nm_Mo (hP.1.ch hc_6 (by omega)) rfl 7 (by decide) fl_Mo_44 rfl rfl rfl (Nat.le_of_ble_eq_true rfl) d_Mo_write_124 hL (gRg.mk (by omega) (by omega)) (fun H_7 locs hL hA_8 hc_9 => ?_)
                  have hA_8 : gE G o (eO 6 [.ref (o + 1), .ref (o + 2), .ref (o + 3), .ref (o + 4), .ref (o + 5), .ref (o + 6), .ref (o + 7), .int (nI ((wnM S (S (409 + 27 * i + 9 * j + 1 + n)) (wcM (wrM S pd (409 + 27 * i + 9 * j) n) n) y).2 + 1)), .int (nI sts), .int (nI td), .int (nI ac)]) H_7 := hA_8
                  refine lv_iinc (v := (nI (y + 1))) (lv' := [(6, .int (nI (y + 1))), (5, .int (nI (S (409 + 27 * i + 9 * j + 1 + n)))), (4, .int (nI n)), (3, .int (nI (409 + 27 * i + 9 * j))), (0, .ref o), (1, .int (nI i)), (2, .int (nI j))]) hx hb d_Mo_write_127 hl (k := 0) rfl (gI_inc _) (by decide) rfl (fun ls hl => ?_)
                  refine lv_goto (tgt := 77) hx hb d_Mo_write_130 (by decide) ?_
                  exact ih77 (y + 1) H_7 locs (by omega) (by omega) hL (⟨hA_8, ((hP.2.1.ch hc_6 (by omega)).ch hc_9 (by omega)), ((hP.2.2.1.ch hc_6 (by omega)).ch hc_9 (by omega)), ((hP.2.2.2.1.ch hc_6 (by omega)).ch hc_9 (by omega)), ((hP.2.2.2.2.1.ch hc_6 (by omega)).ch hc_9 (by omega)), ((hP.2.2.2.2.2.1.ch hc_6 (by omega)).ch hc_9 (by omega)), ((hP.2.2.2.2.2.2.1.ch hc_6 (by omega)).ch hc_9 (by omega)), (hA_5.ch hc_9 (by omega))⟩) ((hF.tr (gFr.ch hc_6 (by omega) (by omega))).tr (gFr.ch hc_9 (by omega) (by omega))) ls (lv_sub hl [0, 1, 2, 3, 4, 5, 6] rfl)
            exact lp77 ((S (9 + 10 * S (409 + 27 * i + 9 * j + 1 + n)) - 0) + 1) 0 H locs (by omega) (by omega) hL (by show MAt G o S sp bf sv iz rr (wcM (wrM S pd (409 + 27 * i + 9 * j) n) n).1 (wcM (wrM S pd (409 + 27 * i + 9 * j) n) n).2 sts td ac _; rw [hz]; exact ⟨hP.1, hP.2.1, hP.2.2.1, hP.2.2.2.1, hP.2.2.2.2.1, hP.2.2.2.2.2.1, hP.2.2.2.2.2.2.1, hP.2.2.2.2.2.2.2⟩) hF ls (lv_sub hl [0, 1, 2, 3, 4, 5, 6] rfl)
          · skip
            have h0 : 0 < n := by
              rcases Nat.eq_zero_or_pos n with q | q
              · subst q; exact absurd (by decide) c_50
              · exact q
            have hz : wcM (wrM S pd (409 + 27 * i + 9 * j) n) n = (va_up (wrM S pd (409 + 27 * i + 9 * j) n).1 (wrM S pd (409 + 27 * i + 9 * j) n).2 44, (wrM S pd (409 + 27 * i + 9 * j) n).2 + 1) := if_pos h0
            refine lv_aload_n hx hb d_Mo_write_53 rfl (lv_at hl 3 rfl) ?_
            refine g_get C0 hK il_Mo hP.1 rfl 6 (by decide) fl_Mo_29 rfl d_Mo_write_54 ?_
            refine lv_aload_n hx hb d_Mo_write_57 rfl (lv_at hl 3 rfl) ?_
            refine g_get C0 hK il_Mo hP.1 rfl 7 (by decide) fl_Mo_44 rfl d_Mo_write_58 ?_
            refine lv_bipush (v := nI 44) hx hb d_Mo_write_61 (by decide +kernel) ?_
            refine g_cast (free := gRg o (o + 8)) C0 hK hP.2.2.2.2.2.2.2 (by omega) (by omega) (by omega) d_Mo_write_63 hL (gRg.mk (by omega) (by omega)) (fun H_10 locs hL hA_11 hc_12 => ?_)
            refine lv_aload_n hx hb d_Mo_write_64 rfl (lv_at hl 3 rfl) ?_
            refine lv_dup hx hb d_Mo_write_65 rfl ?_
            refine g_get C0 hK il_Mo (hP.1.ch hc_12 (by omega)) rfl 7 (by decide) fl_Mo_44 rfl d_Mo_write_66 ?_
            refine lv_iconst (v := nI 1) hx hb d_Mo_write_69 (by decide +kernel) ?_
            refine g_iadd C0 (z := (wrM S pd (409 + 27 * i + 9 * j) n).2 + 1) d_Mo_write_70 rfl ?_
            refine g_put (free := gRg o (o + 8)) C0 hK il_Mo tk_Mo nm_Mo (hP.1.ch hc_12 (by omega)) rfl 7 (by decide) fl_Mo_44 rfl rfl rfl (Nat.le_of_ble_eq_true rfl) d_Mo_write_71 hL (gRg.mk (by omega) (by omega)) (fun H_13 locs hL hA_14 hc_15 => ?_)
            have hA_14 : gE G o (eO 6 [.ref (o + 1), .ref (o + 2), .ref (o + 3), .ref (o + 4), .ref (o + 5), .ref (o + 6), .ref (o + 7), .int (nI ((wrM S pd (409 + 27 * i + 9 * j) n).2 + 1)), .int (nI sts), .int (nI td), .int (nI ac)]) H_13 := hA_14
            refine lv_iconst (v := nI 0) hx hb d_Mo_write_74 (by decide +kernel) ?_
            refine lv_istore (lv' := [(6, .int (nI 0)), (5, .int (nI (S (409 + 27 * i + 9 * j + 1 + n)))), (4, .int (nI n)), (3, .int (nI (409 + 27 * i + 9 * j))), (0, .ref o), (1, .int (nI i)), (2, .int (nI j))]) hx hb d_Mo_write_75 hl (by decide) rfl (fun ls hl => ?_)
            have lp77 : ∀ (fu : Nat) (y : Nat) (H : Heap) (locs : List Loc), (S (9 + 10 * S (409 + 27 * i + 9 * j + 1 + n)) - y) < fu → y ≤ S (9 + 10 * S (409 + 27 * i + 9 * j + 1 + n)) → (∀ qq ∈ locs, (gRg o (o + 8)) qq.base) → MAt G o S sp bf sv iz rr ((wnM S (S (409 + 27 * i + 9 * j + 1 + n)) (wcM (wrM S pd (409 + 27 * i + 9 * j) n) n) y).1) ((wnM S (S (409 + 27 * i + 9 * j + 1 + n)) (wcM (wrM S pd (409 + 27 * i + 9 * j) n) n) y).2) sts td ac H → gFr o (o + 8) s.heap H → ∀ ls : Array Slot, lv_has ls 7 [(6, .int (nI y)), (5, .int (nI (S (409 + 27 * i + 9 * j + 1 + n)))), (4, .int (nI n)), (3, .int (nI (409 + 27 * i + 9 * j))), (0, .ref o), (1, .int (nI i)), (2, .int (nI j))] → W p l e ({ frames := 2, cells := 0, slots := 0, locals := 43 } : Room) s m args below meth c H locs 0 0 (MQ below (gQ (wi (.int (mxWri S sp bf sv iz rr pd ln sts td ac (nI i) (nI j)).1) (fun H H1 => MAtX G o (mxWri S sp bf sv iz rr pd ln sts td ac (nI i) (nI j)).2 H1 ∧ gFr o (o + 8) H H1))) args s 0 0 (gRg o (o + 8))) (F0 m 77 ls []) := by
              intro fu
              induction fu with
              | zero => intro y H locs hfu; exact absurd hfu (Nat.not_lt_zero _)
              | succ fu ih77 =>
                intro y H locs hfu hy hL hP hF ls hl
                have hwj : (wnM S (S (409 + 27 * i + 9 * j + 1 + n)) (wcM (wrM S pd (409 + 27 * i + 9 * j) n) n) y).2 = _ := wnM_l y
                have hz2 := wcM_l (z := wrM S pd (409 + 27 * i + 9 * j) n) (i := n)
                refine lv_iload hx hb d_Mo_write_77 (lv_at hl 0 rfl) ?_
                refine lv_aload_n hx hb d_Mo_write_79 rfl (lv_at hl 4 rfl) ?_
                refine g_get C0 hK il_Mo hP.1 rfl 0 (by decide) fl_Mo_7 rfl d_Mo_write_80 ?_
                refine lv_iload hx hb d_Mo_write_83 (lv_at hl 1 rfl) ?_
                refine g_S C0 (k_Mo_n l G (S (409 + 27 * i + 9 * j + 1 + n))) co_Mo_n sm_Mo_n in_Mo gc_Mo_n ml_Mo_57 ⟨Nat.le_of_ble_eq_true rfl, Nat.le_of_ble_eq_true rfl⟩ hK trivial rfl hl.1 rfl (Nat.le_of_ble_eq_true rfl) d_Mo_write_85 ⟨Nat.le_of_ble_eq_true rfl, Nat.le_of_ble_eq_true rfl⟩ (g_r rfl ?_)
                refine g_iald C0 hK hP.2.1 (by omega) (by omega) d_Mo_write_88 ?_
                refine g_cge (tgt := 133) C0 d_Mo_write_89 (by decide) (by first | omega | exact hM.b (by omega) | exact hR.p (by omega)) (by first | omega | exact hM.b (by omega) | exact hR.p (by omega)) (fun c_89 => ?_) (fun c_89 => ?_)
                · skip
                  have ey : y = S (9 + 10 * S (409 + 27 * i + 9 * j + 1 + n)) := by omega
                  subst ey
                  refine lv_iinc (v := (nI (n + 1))) (lv' := [(4, .int (nI (n + 1))), (6, .int (nI (S (9 + 10 * S (409 + 27 * i + 9 * j + 1 + n))))), (5, .int (nI (S (409 + 27 * i + 9 * j + 1 + n)))), (3, .int (nI (409 + 27 * i + 9 * j))), (0, .ref o), (1, .int (nI i)), (2, .int (nI j))]) hx hb d_Mo_write_133 hl (k := 2) rfl (gI_inc _) (by decide) rfl (fun ls hl => ?_)
                  refine lv_goto (tgt := 24) hx hb d_Mo_write_136 (by decide) ?_
                  exact ih24 (n + 1) H locs (by omega) (by omega) hL (⟨hP.1, hP.2.1, hP.2.2.1, hP.2.2.2.1, hP.2.2.2.2.1, hP.2.2.2.2.2.1, hP.2.2.2.2.2.2.1, hP.2.2.2.2.2.2.2⟩) hF ls (lv_sub hl [0, 3, 4, 5, 6] rfl)
                · skip
                  have hcc := hch _ hnm y (by omega)
                  refine lv_aload_n hx hb d_Mo_write_92 rfl (lv_at hl 4 rfl) ?_
                  refine g_get C0 hK il_Mo hP.1 rfl 6 (by decide) fl_Mo_29 rfl d_Mo_write_93 ?_
                  refine lv_aload_n hx hb d_Mo_write_96 rfl (lv_at hl 4 rfl) ?_
                  refine g_get C0 hK il_Mo hP.1 rfl 7 (by decide) fl_Mo_44 rfl d_Mo_write_97 ?_
                  refine lv_aload_n hx hb d_Mo_write_100 rfl (lv_at hl 4 rfl) ?_
                  refine g_get C0 hK il_Mo hP.1 rfl 0 (by decide) fl_Mo_7 rfl d_Mo_write_101 ?_
                  refine lv_iload hx hb d_Mo_write_104 (lv_at hl 1 rfl) ?_
                  refine g_S C0 (k_Mo_n l G (S (409 + 27 * i + 9 * j + 1 + n))) co_Mo_n sm_Mo_n in_Mo gc_Mo_n ml_Mo_57 ⟨Nat.le_of_ble_eq_true rfl, Nat.le_of_ble_eq_true rfl⟩ hK trivial rfl hl.1 rfl (Nat.le_of_ble_eq_true rfl) d_Mo_write_106 ⟨Nat.le_of_ble_eq_true rfl, Nat.le_of_ble_eq_true rfl⟩ (g_r rfl ?_)
                  refine lv_iconst (v := nI 1) hx hb d_Mo_write_109 (by decide +kernel) ?_
                  refine g_iadd C0 (z := 9 + 10 * (S (409 + 27 * i + 9 * j + 1 + n)) + 1) d_Mo_write_110 rfl ?_
                  refine lv_iload hx hb d_Mo_write_111 (lv_at hl 0 rfl) ?_
                  refine g_iadd C0 (z := 9 + 10 * (S (409 + 27 * i + 9 * j + 1 + n)) + 1 + y) d_Mo_write_113 rfl ?_
                  refine g_iald C0 hK hP.2.1 (by omega) (by omega) d_Mo_write_114 ?_
                  refine lv_i2c (v := (nI (S (9 + 10 * (S (409 + 27 * i + 9 * j + 1 + n)) + 1 + y)))) hx hb d_Mo_write_115 (gI_i2c (by omega)) ?_
                  refine g_cast (free := gRg o (o + 8)) C0 hK hP.2.2.2.2.2.2.2 (by omega) (by omega) (by omega) d_Mo_write_116 hL (gRg.mk (by omega) (by omega)) (fun H_16 locs hL hA_17 hc_18 => ?_)
                  refine lv_aload_n hx hb d_Mo_write_117 rfl (lv_at hl 4 rfl) ?_
                  refine lv_dup hx hb d_Mo_write_118 rfl ?_
                  refine g_get C0 hK il_Mo (hP.1.ch hc_18 (by omega)) rfl 7 (by decide) fl_Mo_44 rfl d_Mo_write_119 ?_
                  refine lv_iconst (v := nI 1) hx hb d_Mo_write_122 (by decide +kernel) ?_
                  refine g_iadd C0 (z := (wnM S (S (409 + 27 * i + 9 * j + 1 + n)) (wcM (wrM S pd (409 + 27 * i + 9 * j) n) n) y).2 + 1) d_Mo_write_123 rfl ?_
                  refine g_put (free := gRg o (o + 8)) C0 hK il_Mo tk_Mo nm_Mo (hP.1.ch hc_18 (by omega)) rfl 7 (by decide) fl_Mo_44 rfl rfl rfl (Nat.le_of_ble_eq_true rfl) d_Mo_write_124 hL (gRg.mk (by omega) (by omega)) (fun H_19 locs hL hA_20 hc_21 => ?_)
                  have hA_20 : gE G o (eO 6 [.ref (o + 1), .ref (o + 2), .ref (o + 3), .ref (o + 4), .ref (o + 5), .ref (o + 6), .ref (o + 7), .int (nI ((wnM S (S (409 + 27 * i + 9 * j + 1 + n)) (wcM (wrM S pd (409 + 27 * i + 9 * j) n) n) y).2 + 1)), .int (nI sts), .int (nI td), .int (nI ac)]) H_19 := hA_20
                  refine lv_iinc (v := (nI (y + 1))) (lv' := [(6, .int (nI (y + 1))), (5, .int (nI (S (409 + 27 * i + 9 * j + 1 + n)))), (4, .int (nI n)), (3, .int (nI (409 + 27 * i + 9 * j))), (0, .ref o), (1, .int (nI i)), (2, .int (nI j))]) hx hb d_Mo_write_127 hl (k := 0) rfl (gI_inc _) (by decide) rfl (fun ls hl => ?_)
                  refine lv_goto (tgt := 77) hx hb d_Mo_write_130 (by decide) ?_
                  exact ih77 (y + 1) H_19 locs (by omega) (by omega) hL (⟨hA_20, ((hP.2.1.ch hc_18 (by omega)).ch hc_21 (by omega)), ((hP.2.2.1.ch hc_18 (by omega)).ch hc_21 (by omega)), ((hP.2.2.2.1.ch hc_18 (by omega)).ch hc_21 (by omega)), ((hP.2.2.2.2.1.ch hc_18 (by omega)).ch hc_21 (by omega)), ((hP.2.2.2.2.2.1.ch hc_18 (by omega)).ch hc_21 (by omega)), ((hP.2.2.2.2.2.2.1.ch hc_18 (by omega)).ch hc_21 (by omega)), (hA_17.ch hc_21 (by omega))⟩) ((hF.tr (gFr.ch hc_18 (by omega) (by omega))).tr (gFr.ch hc_21 (by omega) (by omega))) ls (lv_sub hl [0, 1, 2, 3, 4, 5, 6] rfl)
            exact lp77 ((S (9 + 10 * S (409 + 27 * i + 9 * j + 1 + n)) - 0) + 1) 0 H_13 locs (by omega) (by omega) hL (by show MAt G o S sp bf sv iz rr (wcM (wrM S pd (409 + 27 * i + 9 * j) n) n).1 (wcM (wrM S pd (409 + 27 * i + 9 * j) n) n).2 sts td ac _; rw [hz]; exact ⟨hA_14, ((hP.2.1.ch hc_12 (by omega)).ch hc_15 (by omega)), ((hP.2.2.1.ch hc_12 (by omega)).ch hc_15 (by omega)), ((hP.2.2.2.1.ch hc_12 (by omega)).ch hc_15 (by omega)), ((hP.2.2.2.2.1.ch hc_12 (by omega)).ch hc_15 (by omega)), ((hP.2.2.2.2.2.1.ch hc_12 (by omega)).ch hc_15 (by omega)), ((hP.2.2.2.2.2.2.1.ch hc_12 (by omega)).ch hc_15 (by omega)), (hA_11.ch hc_15 (by omega))⟩) ((hF.tr (gFr.ch hc_12 (by omega) (by omega))).tr (gFr.ch hc_15 (by omega) (by omega))) ls (lv_sub hl [0, 1, 2, 3, 4, 5, 6] rfl)
    exact lp24 ((S (409 + 27 * i + 9 * j) - 0) + 1) 0 H_1 locs (by omega) (by omega) hL (⟨hA_2, (hP.2.1.ch hc_3 (by omega)), (hP.2.2.1.ch hc_3 (by omega)), (hP.2.2.2.1.ch hc_3 (by omega)), (hP.2.2.2.2.1.ch hc_3 (by omega)), (hP.2.2.2.2.2.1.ch hc_3 (by omega)), (hP.2.2.2.2.2.2.1.ch hc_3 (by omega)), (hP.2.2.2.2.2.2.2.ch hc_3 (by omega))⟩) (gFr.rf.tr (gFr.ch hc_3 (by omega) (by omega))) ls (lv_sub hl [0, 1, 2, 3, 4] rfl)
  · skip
    refine lv_iconst (v := -1) hx hb d_Mo_write_8 (by decide +kernel) ?_
    refine g_iret C0 hlk hr d_Mo_write_9 (t_nil (free := gRg o (o + 8))) ?_
    exact ⟨rdI (by rw [mxWri, c_5] <;> rfl), (by rw [mxWri, c_5]; exact ⟨hP.1, hP.2.1, hP.2.2.1, hP.2.2.2.1, hP.2.2.2.2.1, hP.2.2.2.2.2.1, hP.2.2.2.2.2.2.1, hP.2.2.2.2.2.2.2⟩), gFr.rf⟩

set_option maxHeartbeats 4000000 in
set_option maxRecDepth 100000 in
theorem k_Mo_put (l : Launch) (G : gT) (o : Nat) (S sp bf sv iz rr pd : Nat → Nat) (ln sts td ac : Nat) (w : Nat) (hw : w < 2 ^ 64) (hln : ln ≤ 80)  : gM l y_Mo_put c_Mo_put 8 (some .int) 0 0 0 0 G [.ref o, .long (lN w)] (fun H => MAt G o S sp bf sv iz rr pd ln sts td ac H) (wi (.int (mxPut S sp bf sv iz rr pd ln sts td ac w).1) (fun H H1 => MAtX G o (mxPut S sp bf sv iz rr pd ln sts td ac w).2 H1 ∧ gFr o (o + 8) H H1)) (gRg o (o + 8)) := by
  refine g_enter "GaleNamesModel" (by decide +kernel) rfl (Nat.le_of_ble_eq_true rfl) ?_
  intro p e s m args below meth c C0 hlk hr hnm hP hK ls hl
  have hx := C0.1
  have hb := C0.2.1
  have hl : lv_has ls 8 [(0, .ref o), (1, .long (lN w))] := hl
  refine lv_iconst (v := nI 0) hx hb d_Mo_put_0 (by decide +kernel) ?_
  refine lv_istore_n (lv' := [(3, .int (nI 0)), (0, .ref o), (1, .long (lN w))]) hx hb d_Mo_put_1 rfl hl (by decide) rfl (fun ls hl => ?_)
  refine lv_lload_n hx hb d_Mo_put_2 rfl (lv_at hl 2 rfl) ?_
  refine lv_lstore (lv' := [(4, .long (lN w)), (3, .int (nI 0)), (0, .ref o), (1, .long (lN w))]) hx hb d_Mo_put_3 hl (by decide) rfl (fun ls hl => ?_)
  have lp5 : ∀ (fu : Nat) (r : Nat) (n : Nat), (8 - n) < fu → r < 2 ^ 64 → n ≤ 8 → pcM 8 w 0 = pcM (8 - n) r n → ∀ ls : Array Slot, lv_has ls 8 [(4, .long (lN r)), (3, .int (nI n)), (0, .ref o), (1, .long (lN w))] → W p l e ({ frames := 0, cells := 0, slots := 0, locals := 0 } : Room) s m args below meth c s.heap [] 0 0 (MQ below (gQ (wi (.int (mxPut S sp bf sv iz rr pd ln sts td ac w).1) (fun H H1 => MAtX G o (mxPut S sp bf sv iz rr pd ln sts td ac w).2 H1 ∧ gFr o (o + 8) H H1))) args s 0 0 (gRg o (o + 8))) (F0 m 5 ls []) := by
    intro fu
    induction fu with
    | zero => intro r n  hfu; exact absurd hfu (Nat.not_lt_zero _)
    | succ fu ih5 =>
      intro r n hfu hr64 hn hg ls hl
      refine lv_iload_n hx hb d_Mo_put_5 rfl (lv_at hl 1 rfl) ?_
      refine lv_bipush (v := nI 8) hx hb d_Mo_put_6 (by decide +kernel) ?_
      refine g_cge (tgt := 60) C0 d_Mo_put_8 (by decide) (by first | omega | exact hM.b (by omega) | exact hR.p (by omega)) (by first | omega | exact hM.b (by omega) | exact hR.p (by omega)) (fun c_8 => ?_) (fun c_8 => ?_)
      · skip
        have hz : pcM 8 w 0 = some n := by rw [hg, show 8 - n = 0 by omega]; rfl
        refine lv_iload_n hx hb d_Mo_put_60 rfl (lv_at hl 1 rfl) ?_
        refine lv_if_ne (tgt := 67) hx hb d_Mo_put_61 (by decide) (fun c_61 => ?_) (fun c_61 => ?_)
        · skip
          have c_61 : ¬ n = 0 := fun h => c_61 (by rw [h]; rfl)
          refine lv_aload_n hx hb d_Mo_put_67 rfl (lv_at hl 2 rfl) ?_
          refine g_get C0 hK il_Mo hP.1 rfl 7 (by decide) fl_Mo_44 rfl d_Mo_put_68 ?_
          refine lv_iload_n hx hb d_Mo_put_71 rfl (lv_at hl 1 rfl) ?_
          refine g_iadd C0 (z := ln + n) d_Mo_put_72 rfl ?_
          refine lv_bipush (v := nI 80) hx hb d_Mo_put_73 (by decide +kernel) ?_
          refine g_cle (tgt := 81) C0 d_Mo_put_75 (by decide) (by first | omega | exact hM.b (by omega) | exact hR.p (by omega)) (by first | omega | exact hM.b (by omega) | exact hR.p (by omega)) (fun c_75 => ?_) (fun c_75 => ?_)
          · skip
            refine lv_iload_n hx hb d_Mo_put_81 rfl (lv_at hl 1 rfl) ?_
            refine lv_iconst (v := nI 1) hx hb d_Mo_put_82 (by decide +kernel) ?_
            refine lv_isub hx hb d_Mo_put_83 ?_
            refine lv_istore (lv' := [(6, .int ((nI n) - (nI 1))), (4, .long (lN r)), (3, .int (nI n)), (0, .ref o), (1, .long (lN w))]) hx hb d_Mo_put_84 hl (by decide) rfl (fun ls hl => ?_)
            have lp86 : ∀ (fu : Nat) (u : Nat) (t : Nat) (H : Heap) (locs : List Loc), (u) < fu → t + u = n → (∀ qq ∈ locs, (gRg o (o + 8)) qq.base) → MAt G o S sp bf sv iz rr (ptM pd ln w n t) (ln + t) sts td ac H → gFr o (o + 8) s.heap H → ∀ ls : Array Slot, lv_has ls 8 [(6, .int (nI u - 1)), (4, .long (lN r)), (3, .int (nI n)), (0, .ref o), (1, .long (lN w))] → W p l e ({ frames := 0, cells := 0, slots := 0, locals := 0 } : Room) s m args below meth c H locs 0 0 (MQ below (gQ (wi (.int (mxPut S sp bf sv iz rr pd ln sts td ac w).1) (fun H H1 => MAtX G o (mxPut S sp bf sv iz rr pd ln sts td ac w).2 H1 ∧ gFr o (o + 8) H H1))) args s 0 0 (gRg o (o + 8))) (F0 m 86 ls []) := by
              intro fu
              induction fu with
              | zero => intro u t H locs hfu; exact absurd hfu (Nat.not_lt_zero _)
              | succ fu ih86 =>
                intro u t H locs hfu htu hL hP hF ls hl
                refine lv_iload hx hb d_Mo_put_86 (lv_at hl 0 rfl) ?_
                refine lv_if_lt (tgt := 129) hx hb d_Mo_put_88 (by decide) (fun c_88 => ?_) (fun c_88 => ?_)
                · skip
                  have hu0 : u = 0 := gU0 (by omega) c_88
                  have et : t = n := by omega
                  subst et
                  refine lv_aload_n hx hb d_Mo_put_129 rfl (lv_at hl 3 rfl) ?_
                  refine g_get C0 hK il_Mo hP.1 rfl 7 (by decide) fl_Mo_44 rfl d_Mo_put_130 ?_
                  refine g_iret C0 hlk hr d_Mo_put_133 hL ?_
                  exact ⟨rdI (by rw [mxPut_s hz, mPtn, if_neg c_61, if_neg (by omega)]), (by rw [mxPut_s hz, mPtn, if_neg c_61, if_neg (by omega)]; exact ⟨hP.1, hP.2.1, hP.2.2.1, hP.2.2.2.1, hP.2.2.2.2.1, hP.2.2.2.2.2.1, hP.2.2.2.2.2.2.1, hP.2.2.2.2.2.2.2⟩), hF⟩
                · skip
                  obtain ⟨v, rfl⟩ := gU1 c_88
                  rw [gI_s1] at hl
                  have hl : lv_has ls 8 [(6, .int (nI v)), (4, .long (lN r)), (3, .int (nI n)), (0, .ref o), (1, .long (lN w))] := hl
                  have ev : n - 1 - t = v := by omega
                  refine lv_aload_n hx hb d_Mo_put_91 rfl (lv_at hl 3 rfl) ?_
                  refine g_get C0 hK il_Mo hP.1 rfl 6 (by decide) fl_Mo_29 rfl d_Mo_put_92 ?_
                  refine lv_aload_n hx hb d_Mo_put_95 rfl (lv_at hl 3 rfl) ?_
                  refine g_get C0 hK il_Mo hP.1 rfl 7 (by decide) fl_Mo_44 rfl d_Mo_put_96 ?_
                  refine lv_lload_n hx hb d_Mo_put_99 rfl (lv_at hl 4 rfl) ?_
                  refine lv_bipush (v := nI 8) hx hb d_Mo_put_100 (by decide +kernel) ?_
                  refine lv_iload hx hb d_Mo_put_102 (lv_at hl 0 rfl) ?_
                  refine g_imul C0 (z := 8 * v) d_Mo_put_104 rfl ?_
                  refine g_lushr C0 d_Mo_put_105 hw (by omega) ?_
                  refine g_ldc2 (v := lN 255) C0 kl_Mo_163 d_Mo_put_106 ?_
                  refine g_land C0 d_Mo_put_109 ?_
                  refine lv_l2i (v := nI ((w / 2 ^ (8 * v)) % 256)) hx hb d_Mo_put_110 (lB_l2i _) ?_
                  refine lv_i2c (v := (nI ((w / 2 ^ (8 * v)) % 256))) hx hb d_Mo_put_111 (gI_i2c (Nat.lt_trans (Nat.mod_lt _ (by decide)) (by decide))) ?_
                  refine g_cast (free := gRg o (o + 8)) C0 hK hP.2.2.2.2.2.2.2 (by omega) (by omega) (Nat.lt_trans (Nat.mod_lt _ (by decide)) (by decide)) d_Mo_put_112 hL (gRg.mk (by omega) (by omega)) (fun H_1 locs hL hA_2 hc_3 => ?_)
                  refine lv_aload_n hx hb d_Mo_put_113 rfl (lv_at hl 3 rfl) ?_
                  refine lv_dup hx hb d_Mo_put_114 rfl ?_
                  refine g_get C0 hK il_Mo (hP.1.ch hc_3 (by omega)) rfl 7 (by decide) fl_Mo_44 rfl d_Mo_put_115 ?_
                  refine lv_iconst (v := nI 1) hx hb d_Mo_put_118 (by decide +kernel) ?_
                  refine g_iadd C0 (z := ln + t + 1) d_Mo_put_119 rfl ?_
                  refine g_put (free := gRg o (o + 8)) C0 hK il_Mo tk_Mo nm_Mo (hP.1.ch hc_3 (by omega)) rfl 7 (by decide) fl_Mo_44 rfl rfl rfl (Nat.le_of_ble_eq_true rfl) d_Mo_put_120 hL (gRg.mk (by omega) (by omega)) (fun H_4 locs hL hA_5 hc_6 => ?_)
                  have hA_5 : gE G o (eO 6 [.ref (o + 1), .ref (o + 2), .ref (o + 3), .ref (o + 4), .ref (o + 5), .ref (o + 6), .ref (o + 7), .int (nI (ln + t + 1)), .int (nI sts), .int (nI td), .int (nI ac)]) H_4 := hA_5
                  refine lv_iinc (v := (nI v - 1)) (lv' := [(6, .int (nI v - 1)), (4, .long (lN r)), (3, .int (nI n)), (0, .ref o), (1, .long (lN w))]) hx hb d_Mo_put_123 hl (k := 0) rfl (gI_d1 _) (by decide) rfl (fun ls hl => ?_)
                  refine lv_goto (tgt := 86) hx hb d_Mo_put_126 (by decide) ?_
                  exact ih86 v (t + 1) H_4 locs (by omega) (by omega) hL (by rw [ptM_s ev]; exact ⟨hA_5, ((hP.2.1.ch hc_3 (by omega)).ch hc_6 (by omega)), ((hP.2.2.1.ch hc_3 (by omega)).ch hc_6 (by omega)), ((hP.2.2.2.1.ch hc_3 (by omega)).ch hc_6 (by omega)), ((hP.2.2.2.2.1.ch hc_3 (by omega)).ch hc_6 (by omega)), ((hP.2.2.2.2.2.1.ch hc_3 (by omega)).ch hc_6 (by omega)), ((hP.2.2.2.2.2.2.1.ch hc_3 (by omega)).ch hc_6 (by omega)), (hA_2.ch hc_6 (by omega))⟩) ((hF.tr (gFr.ch hc_3 (by omega) (by omega))).tr (gFr.ch hc_6 (by omega) (by omega))) ls (lv_sub hl [0, 1, 2, 3, 4] rfl)
            exact lp86 (n + 1) n 0 s.heap [] (by omega) (Nat.zero_add _) (t_nil (free := gRg o (o + 8))) (⟨hP.1, hP.2.1, hP.2.2.1, hP.2.2.2.1, hP.2.2.2.2.1, hP.2.2.2.2.2.1, hP.2.2.2.2.2.2.1, hP.2.2.2.2.2.2.2⟩) gFr.rf ls (lv_sub hl [0, 1, 2, 3, 4] rfl)
          · skip
            refine lv_bipush (v := -4) hx hb d_Mo_put_78 (by decide +kernel) ?_
            refine g_iret C0 hlk hr d_Mo_put_80 (t_nil (free := gRg o (o + 8))) ?_
            exact ⟨rdI (by rw [mxPut_s hz, mPtn, if_neg c_61, if_pos (by omega)]), (by rw [mxPut_s hz, mPtn, if_neg c_61, if_pos (by omega)]; exact hP), gFr.rf⟩
        · skip
          have c_61 : n = 0 := (nI_eqi (b := 0) (by omega) (by omega)).mp c_61
          refine lv_bipush (v := -2) hx hb d_Mo_put_64 (by decide +kernel) ?_
          refine g_iret C0 hlk hr d_Mo_put_66 (t_nil (free := gRg o (o + 8))) ?_
          exact ⟨rdI (by rw [mxPut_s hz, mPtn, if_pos c_61]), (by rw [mxPut_s hz, mPtn, if_pos c_61]; exact hP), gFr.rf⟩
      · skip
        refine lv_lload hx hb d_Mo_put_11 (lv_at hl 0 rfl) ?_
        refine lv_lconst (v := lN 0) hx hb d_Mo_put_13 rfl ?_
        refine W.lcmp hx hb d_Mo_put_14 ?_
        refine lv_if_eq (tgt := 60) hx hb d_Mo_put_15 (by decide) (fun c_15 => ?_) (fun c_15 => ?_)
        · skip
          have c_15 : r = 0 := (lc_eq (b := 0) hr64 (by omega)).mp c_15
          have hz : pcM 8 w 0 = some n := by rw [hg, c_15]; exact pcM_z
          refine lv_iload_n hx hb d_Mo_put_60 rfl (lv_at hl 1 rfl) ?_
          refine lv_if_ne (tgt := 67) hx hb d_Mo_put_61 (by decide) (fun c_61 => ?_) (fun c_61 => ?_)
          · skip
            have c_61 : ¬ n = 0 := fun h => c_61 (by rw [h]; rfl)
            refine lv_aload_n hx hb d_Mo_put_67 rfl (lv_at hl 2 rfl) ?_
            refine g_get C0 hK il_Mo hP.1 rfl 7 (by decide) fl_Mo_44 rfl d_Mo_put_68 ?_
            refine lv_iload_n hx hb d_Mo_put_71 rfl (lv_at hl 1 rfl) ?_
            refine g_iadd C0 (z := ln + n) d_Mo_put_72 rfl ?_
            refine lv_bipush (v := nI 80) hx hb d_Mo_put_73 (by decide +kernel) ?_
            refine g_cle (tgt := 81) C0 d_Mo_put_75 (by decide) (by first | omega | exact hM.b (by omega) | exact hR.p (by omega)) (by first | omega | exact hM.b (by omega) | exact hR.p (by omega)) (fun c_75 => ?_) (fun c_75 => ?_)
            · skip
              refine lv_iload_n hx hb d_Mo_put_81 rfl (lv_at hl 1 rfl) ?_
              refine lv_iconst (v := nI 1) hx hb d_Mo_put_82 (by decide +kernel) ?_
              refine lv_isub hx hb d_Mo_put_83 ?_
              refine lv_istore (lv' := [(6, .int ((nI n) - (nI 1))), (4, .long (lN r)), (3, .int (nI n)), (0, .ref o), (1, .long (lN w))]) hx hb d_Mo_put_84 hl (by decide) rfl (fun ls hl => ?_)
              have lp86 : ∀ (fu : Nat) (u : Nat) (t : Nat) (H : Heap) (locs : List Loc), (u) < fu → t + u = n → (∀ qq ∈ locs, (gRg o (o + 8)) qq.base) → MAt G o S sp bf sv iz rr (ptM pd ln w n t) (ln + t) sts td ac H → gFr o (o + 8) s.heap H → ∀ ls : Array Slot, lv_has ls 8 [(6, .int (nI u - 1)), (4, .long (lN r)), (3, .int (nI n)), (0, .ref o), (1, .long (lN w))] → W p l e ({ frames := 0, cells := 0, slots := 0, locals := 0 } : Room) s m args below meth c H locs 0 0 (MQ below (gQ (wi (.int (mxPut S sp bf sv iz rr pd ln sts td ac w).1) (fun H H1 => MAtX G o (mxPut S sp bf sv iz rr pd ln sts td ac w).2 H1 ∧ gFr o (o + 8) H H1))) args s 0 0 (gRg o (o + 8))) (F0 m 86 ls []) := by
                intro fu
                induction fu with
                | zero => intro u t H locs hfu; exact absurd hfu (Nat.not_lt_zero _)
                | succ fu ih86 =>
                  intro u t H locs hfu htu hL hP hF ls hl
                  refine lv_iload hx hb d_Mo_put_86 (lv_at hl 0 rfl) ?_
                  refine lv_if_lt (tgt := 129) hx hb d_Mo_put_88 (by decide) (fun c_88 => ?_) (fun c_88 => ?_)
                  · skip
                    have hu0 : u = 0 := gU0 (by omega) c_88
                    have et : t = n := by omega
                    subst et
                    refine lv_aload_n hx hb d_Mo_put_129 rfl (lv_at hl 3 rfl) ?_
                    refine g_get C0 hK il_Mo hP.1 rfl 7 (by decide) fl_Mo_44 rfl d_Mo_put_130 ?_
                    refine g_iret C0 hlk hr d_Mo_put_133 hL ?_
                    exact ⟨rdI (by rw [mxPut_s hz, mPtn, if_neg c_61, if_neg (by omega)]), (by rw [mxPut_s hz, mPtn, if_neg c_61, if_neg (by omega)]; exact ⟨hP.1, hP.2.1, hP.2.2.1, hP.2.2.2.1, hP.2.2.2.2.1, hP.2.2.2.2.2.1, hP.2.2.2.2.2.2.1, hP.2.2.2.2.2.2.2⟩), hF⟩
                  · skip
                    obtain ⟨v, rfl⟩ := gU1 c_88
                    rw [gI_s1] at hl
                    have hl : lv_has ls 8 [(6, .int (nI v)), (4, .long (lN r)), (3, .int (nI n)), (0, .ref o), (1, .long (lN w))] := hl
                    have ev : n - 1 - t = v := by omega
                    refine lv_aload_n hx hb d_Mo_put_91 rfl (lv_at hl 3 rfl) ?_
                    refine g_get C0 hK il_Mo hP.1 rfl 6 (by decide) fl_Mo_29 rfl d_Mo_put_92 ?_
                    refine lv_aload_n hx hb d_Mo_put_95 rfl (lv_at hl 3 rfl) ?_
                    refine g_get C0 hK il_Mo hP.1 rfl 7 (by decide) fl_Mo_44 rfl d_Mo_put_96 ?_
                    refine lv_lload_n hx hb d_Mo_put_99 rfl (lv_at hl 4 rfl) ?_
                    refine lv_bipush (v := nI 8) hx hb d_Mo_put_100 (by decide +kernel) ?_
                    refine lv_iload hx hb d_Mo_put_102 (lv_at hl 0 rfl) ?_
                    refine g_imul C0 (z := 8 * v) d_Mo_put_104 rfl ?_
                    refine g_lushr C0 d_Mo_put_105 hw (by omega) ?_
                    refine g_ldc2 (v := lN 255) C0 kl_Mo_163 d_Mo_put_106 ?_
                    refine g_land C0 d_Mo_put_109 ?_
                    refine lv_l2i (v := nI ((w / 2 ^ (8 * v)) % 256)) hx hb d_Mo_put_110 (lB_l2i _) ?_
                    refine lv_i2c (v := (nI ((w / 2 ^ (8 * v)) % 256))) hx hb d_Mo_put_111 (gI_i2c (Nat.lt_trans (Nat.mod_lt _ (by decide)) (by decide))) ?_
                    refine g_cast (free := gRg o (o + 8)) C0 hK hP.2.2.2.2.2.2.2 (by omega) (by omega) (Nat.lt_trans (Nat.mod_lt _ (by decide)) (by decide)) d_Mo_put_112 hL (gRg.mk (by omega) (by omega)) (fun H_7 locs hL hA_8 hc_9 => ?_)
                    refine lv_aload_n hx hb d_Mo_put_113 rfl (lv_at hl 3 rfl) ?_
                    refine lv_dup hx hb d_Mo_put_114 rfl ?_
                    refine g_get C0 hK il_Mo (hP.1.ch hc_9 (by omega)) rfl 7 (by decide) fl_Mo_44 rfl d_Mo_put_115 ?_
                    refine lv_iconst (v := nI 1) hx hb d_Mo_put_118 (by decide +kernel) ?_
                    refine g_iadd C0 (z := ln + t + 1) d_Mo_put_119 rfl ?_
                    refine g_put (free := gRg o (o + 8)) C0 hK il_Mo tk_Mo nm_Mo (hP.1.ch hc_9 (by omega)) rfl 7 (by decide) fl_Mo_44 rfl rfl rfl (Nat.le_of_ble_eq_true rfl) d_Mo_put_120 hL (gRg.mk (by omega) (by omega)) (fun H_10 locs hL hA_11 hc_12 => ?_)
                    have hA_11 : gE G o (eO 6 [.ref (o + 1), .ref (o + 2), .ref (o + 3), .ref (o + 4), .ref (o + 5), .ref (o + 6), .ref (o + 7), .int (nI (ln + t + 1)), .int (nI sts), .int (nI td), .int (nI ac)]) H_10 := hA_11
                    refine lv_iinc (v := (nI v - 1)) (lv' := [(6, .int (nI v - 1)), (4, .long (lN r)), (3, .int (nI n)), (0, .ref o), (1, .long (lN w))]) hx hb d_Mo_put_123 hl (k := 0) rfl (gI_d1 _) (by decide) rfl (fun ls hl => ?_)
                    refine lv_goto (tgt := 86) hx hb d_Mo_put_126 (by decide) ?_
                    exact ih86 v (t + 1) H_10 locs (by omega) (by omega) hL (by rw [ptM_s ev]; exact ⟨hA_11, ((hP.2.1.ch hc_9 (by omega)).ch hc_12 (by omega)), ((hP.2.2.1.ch hc_9 (by omega)).ch hc_12 (by omega)), ((hP.2.2.2.1.ch hc_9 (by omega)).ch hc_12 (by omega)), ((hP.2.2.2.2.1.ch hc_9 (by omega)).ch hc_12 (by omega)), ((hP.2.2.2.2.2.1.ch hc_9 (by omega)).ch hc_12 (by omega)), ((hP.2.2.2.2.2.2.1.ch hc_9 (by omega)).ch hc_12 (by omega)), (hA_8.ch hc_12 (by omega))⟩) ((hF.tr (gFr.ch hc_9 (by omega) (by omega))).tr (gFr.ch hc_12 (by omega) (by omega))) ls (lv_sub hl [0, 1, 2, 3, 4] rfl)
              exact lp86 (n + 1) n 0 s.heap [] (by omega) (Nat.zero_add _) (t_nil (free := gRg o (o + 8))) (⟨hP.1, hP.2.1, hP.2.2.1, hP.2.2.2.1, hP.2.2.2.2.1, hP.2.2.2.2.2.1, hP.2.2.2.2.2.2.1, hP.2.2.2.2.2.2.2⟩) gFr.rf ls (lv_sub hl [0, 1, 2, 3, 4] rfl)
            · skip
              refine lv_bipush (v := -4) hx hb d_Mo_put_78 (by decide +kernel) ?_
              refine g_iret C0 hlk hr d_Mo_put_80 (t_nil (free := gRg o (o + 8))) ?_
              exact ⟨rdI (by rw [mxPut_s hz, mPtn, if_neg c_61, if_pos (by omega)]), (by rw [mxPut_s hz, mPtn, if_neg c_61, if_pos (by omega)]; exact hP), gFr.rf⟩
          · skip
            have c_61 : n = 0 := (nI_eqi (b := 0) (by omega) (by omega)).mp c_61
            refine lv_bipush (v := -2) hx hb d_Mo_put_64 (by decide +kernel) ?_
            refine g_iret C0 hlk hr d_Mo_put_66 (t_nil (free := gRg o (o + 8))) ?_
            exact ⟨rdI (by rw [mxPut_s hz, mPtn, if_pos c_61]), (by rw [mxPut_s hz, mPtn, if_pos c_61]; exact hP), gFr.rf⟩
        · skip
          have c_15 : ¬ r = 0 := mt (lc_eq (b := 0) hr64 (by omega)).mpr c_15
          refine lv_lload hx hb d_Mo_put_18 (lv_at hl 0 rfl) ?_
          refine g_ldc2 (v := lN 255) C0 kl_Mo_163 d_Mo_put_20 ?_
          refine g_land C0 d_Mo_put_23 ?_
          refine lv_lstore (lv' := [(6, .long (lN (r % 256))), (4, .long (lN r)), (3, .int (nI n)), (0, .ref o), (1, .long (lN w))]) hx hb d_Mo_put_24 hl (by decide) rfl (fun ls hl => ?_)
          refine lv_lload hx hb d_Mo_put_26 (lv_at hl 0 rfl) ?_
          refine g_ldc2 (v := lN 33) C0 kl_Mo_165 d_Mo_put_28 ?_
          refine W.lcmp hx hb d_Mo_put_31 ?_
          refine lv_if_lt (tgt := 44) hx hb d_Mo_put_32 (by decide) (fun c_32 => ?_) (fun c_32 => ?_)
          · skip
            have c_32 := (lc_lt (by omega) (by omega)).mp c_32
            refine lv_bipush (v := -2) hx hb d_Mo_put_44 (by decide +kernel) ?_
            refine g_iret C0 hlk hr d_Mo_put_46 (t_nil (free := gRg o (o + 8))) ?_
            exact ⟨rdI (by rw [mxPut_n (by rw [hg, show 8 - n = (8 - (n + 1)) + 1 by omega, pcM_b c_15 (by omega)])]), (by rw [mxPut_n (by rw [hg, show 8 - n = (8 - (n + 1)) + 1 by omega, pcM_b c_15 (by omega)])]; exact hP), gFr.rf⟩
          · skip
            have c_32 : ¬ r % 256 < 33 := mt (lc_lt (by omega) (by omega)).mpr c_32
            refine lv_lload hx hb d_Mo_put_35 (lv_at hl 0 rfl) ?_
            refine g_ldc2 (v := lN 126) C0 kl_Mo_167 d_Mo_put_37 ?_
            refine W.lcmp hx hb d_Mo_put_40 ?_
            refine lv_if_le (tgt := 47) hx hb d_Mo_put_41 (by decide) (fun c_41 => ?_) (fun c_41 => ?_)
            · skip
              have c_41 := (lc_le (by omega) (by omega)).mp c_41
              refine lv_lload hx hb d_Mo_put_47 (lv_at hl 1 rfl) ?_
              refine lv_bipush (v := nI 8) hx hb d_Mo_put_49 (by decide +kernel) ?_
              refine g_lushr C0 d_Mo_put_51 hr64 (by omega) ?_
              refine lv_lstore (lv' := [(4, .long (lN (r / 2 ^ 8))), (6, .long (lN (r % 256))), (3, .int (nI n)), (0, .ref o), (1, .long (lN w))]) hx hb d_Mo_put_52 hl (by decide) rfl (fun ls hl => ?_)
              refine lv_iinc (v := (nI (n + 1))) (lv' := [(3, .int (nI (n + 1))), (4, .long (lN (r / 2 ^ 8))), (6, .long (lN (r % 256))), (0, .ref o), (1, .long (lN w))]) hx hb d_Mo_put_54 hl (k := 2) rfl (gI_inc _) (by decide) rfl (fun ls hl => ?_)
              refine lv_goto (tgt := 5) hx hb d_Mo_put_57 (by decide) ?_
              exact ih5 (r / 2 ^ 8) (n + 1) (by omega) (Nat.lt_of_le_of_lt (Nat.div_le_self _ _) hr64) (by omega) (by rw [hg, show 8 - n = (8 - (n + 1)) + 1 by omega, pcM_s c_15 (by omega)]) ls (lv_sub hl [1, 0, 3, 4] rfl)
            · skip
              have c_41 : ¬ r % 256 ≤ 126 := mt (lc_le (by omega) (by omega)).mpr c_41
              refine lv_bipush (v := -2) hx hb d_Mo_put_44 (by decide +kernel) ?_
              refine g_iret C0 hlk hr d_Mo_put_46 (t_nil (free := gRg o (o + 8))) ?_
              exact ⟨rdI (by rw [mxPut_n (by rw [hg, show 8 - n = (8 - (n + 1)) + 1 by omega, pcM_b c_15 (by omega)])]), (by rw [mxPut_n (by rw [hg, show 8 - n = (8 - (n + 1)) + 1 by omega, pcM_b c_15 (by omega)])]; exact hP), gFr.rf⟩
  exact lp5 ((8 - 0) + 1) w 0 (by omega) hw (by omega) rfl ls (lv_sub hl [0, 1, 2, 3] rfl)

def mS0 : Nat → Nat := va_up (va_up (va_up (fun _ => 0) 0 30) 1 10) 2 3
def inM : MS := (mS0, (fun _ => 0), (fun _ => 0), (fun _ => 0), (fun _ => 0), (fun _ => 0), (fun _ => 0), 0, 0, 0, 0)

set_option maxHeartbeats 4000000 in
set_option maxRecDepth 100000 in
theorem k_Mo_init (l : Launch) (G : gT) (o : Nat) : gM l y_Mo_init c_Mo_init 1 none 1 12 7 5552 G [.ref o] (fun H => H.size = o + 1 ∧ gE G o (eO 6 [.null, .null, .null, .null, .null, .null, .null, .int 0, .int 0, .int 0, .int 0]) H) (wv (fun H H1 => H1.size = o + 8 ∧ MAtX G o inM H1 ∧ gGr o H H1)) (gAb o) := by
  refine g_enter "GaleNamesModel" (by decide +kernel) rfl (Nat.le_of_ble_eq_true rfl) ?_
  intro p e s m args below meth c C0 hlk hr hnm hP hK ls hl
  have hx := C0.1
  have hb := C0.2.1
  have hl : lv_has ls 1 [(0, .ref o)] := hl
  refine lv_aload_n hx hb d_Mo_init_0 rfl (lv_at hl 0 rfl) ?_
  refine g_oi C0 hl.1 ml_Mo_1 d_Mo_init_1 (Nat.le_of_ble_eq_true rfl) (Nat.le_of_ble_eq_true rfl) ?_
  refine lv_aload_n hx hb d_Mo_init_4 rfl (lv_at hl 0 rfl) ?_
  refine lv_sipush (v := nI 541) hx hb d_Mo_init_5 (by decide +kernel) ?_
  refine g_newi C0 hK ac_int (by omega) (Nat.le_of_ble_eq_true rfl) (Nat.le_of_ble_eq_true rfl) d_Mo_init_8 hP.1 (fun H_1 hA_2 hz_3 hq_4 => ?_)
  refine W.widen (k := 1) (n := 541) (by omega) (by omega) ?_
  refine g_putF (free := gAb o) C0 hK il_Mo tk_Mo nm_Mo (hP.2.nw hq_4 (by omega)) rfl 0 (by decide) fl_Mo_7 rfl hnm rfl rfl rfl (Nat.le_of_ble_eq_true rfl) d_Mo_init_10 (t_nil (free := gAb o)) (gAb.mk (by omega)) (fun H_5 locs hL hA_6 hc_7 => ?_)
  have hA_6 : gE G o (eO 6 [.ref (o + 1), .null, .null, .null, .null, .null, .null, .int (nI 0), .int (nI 0), .int (nI 0), .int (nI 0)]) H_5 := hA_6
  refine lv_aload_n hx hb d_Mo_init_13 rfl (lv_at hl 0 rfl) ?_
  refine lv_sipush (v := nI 541) hx hb d_Mo_init_14 (by decide +kernel) ?_
  refine g_newi C0 hK ac_int (by omega) (Nat.le_of_ble_eq_true rfl) (Nat.le_of_ble_eq_true rfl) d_Mo_init_17 (hc_7.1.trans hz_3) (fun H_8 hA_9 hz_10 hq_11 => ?_)
  refine W.widen (k := 2) (n := 1082) (by omega) (by omega) ?_
  refine g_putF (free := gAb o) C0 hK il_Mo tk_Mo nm_Mo (hA_6.nw hq_11 (by omega)) rfl 1 (by decide) fl_Mo_13 rfl hnm rfl rfl rfl (Nat.le_of_ble_eq_true rfl) d_Mo_init_19 hL (gAb.mk (by omega)) (fun H_12 locs hL hA_13 hc_14 => ?_)
  have hA_13 : gE G o (eO 6 [.ref (o + 1), .ref (o + 2), .null, .null, .null, .null, .null, .int (nI 0), .int (nI 0), .int (nI 0), .int (nI 0)]) H_12 := hA_13
  refine lv_aload_n hx hb d_Mo_init_22 rfl (lv_at hl 0 rfl) ?_
  refine lv_sipush (v := nI 3246) hx hb d_Mo_init_23 (by decide +kernel) ?_
  refine g_newi C0 hK ac_int (by omega) (Nat.le_of_ble_eq_true rfl) (Nat.le_of_ble_eq_true rfl) d_Mo_init_26 (hc_14.1.trans hz_10) (fun H_15 hA_16 hz_17 hq_18 => ?_)
  refine W.widen (k := 3) (n := 4328) (by omega) (by omega) ?_
  refine g_putF (free := gAb o) C0 hK il_Mo tk_Mo nm_Mo (hA_13.nw hq_18 (by omega)) rfl 2 (by decide) fl_Mo_16 rfl hnm rfl rfl rfl (Nat.le_of_ble_eq_true rfl) d_Mo_init_28 hL (gAb.mk (by omega)) (fun H_19 locs hL hA_20 hc_21 => ?_)
  have hA_20 : gE G o (eO 6 [.ref (o + 1), .ref (o + 2), .ref (o + 3), .null, .null, .null, .null, .int (nI 0), .int (nI 0), .int (nI 0), .int (nI 0)]) H_19 := hA_20
  refine lv_aload_n hx hb d_Mo_init_31 rfl (lv_at hl 0 rfl) ?_
  refine lv_sipush (v := nI 1082) hx hb d_Mo_init_32 (by decide +kernel) ?_
  refine g_newi C0 hK ac_int (by omega) (Nat.le_of_ble_eq_true rfl) (Nat.le_of_ble_eq_true rfl) d_Mo_init_35 (hc_21.1.trans hz_17) (fun H_22 hA_23 hz_24 hq_25 => ?_)
  refine W.widen (k := 4) (n := 5410) (by omega) (by omega) ?_
  refine g_putF (free := gAb o) C0 hK il_Mo tk_Mo nm_Mo (hA_20.nw hq_25 (by omega)) rfl 3 (by decide) fl_Mo_19 rfl hnm rfl rfl rfl (Nat.le_of_ble_eq_true rfl) d_Mo_init_37 hL (gAb.mk (by omega)) (fun H_26 locs hL hA_27 hc_28 => ?_)
  have hA_27 : gE G o (eO 6 [.ref (o + 1), .ref (o + 2), .ref (o + 3), .ref (o + 4), .null, .null, .null, .int (nI 0), .int (nI 0), .int (nI 0), .int (nI 0)]) H_26 := hA_27
  refine lv_aload_n hx hb d_Mo_init_40 rfl (lv_at hl 0 rfl) ?_
  refine lv_iconst (v := nI 2) hx hb d_Mo_init_41 (by decide +kernel) ?_
  refine g_newz C0 hK ac_boolean (by omega) (Nat.le_of_ble_eq_true rfl) (Nat.le_of_ble_eq_true rfl) d_Mo_init_42 (hc_28.1.trans hz_24) (fun H_29 hA_30 hz_31 hq_32 => ?_)
  refine W.widen (k := 5) (n := 5412) (by omega) (by omega) ?_
  refine g_putF (free := gAb o) C0 hK il_Mo tk_Mo nm_Mo (hA_27.nw hq_32 (by omega)) rfl 4 (by decide) fl_Mo_22 rfl hnm rfl rfl rfl (Nat.le_of_ble_eq_true rfl) d_Mo_init_44 hL (gAb.mk (by omega)) (fun H_33 locs hL hA_34 hc_35 => ?_)
  have hA_34 : gE G o (eO 6 [.ref (o + 1), .ref (o + 2), .ref (o + 3), .ref (o + 4), .ref (o + 5), .null, .null, .int (nI 0), .int (nI 0), .int (nI 0), .int (nI 0)]) H_33 := hA_34
  refine lv_aload_n hx hb d_Mo_init_47 rfl (lv_at hl 0 rfl) ?_
  refine lv_bipush (v := nI 60) hx hb d_Mo_init_48 (by decide +kernel) ?_
  refine g_newi C0 hK ac_int (by omega) (Nat.le_of_ble_eq_true rfl) (Nat.le_of_ble_eq_true rfl) d_Mo_init_50 (hc_35.1.trans hz_31) (fun H_36 hA_37 hz_38 hq_39 => ?_)
  refine W.widen (k := 6) (n := 5472) (by omega) (by omega) ?_
  refine g_putF (free := gAb o) C0 hK il_Mo tk_Mo nm_Mo (hA_34.nw hq_39 (by omega)) rfl 5 (by decide) fl_Mo_26 rfl hnm rfl rfl rfl (Nat.le_of_ble_eq_true rfl) d_Mo_init_52 hL (gAb.mk (by omega)) (fun H_40 locs hL hA_41 hc_42 => ?_)
  have hA_41 : gE G o (eO 6 [.ref (o + 1), .ref (o + 2), .ref (o + 3), .ref (o + 4), .ref (o + 5), .ref (o + 6), .null, .int (nI 0), .int (nI 0), .int (nI 0), .int (nI 0)]) H_40 := hA_41
  refine lv_aload_n hx hb d_Mo_init_55 rfl (lv_at hl 0 rfl) ?_
  refine lv_bipush (v := nI 80) hx hb d_Mo_init_56 (by decide +kernel) ?_
  refine g_newc C0 hK ac_char (by omega) (Nat.le_of_ble_eq_true rfl) (Nat.le_of_ble_eq_true rfl) d_Mo_init_58 (hc_42.1.trans hz_38) (fun H_43 hA_44 hz_45 hq_46 => ?_)
  refine W.widen (k := 7) (n := 5552) (by omega) (by omega) ?_
  refine g_putF (free := gAb o) C0 hK il_Mo tk_Mo nm_Mo (hA_41.nw hq_46 (by omega)) rfl 6 (by decide) fl_Mo_29 rfl hnm rfl rfl rfl (Nat.le_of_ble_eq_true rfl) d_Mo_init_60 hL (gAb.mk (by omega)) (fun H_47 locs hL hA_48 hc_49 => ?_)
  have hA_48 : gE G o (eO 6 [.ref (o + 1), .ref (o + 2), .ref (o + 3), .ref (o + 4), .ref (o + 5), .ref (o + 6), .ref (o + 7), .int (nI 0), .int (nI 0), .int (nI 0), .int (nI 0)]) H_47 := hA_48
  refine lv_aload_n hx hb d_Mo_init_63 rfl (lv_at hl 0 rfl) ?_
  refine g_get C0 hK il_Mo hA_48 rfl 0 (by decide) fl_Mo_7 rfl d_Mo_init_64 ?_
  refine lv_iconst (v := nI 0) hx hb d_Mo_init_67 (by decide +kernel) ?_
  refine lv_bipush (v := nI 30) hx hb d_Mo_init_68 (by decide +kernel) ?_
  refine g_iast (free := gAb o) C0 hK (((((((((((((hA_2.ch hc_7 (by omega)).nw hq_11 (by omega)).ch hc_14 (by omega)).nw hq_18 (by omega)).ch hc_21 (by omega)).nw hq_25 (by omega)).ch hc_28 (by omega)).nw hq_32 (by omega)).ch hc_35 (by omega)).nw hq_39 (by omega)).ch hc_42 (by omega)).nw hq_46 (by omega)).ch hc_49 (by omega)) (by omega) (by omega) d_Mo_init_70 hL (gAb.mk (by omega)) (fun H_50 locs hL hA_51 hc_52 => ?_)
  refine lv_aload_n hx hb d_Mo_init_71 rfl (lv_at hl 0 rfl) ?_
  refine g_get C0 hK il_Mo (hA_48.ch hc_52 (by omega)) rfl 0 (by decide) fl_Mo_7 rfl d_Mo_init_72 ?_
  refine lv_iconst (v := nI 1) hx hb d_Mo_init_75 (by decide +kernel) ?_
  refine lv_bipush (v := nI 10) hx hb d_Mo_init_76 (by decide +kernel) ?_
  refine g_iast (free := gAb o) C0 hK hA_51 (by omega) (by omega) d_Mo_init_78 hL (gAb.mk (by omega)) (fun H_53 locs hL hA_54 hc_55 => ?_)
  refine lv_aload_n hx hb d_Mo_init_79 rfl (lv_at hl 0 rfl) ?_
  refine g_get C0 hK il_Mo ((hA_48.ch hc_52 (by omega)).ch hc_55 (by omega)) rfl 0 (by decide) fl_Mo_7 rfl d_Mo_init_80 ?_
  refine lv_iconst (v := nI 2) hx hb d_Mo_init_83 (by decide +kernel) ?_
  refine lv_iconst (v := nI 3) hx hb d_Mo_init_84 (by decide +kernel) ?_
  refine g_iast (free := gAb o) C0 hK hA_54 (by omega) (by omega) d_Mo_init_85 hL (gAb.mk (by omega)) (fun H_56 locs hL hA_57 hc_58 => ?_)
  refine g_vret C0 hlk hr d_Mo_init_86 hL ?_
  exact ⟨rfl, (hc_58.1.trans (hc_55.1.trans (hc_52.1.trans (hc_49.1.trans hz_45)))), ⟨(((hA_48.ch hc_52 (by omega)).ch hc_55 (by omega)).ch hc_58 (by omega)), hA_57, ((((((((((((((hA_9.ch hc_14 (by omega)).nw hq_18 (by omega)).ch hc_21 (by omega)).nw hq_25 (by omega)).ch hc_28 (by omega)).nw hq_32 (by omega)).ch hc_35 (by omega)).nw hq_39 (by omega)).ch hc_42 (by omega)).nw hq_46 (by omega)).ch hc_49 (by omega)).ch hc_52 (by omega)).ch hc_55 (by omega)).ch hc_58 (by omega)), ((((((((((((hA_16.ch hc_21 (by omega)).nw hq_25 (by omega)).ch hc_28 (by omega)).nw hq_32 (by omega)).ch hc_35 (by omega)).nw hq_39 (by omega)).ch hc_42 (by omega)).nw hq_46 (by omega)).ch hc_49 (by omega)).ch hc_52 (by omega)).ch hc_55 (by omega)).ch hc_58 (by omega)), ((((((((((hA_23.ch hc_28 (by omega)).nw hq_32 (by omega)).ch hc_35 (by omega)).nw hq_39 (by omega)).ch hc_42 (by omega)).nw hq_46 (by omega)).ch hc_49 (by omega)).ch hc_52 (by omega)).ch hc_55 (by omega)).ch hc_58 (by omega)), ((((((((hA_30.ch hc_35 (by omega)).nw hq_39 (by omega)).ch hc_42 (by omega)).nw hq_46 (by omega)).ch hc_49 (by omega)).ch hc_52 (by omega)).ch hc_55 (by omega)).ch hc_58 (by omega)), ((((((hA_37.ch hc_42 (by omega)).nw hq_46 (by omega)).ch hc_49 (by omega)).ch hc_52 (by omega)).ch hc_55 (by omega)).ch hc_58 (by omega)), ((((hA_44.ch hc_49 (by omega)).ch hc_52 (by omega)).ch hc_55 (by omega)).ch hc_58 (by omega))⟩, (((((((((((((((((gGr.rf.tr (gGr.nw hz_3 hP.1 hq_4 (by omega))).tr (gGr.ch hc_7 (by omega))).tr (gGr.nw hz_10 (hc_7.1.trans hz_3) hq_11 (by omega))).tr (gGr.ch hc_14 (by omega))).tr (gGr.nw hz_17 (hc_14.1.trans hz_10) hq_18 (by omega))).tr (gGr.ch hc_21 (by omega))).tr (gGr.nw hz_24 (hc_21.1.trans hz_17) hq_25 (by omega))).tr (gGr.ch hc_28 (by omega))).tr (gGr.nw hz_31 (hc_28.1.trans hz_24) hq_32 (by omega))).tr (gGr.ch hc_35 (by omega))).tr (gGr.nw hz_38 (hc_35.1.trans hz_31) hq_39 (by omega))).tr (gGr.ch hc_42 (by omega))).tr (gGr.nw hz_45 (hc_42.1.trans hz_38) hq_46 (by omega))).tr (gGr.ch hc_49 (by omega))).tr (gGr.ch hc_52 (by omega))).tr (gGr.ch hc_55 (by omega))).tr (gGr.ch hc_58 (by omega)))⟩
