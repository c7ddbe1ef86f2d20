/-! longs by their numbers below 2 ^ 64 -/
theorem lB_nat {n : Nat} (h : n < 2 ^ 64) : (lN n).toBitVec.toNat = n := by show (BitVec.ofNat 64 n).toNat = n; simp; omega
theorem lB_sur (x : Int64) : ∃ w, w < 2 ^ 64 ∧ x = lN w := ⟨x.toBitVec.toNat, x.toBitVec.isLt, by
  apply Int64.toBitVec_inj.mp
  apply BitVec.eq_of_toNat_eq
  rw [lB_nat x.toBitVec.isLt]⟩
theorem lB_and255 (a : Nat) : lN a &&& lN 255 = lN (a % 256) := by
  apply Int64.toBitVec_inj.mp
  show BitVec.ofNat 64 a &&& BitVec.ofNat 64 255 = BitVec.ofNat 64 (a % 256)
  apply BitVec.eq_of_toNat_eq
  rw [BitVec.toNat_and, BitVec.toNat_ofNat, BitVec.toNat_ofNat, BitVec.toNat_ofNat]
  rw [show (255 : Nat) % 2 ^ 64 = 2 ^ 8 - 1 by decide, Nat.and_two_pow_sub_one_eq_mod]
  omega
theorem lB_inj {a b : Nat} (ha : a < 2 ^ 64) (hb : b < 2 ^ 64) (h : lN a = lN b) : a = b := by
  have := congrArg (fun z => z.toBitVec.toNat) h
  simpa [lB_nat ha, lB_nat hb] using this
theorem lB_ushr {a : Nat} (ha : a < 2 ^ 64) {y : Nat} (hy : y < 64) : ((lN a).toUInt64 >>> ((nI y).toInt64.toUInt64 &&& Int64.toUInt64 63)).toInt64 = lN (a / 2 ^ y) := by
  apply Int64.toBitVec_inj.mp
  apply BitVec.eq_of_toNat_eq
  have hm : ∀ z : Nat, z < 64 → (((nI z).toInt64.toUInt64 &&& Int64.toUInt64 63).toBitVec % 64).toNat = z := by decide +kernel
  have hd : a / 2 ^ y < 2 ^ 64 := Nat.lt_of_le_of_lt (Nat.div_le_self _ _) ha
  rw [lB_nat hd]
  show ((lN a).toBitVec >>> (((nI y).toInt64.toUInt64 &&& Int64.toUInt64 63).toBitVec % 64)).toNat = _
  rw [BitVec.ushiftRight_eq', BitVec.toNat_ushiftRight, hm y hy, lB_nat ha, Nat.shiftRight_eq_div_pow]
theorem lB_l2i (a : Nat) : (lN a).toInt32 = nI a := by
  apply Int32.toBitVec_inj.mp
  show (BitVec.ofNat 64 a).signExtend 32 = BitVec.ofNat 32 a
  apply BitVec.eq_of_toNat_eq
  rw [BitVec.signExtend_eq_setWidth_of_le _ (by decide)]
  simp
theorem lc_eq {a b : Nat} (ha : a < 2 ^ 64) (hb : b < 2 ^ 64) : lg_cmp (lN a) (lN b) = 0 ↔ a = b := by
  unfold lg_cmp
  constructor
  · intro h
    split at h
    · exact absurd h (by decide)
    · split at h
      · rename_i q; exact lB_inj ha hb q
      · exact absurd h (by decide)
  · intro h
    subst h
    rw [if_neg (by show ¬ lN a < lN a; rw [Int64.lt_iff_toInt_lt]; omega), if_pos rfl]
theorem lB_toInt {n : Nat} (h : n < 2 ^ 63) : (lN n).toInt = (n : Int) := lg_ofNat_toInt h
theorem lc_lt {a b : Nat} (ha : a < 2 ^ 63) (hb : b < 2 ^ 63) : lg_cmp (lN a) (lN b) < 0 ↔ a < b := by
  have e1 : lN a < lN b ↔ a < b := by rw [Int64.lt_iff_toInt_lt, lB_toInt ha, lB_toInt hb]; omega
  have e2 : lN b < lN a ↔ b < a := by rw [Int64.lt_iff_toInt_lt, lB_toInt ha, lB_toInt hb]; omega
  unfold lg_cmp
  by_cases q : b < a
  · rw [if_pos (show lN a > lN b from e2.mpr q)]
    exact ⟨fun h => absurd h (by decide), fun h => absurd h (by omega)⟩
  · rw [if_neg (show ¬ lN a > lN b from fun h => q (e2.mp h))]
    by_cases q2 : a = b
    · subst q2; rw [if_pos rfl]
      exact ⟨fun h => absurd h (by decide), fun h => absurd h (by omega)⟩
    · rw [if_neg (fun h => q2 (lB_inj (by omega) (by omega) h))]
      exact ⟨fun _ => by omega, fun _ => by decide⟩
theorem lc_le {a b : Nat} (ha : a < 2 ^ 63) (hb : b < 2 ^ 63) : lg_cmp (lN a) (lN b) ≤ 0 ↔ a ≤ b := by
  have e2 : lN b < lN a ↔ b < a := by rw [Int64.lt_iff_toInt_lt, lB_toInt ha, lB_toInt hb]; omega
  unfold lg_cmp
  by_cases q : b < a
  · rw [if_pos (show lN a > lN b from e2.mpr q)]
    exact ⟨fun h => absurd h (by decide), fun h => absurd h (by omega)⟩
  · rw [if_neg (show ¬ lN a > lN b from fun h => q (e2.mp h))]
    refine ⟨fun _ => by omega, fun _ => ?_⟩
    split <;> decide
theorem gI_s1 (a : Nat) : nI (a + 1) - 1 = nI a := by
  rw [show (1 : Int32) = nI 1 from rfl, gI_sub (by omega)]; rfl
theorem gI_d1 (x : Int32) : x + Int32.ofInt (-1) = x - 1 := by
  rw [show Int32.ofInt (-1) = -1 by decide, Int32.sub_eq_add_neg]
theorem gI_and255 (a : Nat) : nI a &&& nI 255 = nI (a % 256) := by
  rw [gI_and, show (255 : Nat) = 2 ^ 8 - 1 from rfl, Nat.and_two_pow_sub_one_eq_mod]
theorem gI_neg1 : (nI 0 - 1 : Int32) < 0 := by decide
theorem pow_8 {n t u : Nat} (h : t + (u + 1) = n) : 2 ^ (8 * u) = 256 ^ (n - 1 - t) := by
  rw [show n - 1 - t = u by omega, show (256 : Nat) = 2 ^ 8 from rfl, ← Nat.pow_mul]
theorem sgC_le : ∀ f r s, sgC f r s ≤ s + f
  | 0, r, s => by unfold sgC; split <;> omega
  | f + 1, r, s => by
    unfold sgC
    have := sgC_le f (r / 256) (s + 1)
    split
    · split <;> omega
    · split <;> omega
theorem sgC_0 {r s : Nat} : sgC 0 r s = if r = 0 then s else 0 := rfl
theorem sgC_z {f r s : Nat} (h : r % 256 = 0) : sgC (f + 1) r s = if r = 0 then s else 0 := if_pos h
theorem sgC_b {f r s : Nat} (h : ¬ r % 256 = 0) (h2 : r % 256 < 33 ∨ 126 < r % 256) : sgC (f + 1) r s = 0 := (if_neg h).trans (if_pos h2)
theorem sgC_s {f r s : Nat} (h : ¬ r % 256 = 0) (h2 : ¬ (r % 256 < 33 ∨ 126 < r % 256)) : sgC (f + 1) r s = sgC f (r / 256) (s + 1) := (if_neg h).trans (if_neg h2)
section GL
variable {p : Program} {l : Launch} {e : Env} {R : Room} {s : State} {m : MethodId} {args : Array Value} {below : List Frame} {meth : Method} {c : Code} {H : Heap} {locs : List Loc} {cells slots : Nat} {Q : State → Prop}
variable {cc : ByteArray} {nL : Nat} {own : String} {pc : Nat} {ls : Array Slot} {rest : List Value}
theorem g_ldc2 (C0 : CallFix p m c cc nL s args lw_g own) {index : Nat} {v : Int64} (hc : Cond.constantLong own index v ∈ lw_g) (hdg : decode cc pc = .ok (.ldc2_w index, 3)) (kk : W p l e R s m args below meth c H locs cells slots Q (F0 m (pc + 3) ls (.long v :: rest))) : W p l e R s m args below meth c H locs cells slots Q (F0 m pc ls rest) :=
  W.ldc2 C0.1 C0.2.1 C0.2.2.2.1 (C0.2.2.2.2 _ hc) rfl hdg kk
theorem g_land (C0 : CallFix p m c cc nL s args lw_g own) {r : Nat} (hdg : decode cc pc = .ok (.land, 1)) (kk : W p l e R s m args below meth c H locs cells slots Q (F0 m (pc + 1) ls (.long (lN (r % 256)) :: rest))) : W p l e R s m args below meth c H locs cells slots Q (F0 m pc ls (.long (lN 255) :: .long (lN r) :: rest)) :=
  lv_land C0.1 C0.2.1 hdg (by rw [lB_and255]; exact kk)
theorem g_lushr (C0 : CallFix p m c cc nL s args lw_g own) {r y : Nat} (hdg : decode cc pc = .ok (.lushr, 1)) (hr : r < 2 ^ 64) (hy : y < 64) (kk : W p l e R s m args below meth c H locs cells slots Q (F0 m (pc + 1) ls (.long (lN (r / 2 ^ y)) :: rest))) : W p l e R s m args below meth c H locs cells slots Q (F0 m pc ls (.int (nI y) :: .long (lN r) :: rest)) :=
  lv_lushr C0.1 C0.2.1 hdg (lB_ushr hr hy) kk
theorem g_iand255 (C0 : CallFix p m c cc nL s args lw_g own) {x : Nat} (hdg : decode cc pc = .ok (.iand, 1)) (kk : W p l e R s m args below meth c H locs cells slots Q (F0 m (pc + 1) ls (.int (nI (x % 256)) :: rest))) : W p l e R s m args below meth c H locs cells slots Q (F0 m pc ls (.int (nI 255) :: .int (nI x) :: rest)) :=
  lv_iand C0.1 C0.2.1 hdg (by rw [gI_and255]; exact kk)
end GL
