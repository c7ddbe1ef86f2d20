/-! what the reference's reading keeps -/
theorem rn_ok {pd : Nat → Nat} {ln a t : Nat} {r : Nat → Nat} (hln : ln ≤ 80) (ha : a ≤ ln) (hr : ∀ w, w < t → r (2 * w) + r (2 * w + 1) ≤ 80 ∧ r (2 * w + 1) ≤ 6) : ∀ w, w < t + (if 1 < wEnd pd ln a - a then 1 else 0) → rUp r t a (wEnd pd ln a) (2 * w) + rUp r t a (wEnd pd ln a) (2 * w + 1) ≤ 80 ∧ rUp r t a (wEnd pd ln a) (2 * w + 1) ≤ 6 := by
  intro w hw
  have h1 := wEnd_le (pd := pd) ha
  have h2 := wEnd_ge pd ln a
  have h3 : wEnd pd ln a ≤ a + 6 := Nat.add_le_add_left (pfx_le _ _) _
  rcases Nat.lt_or_ge w t with q | q
  · have h4 := hr w q
    unfold rUp
    rw [vu_n (by omega), vu_n (by omega), vu_n (by omega), vu_n (by omega)]
    exact h4
  · have e : w = t := by split at hw <;> omega
    subst e
    unfold rUp
    rw [vu_n (by omega), vu_s, vu_s]
    omega
def zFOk (ln : Nat) (q : Nat × Nat × (Nat → Nat) × Bool) : Prop := q.1 ≤ ln ∧ 3 * q.2.1 ≤ q.1 + 1 ∧ (∀ w, w < q.2.1 → q.2.2.1 (2 * w) + q.2.2.1 (2 * w + 1) ≤ 80 ∧ q.2.2.1 (2 * w + 1) ≤ 6) ∧ (q.2.2.2 = true → 1 ≤ q.2.1)
theorem fQ_ok {pd : Nat → Nat} {ln : Nat} (hln : ln ≤ 80) : ∀ {u a t : Nat} {r : Nat → Nat} {b : Bool}, zFOk ln (a, t, r, b) → zFOk ln (fQ pd ln u a t r b)
  | 0, _, _, _, _, h => h
  | u + 1, a, t, r, b, h => by
    unfold fQ
    split
    · rename_i hb
      split
      · refine fQ_ok hln ?_
        have h1 : a + 1 ≤ ln := hb.2
        have h2 := wEnd_ge pd ln (a + 1)
        have h3 : 3 * t ≤ a + 1 := h.2.1
        refine ⟨wEnd_le h1, ?_, rn_ok hln h1 h.2.2.1, fun hd => ?_⟩
        · show 3 * (t + (if 1 < wEnd pd ln (a + 1) - (a + 1) then 1 else 0)) ≤ wEnd pd ln (a + 1) + 1
          split <;> omega
        · show 1 ≤ t + (if 1 < wEnd pd ln (a + 1) - (a + 1) then 1 else 0)
          rw [if_pos (of_decide_eq_true hd)]
          omega
      · exact ⟨h.1, h.2.1, h.2.2.1, fun q => absurd q Bool.false_ne_true⟩
    · exact h
theorem mFq_ok {pd : Nat → Nat} {ln : Nat} {rr : Nat → Nat} (hln : ln ≤ 80) : zFOk ln (mFq pd ln rr) := by
  unfold mFq
  refine fQ_ok hln ?_
  have h2 := wEnd_ge pd ln 0
  refine ⟨wEnd_le (Nat.zero_le _), ?_, rn_ok (t := 0) hln (Nat.zero_le _) (fun w hw => absurd hw (Nat.not_lt_zero _)), fun hd => ?_⟩
  · show 3 * (0 + (if 1 < wEnd pd ln 0 - 0 then 1 else 0)) ≤ wEnd pd ln 0 + 1
    split <;> omega
  · show 1 ≤ 0 + (if 1 < wEnd pd ln 0 - 0 then 1 else 0)
    rw [if_pos (of_decide_eq_true hd)]
    omega
theorem mFq_rOk {pd : Nat → Nat} {ln : Nat} {rr : Nat → Nat} (hln : ln ≤ 80) (hpd : ∀ k, k < 80 → pd k < 2 ^ 16) : rOk (mFq pd ln rr).2.2.1 pd (mFq pd ln rr).2.1 := by
  have h := mFq_ok (pd := pd) (rr := rr) hln
  refine ⟨?_, h.2.2.1, hpd⟩
  have h1 := h.1
  have h2 := h.2.1
  omega
theorem mFo_neg {pd : Nat → Nat} {ln : Nat} {rr : Nat → Nat} (hln : ln ≤ 80) (h : ¬ 0 ≤ mFo (mFq pd ln rr)) : 1 ≤ (mFq pd ln rr).2.1 := by
  have hk := mFq_ok (pd := pd) (rr := rr) hln
  cases hb : (mFq pd ln rr).2.2.2 with
  | true => exact hk.2.2.2 hb
  | false =>
    exfalso
    apply h
    unfold mFo
    rw [hb, if_neg Bool.false_ne_true]
    rw [Int32.le_iff_toInt_le, nI_toInt (by have := hk.1; omega)]
    exact Int.natCast_nonneg _
