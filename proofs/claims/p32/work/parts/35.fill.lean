/-! a list filled; the end of a year -/
section
variable {t : Nat} {Y Z : ST}
theorem cN_mono (p : Nat → Bool) {i : Nat} : ∀ {j : Nat}, i ≤ j → cN p i ≤ cN p j
  | 0, h => by rw [show i = 0 by omega]; exact Nat.le_refl _
  | j + 1, h => by
    rcases Nat.lt_or_ge j i with q | q
    · rw [show i = j + 1 by omega]; exact Nat.le_refl _
    · have := cN_mono p q
      rw [cN_s]; omega
theorem mJ_all {T : Rw} {c k : Nat} (h : mJ Y T c k = true) : ∀ i, i < T.1 → tkn Y (T.2 i) c = false ∧ ∀ j, j < i → T.2 i ≠ T.2 j := by
  unfold mJ at h
  have h0 : aN (fun i => tkn Y (T.2 i) c || alL Y (T.2 i) k || mJ1 Y T i) T.1 = false := by
    cases e : aN (fun i => tkn Y (T.2 i) c || alL Y (T.2 i) k || mJ1 Y T i) T.1 with
    | false => rfl
    | true => rw [e] at h; cases h
  intro i hi
  have h1 := aN_f.mp h0 i hi
  simp only [Bool.or_eq_false_iff] at h1
  refine ⟨h1.1.1, fun j hj e => ?_⟩
  have h2 := aN_f.mp h1.2 j hj
  simp [e] at h2
theorem fil_ok {T : Rw} {c k : Nat} (h : IY t Y) (hc : c < 2) (hk : k < 3) (hT : ∀ i, i < T.1 → kK (T.2 i)) (hm : mJ Y T c (5 + lix c k) = true) (h8 : (Y.2 (5 + lix c k)).1 + T.1 ≤ 8) (h40 : knW Y T ≤ 40) : ∀ i, i ≤ T.1 →
    IY t (flS Y T (lix c k) i) ∧ ((flS Y T (lix c k) i).2 (5 + lix c k)).1 = (Y.2 (5 + lix c k)).1 + i ∧ (Y.2 1).1 ≤ ((flS Y T (lix c k) i).2 1).1 ∧ ((flS Y T (lix c k) i).2 1).1 ≤ (Y.2 1).1 + cN (fun i => !(rPl (Y.2 1) (T.2 i)).isSome) i ∧ (∀ n, n < (Y.2 1).1 → ((flS Y T (lix c k) i).2 1).2 n = (Y.2 1).2 n) ∧
    ∀ j, i ≤ j → j < T.1 → ∀ v, v < ((flS Y T (lix c k) i).2 1).1 → ((flS Y T (lix c k) i).2 1).2 v = T.2 j → ((flS Y T (lix c k) i).2 2).2 v = 0 ∧ ∀ b, b < 6 → b / 3 = c → ∀ q, q < ((flS Y T (lix c k) i).2 (5 + b)).1 → ((flS Y T (lix c k) i).2 (5 + b)).2 q ≠ v := by
  have hall := mJ_all hm
  have hax := lix_lt hc hk
  intro i
  induction i with
  | zero =>
    intro _
    refine ⟨h, rfl, Nat.le_refl _, Nat.le_refl _, fun _ _ => rfl, fun j _ hj v hv hkv => ?_⟩
    change v < (Y.2 1).1 at hv
    change (Y.2 1).2 v = T.2 j at hkv
    have ht := (hall j hj).1
    have hp := h.2.1.at hv
    rw [hkv] at hp
    rw [tkn_s hp, Bool.or_eq_false_iff] at ht
    have hf := h.2.1.2.2.2.2 v hv
    rw [rA_in (by rw [h.2.1.2.1 2 (by decide) (by decide)]; exact hv)] at ht
    have h1 : (Y.2 2).2 v ≠ 1 := by simpa using ht.1
    refine ⟨by show (Y.2 2).2 v = 0; omega, fun b hb hbc q hq e => ?_⟩
    have h2 := stO_f.mp ht.2 (b % 3) q (Nat.mod_lt _ (by decide))
    have hbe : lix c (b % 3) = b := by rw [← hbc]; exact lix_of.symm
    rw [show Lst Y c (b % 3) = Y.2 (5 + b) by unfold Lst; rw [hbe]] at h2
    exact h2 hq e
  | succ i ih =>
    intro hi
    obtain ⟨a1, a2, a3, a4, a5, a6⟩ := ih (by omega)
    generalize hW : flS Y T (lix c k) i = W at a1 a2 a3 a4 a5 a6
    have e0 : flS Y T (lix c k) (i + 1) = ((lrn W (T.2 i)).1, va_up (lrn W (T.2 i)).2 (5 + lix c k) (rAdd 8 ((lrn W (T.2 i)).2 (5 + lix c k)) (lrnN W (T.2 i)))) := by rw [← hW]; rfl
    have hnone : rPl (W.2 1) (T.2 i) = none → rPl (Y.2 1) (T.2 i) = none := fun e => fF_none (fun j hj => by
      have := rPl_n e j (by omega)
      rw [a5 j hj] at this
      simpa using this)
    have hmo : cN (fun i => !(rPl (Y.2 1) (T.2 i)).isSome) (i + 1) ≤ cN (fun i => !(rPl (Y.2 1) (T.2 i)).isSome) T.1 := cN_mono _ hi
    have hkn : (Y.2 1).1 + cN (fun i => !(rPl (Y.2 1) (T.2 i)).isSome) T.1 ≤ 40 := h40
    have hstep : rPl (W.2 1) (T.2 i) = none → cN (fun i => !(rPl (Y.2 1) (T.2 i)).isSome) (i + 1) = cN (fun i => !(rPl (Y.2 1) (T.2 i)).isSome) i + 1 := fun e => by
      rw [cN_s, hnone e]; rfl
    obtain ⟨b1, b2, b3, b4, b5, b6, b7, b8⟩ := a1.learn (hT i hi) (fun e => by have := hstep e; omega)
    have hol : ∀ b, b < 6 → (lrn W (T.2 i)).2 (5 + b) = W.2 (5 + b) := fun b _ => b4 (5 + b) (by omega)
    have hw : ((lrn W (T.2 i)).2 2).2 (lrnN W (T.2 i)) = 0 ∧ ∀ b, b < 6 → b / 3 = c → ∀ q, q < (W.2 (5 + b)).1 → (W.2 (5 + b)).2 q ≠ lrnN W (T.2 i) := by
      cases e : rPl (W.2 1) (T.2 i) with
      | some v =>
        obtain ⟨c1, c2⟩ := lrn_s e
        obtain ⟨c3, c4⟩ := rPl_s e
        rw [c1, c2]
        exact a6 i (Nat.le_refl i) hi v c3 c4
      | none =>
        obtain ⟨c1, c2⟩ := b8 e
        refine ⟨c1, fun b hb _ q hq e2 => ?_⟩
        have := ((a1.2.2.1 b hb).2 q hq).1
        omega
    have hd : (lix c k) / 3 = c := (lix_d hc hk).1
    have hadd := b1.addl (a := lix c k) (v := lrnN W (T.2 i)) hax b2 (by rw [hol _ hax]; omega) hw.1 (fun b hb hbc q hq => by
      rw [hol b hb] at hq ⊢
      exact hw.2 b hb (by omega) q hq)
    have n1 : (flS Y T (lix c k) (i + 1)).2 1 = (lrn W (T.2 i)).2 1 := by rw [e0]; exact vuN (by omega)
    have n2 : (flS Y T (lix c k) (i + 1)).2 2 = (lrn W (T.2 i)).2 2 := by rw [e0]; exact vuN (by omega)
    have na : (flS Y T (lix c k) (i + 1)).2 (5 + lix c k) = ((W.2 (5 + lix c k)).1 + 1, va_up (W.2 (5 + lix c k)).2 (W.2 (5 + lix c k)).1 (lrnN W (T.2 i))) := by
      rw [e0]; show va_up _ (5 + lix c k) _ (5 + lix c k) = _
      rw [vuS, hol _ hax, rAdd_in (by omega)]
    have no : ∀ b, b < 6 → b ≠ lix c k → (flS Y T (lix c k) (i + 1)).2 (5 + b) = W.2 (5 + b) := fun b hb hne => by
      rw [e0]; show va_up _ (5 + lix c k) _ (5 + b) = _
      rw [vuN (by omega), hol b hb]
    refine ⟨by rw [e0]; exact hadd, by rw [na]; show (W.2 (5 + lix c k)).1 + 1 = _; omega, by rw [n1]; omega, ?_, fun n hn => ?_, fun j hij hj v hv hkv => ?_⟩
    · rw [n1, b6]
      cases e : rPl (W.2 1) (T.2 i) with
      | some v =>
        have := cN_mono (fun i => !(rPl (Y.2 1) (T.2 i)).isSome) (show i ≤ i + 1 by omega)
        show (W.2 1).1 + 0 ≤ _; omega
      | none =>
        have := hstep e
        show (W.2 1).1 + 1 ≤ _; omega
    · rw [n1, (b7 n (by omega)).1]; exact a5 n hn
    · rw [n1] at hv hkv
      have hne : v ≠ lrnN W (T.2 i) := fun e => by
        rw [e, b3] at hkv
        exact (hall j hj).2 i (by omega) hkv.symm
      have hvW : v < (W.2 1).1 := by
        cases e : rPl (W.2 1) (T.2 i) with
        | some u => rw [b6, e] at hv; exact hv
        | none =>
          have q := (b8 e).2
          rw [b6, e] at hv b2
          change v < (W.2 1).1 + 1 at hv
          change _ < (W.2 1).1 + 1 at b2
          omega
      obtain ⟨c1, c2⟩ := b7 v hvW
      obtain ⟨d1, d2⟩ := a6 j (by omega) hj v hvW (by rw [← c1]; exact hkv)
      refine ⟨by rw [n2, c2]; exact d1, fun b hb hbc q hq => ?_⟩
      by_cases e : b = lix c k
      · subst e
        rw [na] at hq ⊢
        change q < (W.2 (5 + lix c k)).1 + 1 at hq
        show va_up (W.2 (5 + lix c k)).2 (W.2 (5 + lix c k)).1 (lrnN W (T.2 i)) q ≠ v
        by_cases z : q = (W.2 (5 + lix c k)).1
        · rw [z, vuS]; exact fun z => hne z.symm
        · rw [vuN z]; exact d2 _ hb hbc q (by omega)
      · rw [no b hb e] at hq ⊢
        exact d2 b hb hbc q hq
/-! the end of a year -/
def IW (t : Nat) (Y : ST) : Prop := jC Y ∧ jN Y ∧ jL Y ∧ jU Y ∧ jK Y ∧ jB t Y
theorem owR_le (Y : ST) : ∀ i, (owR Y i).1 = (Y.2 15).1 ∧ (∀ j, i ≤ j → (owR Y i).2 j = (Y.2 15).2 j) ∧ ∀ j, (owR Y i).2 j ≤ (Y.2 15).2 j + 1
  | 0 => ⟨rfl, fun _ _ => rfl, fun _ => Nat.le_succ _⟩
  | i + 1 => by
    obtain ⟨a, b, c⟩ := owR_le Y i
    show (if rA (Y.2 0) 1 ≤ hrY Y ((Y.2 14).2 i) then rCh (owR Y i) i (rA (owR Y i) i + 1) else owR Y i).1 = _ ∧ (∀ j, i + 1 ≤ j → (if rA (Y.2 0) 1 ≤ hrY Y ((Y.2 14).2 i) then rCh (owR Y i) i (rA (owR Y i) i + 1) else owR Y i).2 j = _) ∧ ∀ j, (if rA (Y.2 0) 1 ≤ hrY Y ((Y.2 14).2 i) then rCh (owR Y i) i (rA (owR Y i) i + 1) else owR Y i).2 j ≤ _
    split
    · unfold rCh
      split
      · rename_i q
        refine ⟨a, fun j hj => ?_, fun j => ?_⟩
        · show va_up _ i _ j = _
          rw [vuN (by omega)]; exact b j (by omega)
        · show va_up _ i _ j ≤ _
          by_cases e : j = i
          · subst e; rw [vuS, rA_in q, b j (Nat.le_refl j)]; exact Nat.le_refl _
          · rw [vuN e]; exact c j
      · exact ⟨a, fun j hj => b j (by omega), c⟩
    · exact ⟨a, fun j hj => b j (by omega), c⟩
theorem IY.ow {K : Nat} (h : IY t Y) : IY (t + 1) (owS Y K) := by
  obtain ⟨hC, hN, hL, hU, hG, hK, hB⟩ := h
  obtain ⟨o1, o2, o3⟩ := owR_le Y K
  have n : ∀ k, k ≠ 15 → (owS Y K).2 k = Y.2 k := fun k hk => vuN hk
  have d : (owS Y K).2 15 = owR Y K := by show va_up Y.2 15 (owR Y K) 15 = _; exact vuS
  refine ⟨hC.cg (n 0 (by omega)), hN.cg (n 1 (by omega)) (n 2 (by omega)) (by rw [n 3 (by omega)]) (by rw [n 4 (by omega)]), hL.cg (fun a _ => n _ (by omega)) (Nat.le_of_eq (by rw [n 1 (by omega)])) (fun m _ => by rw [n 2 (by omega)]), hU.cg (fun a _ => n _ (by omega)), hG.cg (n 11 (by omega)) (n 12 (by omega)) (by rw [n 13 (by omega)]) (Nat.le_of_eq (by rw [n 1 (by omega)])) (fun m _ => by rw [n 2 (by omega)]), hK.cg (n 14 (by omega)) (by rw [d]; exact o1) (by rw [n 16 (by omega)]) (Nat.le_of_eq (by rw [n 1 (by omega)])), hB.up (Nat.le_succ t) (Nat.le_trans hB.1 (Nat.le_succ t)) (fun k hk h1 => ?_)⟩
  by_cases e : k = 15
  · subst e; right; rw [d]
    intro j hj
    rw [o1] at hj
    have := hB.2 15 (by decide) (by decide) j hj
    have := o3 j
    omega
  · left; exact n k e
/-- a name is taken off a list: what is left stood on it, elsewhere -/
theorem rmv_ok {L : Rw} {v : Nat} (h8 : L.1 ≤ 8) (hu : ∀ i j, i < L.1 → j < L.1 → L.2 i = L.2 j → i = j) : (rmv L v).1 ≤ L.1 ∧ ∃ φ : Nat → Nat, (∀ j, j < (rmv L v).1 → φ j < L.1 ∧ (rmv L v).2 j = L.2 (φ j) ∧ L.2 (φ j) ≠ v) ∧ ∀ i j, i < (rmv L v).1 → j < (rmv L v).1 → φ i = φ j → i = j := by
  unfold rmv
  cases e : rPl L v with
  | none =>
    rw [show rDx L (oI (-1) none) = L from rDx_m (by decide)]
    exact ⟨Nat.le_refl _, id, fun j hj => ⟨hj, rfl, rPl_n e j hj⟩, fun _ _ _ _ z => z⟩
  | some p =>
    obtain ⟨hp, hv⟩ := rPl_s e
    rw [show rDx L (oI (-1) (some p)) = rDrop L p from rDx_n (by omega)]
    obtain ⟨e1, -⟩ := rDrop_e2 hp
    refine ⟨by rw [e1]; omega, fun j => if p ≤ j then j + 1 else j, fun j hj => ?_, fun i j hi hj z => ?_⟩
    · rw [e1] at hj
      obtain ⟨i, hi, hne, e2, e3⟩ := rDrop_from hp hj
      show (if p ≤ j then j + 1 else j) < _ ∧ _ = L.2 (if p ≤ j then j + 1 else j) ∧ L.2 (if p ≤ j then j + 1 else j) ≠ v
      rw [← e3]
      exact ⟨hi, e2, fun z => hne (hu i p hi hp (z.trans hv.symm))⟩
    · change (if p ≤ i then i + 1 else i) = (if p ≤ j then j + 1 else j) at z
      split at z <;> split at z <;> omega
theorem rt_l {v a : Nat} (ha : a < 6) : (rtS Y v).2 (5 + a) = rmv (Y.2 (5 + a)) v := by
  show (if 5 + a = 2 then _ else if 5 ≤ 5 + a ∧ 5 + a < 5 + 6 then rmv (Y.2 (5 + a)) v else _) = _
  rw [if_neg (by omega), if_pos (by omega)]
theorem rt_2 {v : Nat} : (rtS Y v).2 2 = rCh (Y.2 2) v 1 := rfl
theorem IW.rt {v : Nat} (h : IW t Y) (hv : v < (Y.2 1).1) : IW t (rtS Y v) := by
  obtain ⟨hC, hN, hL, hU, hK, hB⟩ := h
  have n2 := hN.2.1 2 (by decide) (by decide)
  have n : ∀ k, k ≠ 2 → (k < 5 ∨ 11 ≤ k) → (rtS Y v).2 k = Y.2 k := fun k a b => rtS_o a b
  have d2 : (rtS Y v).2 2 = ((Y.2 2).1, va_up (Y.2 2).2 v 1) := by rw [rt_2, rCh_in (by omega)]
  have hl : ∀ a, a < 6 → _ := fun a ha => rmv_ok (v := v) (hL a ha).1 (fun i j hi hj e => (hU a a ha ha rfl i j hi hj e).2)
  have n1 := n 1 (by omega) (by omega)
  refine ⟨hC.cg (n 0 (by omega) (by omega)), ?_, fun a ha => ?_, fun a b ha hb hab i j hi hj e => ?_, hK.cg (n 14 (by omega) (by omega)) (by rw [n 15 (by omega) (by omega)]) (by rw [n 16 (by omega) (by omega)]) (Nat.le_of_eq (by rw [n1])), hB.up (Nat.le_refl t) hB.1 (fun k hk h1 => ?_)⟩
  · obtain ⟨a, b, c, d, f⟩ := hN
    unfold jN
    rw [n1]
    refine ⟨a, fun k k1 k2 => ?_, c, d, fun m hm => ?_⟩
    · by_cases e : k = 2
      · subst e; rw [d2]; exact n2
      · rw [n k e (by omega)]; exact b k k1 k2
    · rw [d2]; show va_up (Y.2 2).2 v 1 m ≤ 1
      by_cases e : m = v
      · rw [e, vuS]; exact Nat.le_refl 1
      · rw [vuN e]; exact f m hm
  · obtain ⟨q1, φ, q2, q3⟩ := hl a ha
    rw [rt_l ha, n1, d2]
    refine ⟨Nat.le_trans q1 (hL a ha).1, fun j hj => ?_⟩
    obtain ⟨p1, p2, p3⟩ := q2 j hj
    obtain ⟨r1, r2⟩ := (hL a ha).2 (φ j) p1
    rw [p2]
    exact ⟨r1, by show va_up (Y.2 2).2 v 1 _ = 0; rw [vuN p3]; exact r2⟩
  · rw [rt_l ha] at hi e
    rw [rt_l hb] at hj e
    obtain ⟨q1, φ, q2, q3⟩ := hl a ha
    obtain ⟨p1, ψ, p2, p3⟩ := hl b hb
    obtain ⟨x1, x2, -⟩ := q2 i hi
    obtain ⟨y1, y2, -⟩ := p2 j hj
    obtain ⟨z1, z2⟩ := hU a b ha hb hab (φ i) (ψ j) x1 y1 (x2.symm.trans (e.trans y2))
    subst z1
    refine ⟨rfl, ?_⟩
    obtain ⟨w1, w2⟩ := hU a a ha ha rfl (φ i) (φ j) x1 (q2 j hj).1 (x2.symm.trans (e.trans (q2 j hj).2.1))
    exact q3 i j hi hj w2
  · by_cases e : k = 2
    · subst e; right; rw [rt_2]; exact rB_ch (hB.2 2 (by decide) (by decide)) (by omega)
    · by_cases e2 : k < 5 ∨ 11 ≤ k
      · left; exact n k e e2
      · right
        have hk5 : k = 5 + (k - 5) := by omega
        rw [hk5, rt_l (by omega)]
        exact rB_drop (hB.2 _ (by omega) (by omega))
theorem sN_pos {f : Nat → Nat} : ∀ {n : Nat}, 1 ≤ sN f n → ∃ j, j < n ∧ f j ≠ 0
  | 0, h => absurd h (by simp [sN])
  | n + 1, h => by
    rw [sN_s] at h
    by_cases e : f n = 0
    · obtain ⟨j, hj, q⟩ := sN_pos (n := n) (f := f) (by omega)
      exact ⟨j, by omega, q⟩
    · exact ⟨n, Nat.lt_succ_self n, e⟩
theorem sN_up {f g : Nat → Nat} {i d : Nat} : ∀ {n : Nat}, i < n → (∀ j, j < n → j ≠ i → g j = f j) → g i = f i + d → sN g n = sN f n + d
  | 0, hi, _, _ => absurd hi (Nat.not_lt_zero i)
  | n + 1, hi, h, h2 => by
    rw [sN_s, sN_s]
    by_cases e : i = n
    · subst e
      rw [sN_cong (g := f) (fun j hj => h j (by omega) (by omega)), h2]; omega
    · rw [sN_up (n := n) (by omega) (fun j hj => h j (by omega)) h2, h n (by omega) (by omega)]; omega
/-- harmed this year: not retired yet -/
theorem IY.hr0 {v : Nat} (h : IY t Y) (hh : 1 ≤ hrY Y v) : (Y.2 2).2 v = 0 := by
  obtain ⟨g, hg, hne⟩ := sN_pos hh
  have e : (Y.2 11).2 g = v := by
    by_cases q : (Y.2 11).2 g = v
    · exact q
    · exfalso; apply hne
      show (if (Y.2 11).2 g == v then _ else 0) = 0
      rw [if_neg (by simpa using q)]
  rw [← e]
  exact (h.2.2.2.2.1.2.2.1 g hg).2.2
theorem rh_ok (h : IW t Y) (h0 : ∀ v, v < (Y.2 1).1 → rA (Y.2 0) 0 ≤ hrY Y v → (Y.2 2).2 v = 0) : ∀ i, i ≤ (Y.2 1).1 → IW t (rhS Y i) ∧ (∀ j, i ≤ j → ((rhS Y i).2 2).2 j = (Y.2 2).2 j) ∧ sN ((rhS Y i).2 2).2 (Y.2 1).1 = sN (Y.2 2).2 (Y.2 1).1 + cN (fun v => decide (rA (Y.2 0) 0 ≤ hrY Y v)) i
  | 0, _ => ⟨h, fun _ _ => rfl, rfl⟩
  | i + 1, hi => by
    obtain ⟨a, b, c⟩ := rh_ok h h0 i (by omega)
    by_cases q : rA (Y.2 0) 0 ≤ hrY Y i
    · rw [← rhS_t q]
      have hn1 : (rhS Y i).2 1 = Y.2 1 := rhS_o (by omega) (by omega)
      have hn2 : ((rhS Y i).2 2).1 = (Y.2 1).1 := by rw [a.2.1.2.1 2 (by decide) (by decide), hn1]
      have d2 : (rtS (rhS Y i) i).2 2 = ((Y.2 1).1, va_up ((rhS Y i).2 2).2 i 1) := by rw [rt_2, rCh_in (by omega), hn2]
      refine ⟨a.rt (by rw [hn1]; omega), fun j hj => ?_, ?_⟩
      · rw [d2]; show va_up _ i 1 j = _
        rw [vuN (by omega)]; exact b j (by omega)
      · rw [d2]
        show sN (va_up ((rhS Y i).2 2).2 i 1) (Y.2 1).1 = _
        rw [sN_up (f := ((rhS Y i).2 2).2) (g := va_up ((rhS Y i).2 2).2 i 1) (i := i) (d := 1) (by omega) (fun j _ hne => vuN hne) (by rw [vuS, b i (Nat.le_refl i), h0 i (by omega) q]), c, cN_s]
        simp only [q, decide_true, if_true]; omega
    · rw [← rhS_f q]
      refine ⟨a, fun j hj => b j (by omega), ?_⟩
      rw [c, cN_s]
      simp [q]
theorem IY.endY (h : IY t Y) : IY (t + 1) (eyS Y) ∧ sN ((eyS Y).2 2).2 ((eyS Y).2 2).1 = sN (Y.2 2).2 (Y.2 2).1 + hdB Y (rA (Y.2 0) 0) ∧ ((eyS Y).2 11).1 = 0 ∧ (eyS Y).1 = Y.1 + 1 ∧ hdB (owS Y (Y.2 14).1) (rA ((owS Y (Y.2 14).1).2 0) 0) = hdB Y (rA (Y.2 0) 0) := by
  have ho : IY (t + 1) (owS Y (Y.2 14).1) := h.ow
  have n : ∀ k, k ≠ 15 → (owS Y (Y.2 14).1).2 k = Y.2 k := fun k hk => vuN hk
  have hrv : ∀ v, hrY (owS Y (Y.2 14).1) v = hrY Y v := fun v => hrY_eq (n 11 (by omega)) (n 13 (by omega)) v
  have ehd : hdB (owS Y (Y.2 14).1) (rA ((owS Y (Y.2 14).1).2 0) 0) = hdB Y (rA (Y.2 0) 0) := by
    unfold hdB; rw [n 0 (by omega), n 1 (by omega)]
    exact cN_cong fun j _ => by rw [hrv]
  have hH : 1 ≤ rA (Y.2 0) 0 := by
    rw [rA_in (by rw [h.1.1]; decide)]; exact (h.1.2 0 (by decide)).1
  obtain ⟨a, b, c⟩ := rh_ok (Y := owS Y (Y.2 14).1) (t := t + 1) ⟨ho.1, ho.2.1, ho.2.2.1, ho.2.2.2.1, ho.2.2.2.2.2.1, ho.2.2.2.2.2.2⟩ (fun v _ q => by
    rw [n 0 (by omega), hrv] at q
    rw [n 2 (by omega)]
    exact h.hr0 (by omega)) _ (Nat.le_refl _)
  generalize hW : rhS (owS Y (Y.2 14).1) ((owS Y (Y.2 14).1).2 1).1 = W at a b c
  have eE : eyS Y = nxY W := by rw [← hW]; rfl
  have wy : W.1 = Y.1 := by rw [← hW]; exact rhS_y
  have m : ∀ k, k ≠ 11 → k ≠ 12 → k ≠ 13 → (nxY W).2 k = W.2 k := fun k a b c => by
    show va_up (va_up (va_up W.2 11 (0, (W.2 11).2)) 12 (0, (W.2 12).2)) 13 (0, (W.2 13).2) k = _
    rw [vuN c, vuN b, vuN a]
  have m11 : (nxY W).2 11 = (0, (W.2 11).2) := by
    show va_up (va_up (va_up W.2 11 (0, (W.2 11).2)) 12 (0, (W.2 12).2)) 13 (0, (W.2 13).2) 11 = _
    rw [vuN (by omega), vuN (by omega), vuS]
  have m12 : (nxY W).2 12 = (0, (W.2 12).2) := by
    show va_up (va_up (va_up W.2 11 (0, (W.2 11).2)) 12 (0, (W.2 12).2)) 13 (0, (W.2 13).2) 12 = _
    rw [vuN (by omega), vuS]
  have m13 : (nxY W).2 13 = (0, (W.2 13).2) := by
    show va_up (va_up (va_up W.2 11 (0, (W.2 11).2)) 12 (0, (W.2 12).2)) 13 (0, (W.2 13).2) 13 = _
    rw [vuS]
  obtain ⟨hC, hN, hL, hU, hK, hB⟩ := a
  have m1 := m 1 (by omega) (by omega) (by omega)
  have m2 := m 2 (by omega) (by omega) (by omega)
  rw [eE]
  have hY1 := h.2.2.2.2.2.2.1
  refine ⟨⟨hC.cg (m 0 (by omega) (by omega) (by omega)), hN.cg m1 m2 (by rw [m 3 (by omega) (by omega) (by omega)]) (by rw [m 4 (by omega) (by omega) (by omega)]), hL.cg (fun a _ => m _ (by omega) (by omega) (by omega)) (Nat.le_of_eq (by rw [m1])) (fun q _ => by rw [m2]), hU.cg (fun a _ => m _ (by omega) (by omega) (by omega)), ?_, hK.cg (m 14 (by omega) (by omega) (by omega)) (by rw [m 15 (by omega) (by omega) (by omega)]) (by rw [m 16 (by omega) (by omega) (by omega)]) (Nat.le_of_eq (by rw [m1])), hB.up (Nat.le_refl _) (by show W.1 + 1 ≤ t + 1; omega) (fun k hk h1 => ?_)⟩, ?_, by rw [m11], by show W.1 + 1 = _; rw [wy], ehd⟩
  · unfold jG
    rw [m11]
    refine ⟨Nat.zero_le _, fun k k1 k2 => ?_, fun g hg => absurd hg (Nat.not_lt_zero g), fun g _ hg => absurd hg (Nat.not_lt_zero g)⟩
    rcases (show k = 11 ∨ k = 12 ∨ k = 13 by omega) with rfl | rfl | rfl
    · rw [m11]
    · rw [m12]
    · rw [m13]
  · by_cases k1 : k = 11
    · subst k1; right; rw [m11]; exact fun i hi => absurd hi (Nat.not_lt_zero i)
    · by_cases k2 : k = 12
      · subst k2; right; rw [m12]; exact fun i hi => absurd hi (Nat.not_lt_zero i)
      · by_cases k3 : k = 13
        · subst k3; right; rw [m13]; exact fun i hi => absurd hi (Nat.not_lt_zero i)
        · left; exact m k k1 k2 k3
  · have w1 : W.2 1 = Y.2 1 := by rw [← hW, rhS_o (by omega) (by omega)]; exact n 1 (by omega)
    rw [m2, hN.2.1 2 (by decide) (by decide), w1, h.2.1.2.1 2 (by decide) (by decide)]
    rw [n 1 (by omega), n 2 (by omega)] at c
    rw [c, ← ehd]; unfold hdB; rw [n 1 (by omega)]
end
