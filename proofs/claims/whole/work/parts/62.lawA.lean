section
variable {p : Program} {e : Env} {s : State} {m : MethodId} {below : List Frame} {meth : Method} {c : Code} {Q : State → Prop} {b L x t : Nat} {xs : Nat → Int32} {X : XS} {M : MS} {H : Heap} {locs : List Loc}
set_option maxHeartbeats 4000000 in
set_option maxRecDepth 100000 in
theorem la_c0 (l : Launch) (G : gT) (C0 : CallFix p m c code 4 s #[.ref b] lw_g "GaleNamesLaw") (hK : gK G s) (hL : L ≤ 2048) (hX0 : va_X b L xs s s.heap) (hxs : x = s.heap.size) (hbl : b < s.heap.size) (h4 : 4 * t + 4 ≤ L) (hI : laI G s x t X M H locs) (kk : laK l G b x t p e s m below meth c Q) (ls : Array Slot) (hl : lv_has ls 4 [(3, .int (nI (4 * t))), (2, .ref (x + 262)), (1, .ref x), (0, .ref b)]) : W p l e room_1 s m #[.ref b] below meth c H locs (270 + 36 * t) (8085 + 342 * t) Q (F0 m 164 ls []) := by
  have hx := C0.1
  have hb := C0.2.1
  obtain ⟨S, sp, bf, sv, iz, rr, pd, ln, sts, td, ac⟩ := M
  obtain ⟨hXA, hMA, hsz, hS, hR⟩ := hI
  have ht6 : t ≤ 600 := by omega
  have hRB : RB t X.1 S := hR.1
  have hs : RS X.1 S := hRB.1
  have hP : RP X.2.1.1 pd ln := hR.2.1
  have hH : RH t X.2.2.1.1 X.2.2.1.2.2 bf sts := hR.2.2.1
  have hV : RV t X.2.2.2.1 X.2.2.2.2 iz sv := hR.2.2.2
  have hXO : XOk X := la_ok hR ht6
  have hM : mOk S := hRB.mOk (by omega)
  have h6 := hH.2.1
  have hln := hP.2.1
  have hpd := hP.2.2.2
  have hB := hRB.hB (by omega)
  have hch := hRB.hch
  have hiz : ∀ k, k < 2 → iz k < 2 := fun k hk => (hV k hk).1
  refine lv_aload_n hx hb d_La_law_164 rfl (lv_at hl 2 rfl) ?_
  refine lv_aload_n hx hb d_La_law_165 rfl (lv_at hl 3 rfl) ?_
  refine lv_iload_n hx hb d_La_law_166 rfl (lv_at hl 0 rfl) ?_
  refine lv_iconst (v := nI 1) hx hb d_La_law_167 (by decide +kernel) ?_
  refine g_iadd C0 (z := 4 * t + 1) d_La_law_168 rfl ?_
  refine la_sld C0 hX0 hxs hbl hS (by omega) hL d_La_law_169 ?_
  refine lv_aload_n hx hb d_La_law_170 rfl (lv_at hl 3 rfl) ?_
  refine lv_iload_n hx hb d_La_law_171 rfl (lv_at hl 0 rfl) ?_
  refine lv_iconst (v := nI 2) hx hb d_La_law_172 (by decide +kernel) ?_
  refine g_iadd C0 (z := 4 * t + 2) d_La_law_173 rfl ?_
  refine la_sld C0 hX0 hxs hbl hS (by omega) hL d_La_law_174 ?_
  refine g_V C0 (k_Ga_set l G x X (xs (4 * t + 1)) (xs (4 * t + 2)) hXO) co_Ga_set im_Ga_set se_Ga_set in_Ga gc_Ga_set ml_La_13 ⟨Nat.le_of_ble_eq_true rfl, Nat.le_of_ble_eq_true rfl⟩ hK hXA.1 rfl hXA rfl hl.1 rfl (Nat.le_of_ble_eq_true rfl) d_La_law_175 ⟨(by show 270 + 36 * t + 0 ≤ 600000; omega), (by show 8085 + 342 * t + 0 ≤ 7302250; omega)⟩ (g_wi (free := fun q => x ≤ q) hS.2.2 (fun q h => h.1) (fun H1 locs1 hL1 ⟨hX1, hf1⟩ => ?_))
  have hS1 : va_S (fun q => x ≤ q) s.heap H1 locs1 := la_S hxs hS hf1 (Nat.le_refl _) hL1
  have hMA1 := hMA.fr hf1 (Or.inr (Nat.le_refl _))
  refine lv_aload_n hx hb d_La_law_178 rfl (lv_at hl 1 rfl) ?_
  refine lv_aload_n hx hb d_La_law_179 rfl (lv_at hl 3 rfl) ?_
  refine lv_iload_n hx hb d_La_law_180 rfl (lv_at hl 0 rfl) ?_
  refine lv_iconst (v := nI 1) hx hb d_La_law_181 (by decide +kernel) ?_
  refine g_iadd C0 (z := 4 * t + 1) d_La_law_182 rfl ?_
  refine la_sld C0 hX0 hxs hbl hS1 (by omega) hL d_La_law_183 ?_
  refine lv_aload_n hx hb d_La_law_184 rfl (lv_at hl 3 rfl) ?_
  refine lv_iload_n hx hb d_La_law_185 rfl (lv_at hl 0 rfl) ?_
  refine lv_iconst (v := nI 2) hx hb d_La_law_186 (by decide +kernel) ?_
  refine g_iadd C0 (z := 4 * t + 2) d_La_law_187 rfl ?_
  refine la_sld C0 hX0 hxs hbl hS1 (by omega) hL d_La_law_188 ?_
  refine g_V C0 (k_Mo_set l G (x + 262) S sp bf sv iz rr pd ln sts td ac (xs (4 * t + 1)) (xs (4 * t + 2)) h6 hM) co_Mo_set im_Mo_set se_Mo_set in_Mo gc_Mo_set ml_La_17 ⟨Nat.le_of_ble_eq_true rfl, Nat.le_of_ble_eq_true rfl⟩ hK hMA1.1 rfl hMA1 rfl hl.1 rfl (Nat.le_of_ble_eq_true rfl) d_La_law_189 ⟨(by show 270 + 36 * t + 0 ≤ 600000; omega), (by show 8085 + 342 * t + 0 ≤ 7302250; omega)⟩ (g_wi (free := fun q => x ≤ q) hL1 (fun q h => (by have h2 := h.1; show x ≤ q; omega)) (fun H2 locs2 hL2 ⟨hM2, hf2⟩ => ?_))
  refine lv_icmp_eq (tgt := 931) hx hb d_La_law_192 (by decide) (fun _ => ?_) (fun hne => ?_)
  · refine W.widen (k := 270 + 36 * (t + 1)) (n := 8085 + 342 * (t + 1)) (by omega) (by omega) ?_
    have hRA := tz_set hR (xs (4 * t + 1)) (xs (4 * t + 2))
    exact kk _ _ H2 locs2 ⟨hX1.fr2 hf2, hM2, (by rw [hf2.1, hf1.1]; exact hsz), la_S hxs hS1 hf2 (by omega) hL2, hRA.2⟩ ls hl
  · exact absurd (tz_set hR (xs (4 * t + 1)) (xs (4 * t + 2))).1 hne

set_option maxHeartbeats 4000000 in
set_option maxRecDepth 100000 in
theorem la_c1 (l : Launch) (G : gT) (C0 : CallFix p m c code 4 s #[.ref b] lw_g "GaleNamesLaw") (hK : gK G s) (hL : L ≤ 2048) (hX0 : va_X b L xs s s.heap) (hxs : x = s.heap.size) (hbl : b < s.heap.size) (h4 : 4 * t + 4 ≤ L) (hI : laI G s x t X M H locs) (kk : laK l G b x t p e s m below meth c Q) (ls : Array Slot) (hl : lv_has ls 4 [(3, .int (nI (4 * t))), (2, .ref (x + 262)), (1, .ref x), (0, .ref b)]) : W p l e room_1 s m #[.ref b] below meth c H locs (270 + 36 * t) (8085 + 342 * t) Q (F0 m 197 ls []) := by
  have hx := C0.1
  have hb := C0.2.1
  obtain ⟨S, sp, bf, sv, iz, rr, pd, ln, sts, td, ac⟩ := M
  obtain ⟨hXA, hMA, hsz, hS, hR⟩ := hI
  have ht6 : t ≤ 600 := by omega
  have hRB : RB t X.1 S := hR.1
  have hs : RS X.1 S := hRB.1
  have hP : RP X.2.1.1 pd ln := hR.2.1
  have hH : RH t X.2.2.1.1 X.2.2.1.2.2 bf sts := hR.2.2.1
  have hV : RV t X.2.2.2.1 X.2.2.2.2 iz sv := hR.2.2.2
  have hXO : XOk X := la_ok hR ht6
  have hM : mOk S := hRB.mOk (by omega)
  have h6 := hH.2.1
  have hln := hP.2.1
  have hpd := hP.2.2.2
  have hB := hRB.hB (by omega)
  have hch := hRB.hch
  have hiz : ∀ k, k < 2 → iz k < 2 := fun k hk => (hV k hk).1
  refine lv_aload_n hx hb d_La_law_197 rfl (lv_at hl 2 rfl) ?_
  refine lv_aload_n hx hb d_La_law_198 rfl (lv_at hl 3 rfl) ?_
  refine lv_iload_n hx hb d_La_law_199 rfl (lv_at hl 0 rfl) ?_
  refine lv_iconst (v := nI 1) hx hb d_La_law_200 (by decide +kernel) ?_
  refine g_iadd C0 (z := 4 * t + 1) d_La_law_201 rfl ?_
  refine la_sld C0 hX0 hxs hbl hS (by omega) hL d_La_law_202 ?_
  refine lv_aload_n hx hb d_La_law_203 rfl (lv_at hl 3 rfl) ?_
  refine lv_iload_n hx hb d_La_law_204 rfl (lv_at hl 0 rfl) ?_
  refine lv_iconst (v := nI 2) hx hb d_La_law_205 (by decide +kernel) ?_
  refine g_iadd C0 (z := 4 * t + 2) d_La_law_206 rfl ?_
  refine la_sld C0 hX0 hxs hbl hS (by omega) hL d_La_law_207 ?_
  refine g_V C0 (k_Ga_fill l G x X (xs (4 * t + 1)) (xs (4 * t + 2)) hXO) co_Ga_fill im_Ga_fill se_Ga_fill in_Ga gc_Ga_fill ml_La_18 ⟨Nat.le_of_ble_eq_true rfl, Nat.le_of_ble_eq_true rfl⟩ hK hXA.1 rfl hXA rfl hl.1 rfl (Nat.le_of_ble_eq_true rfl) d_La_law_208 ⟨(by show 270 + 36 * t + 0 ≤ 600000; omega), (by show 8085 + 342 * t + 0 ≤ 7302250; omega)⟩ (g_wi (free := fun q => x ≤ q) hS.2.2 (fun q h => h.1) (fun H1 locs1 hL1 ⟨hX1, hf1⟩ => ?_))
  have hS1 : va_S (fun q => x ≤ q) s.heap H1 locs1 := la_S hxs hS hf1 (Nat.le_refl _) hL1
  have hMA1 := hMA.fr hf1 (Or.inr (Nat.le_refl _))
  refine lv_aload_n hx hb d_La_law_211 rfl (lv_at hl 1 rfl) ?_
  refine lv_aload_n hx hb d_La_law_212 rfl (lv_at hl 3 rfl) ?_
  refine lv_iload_n hx hb d_La_law_213 rfl (lv_at hl 0 rfl) ?_
  refine lv_iconst (v := nI 1) hx hb d_La_law_214 (by decide +kernel) ?_
  refine g_iadd C0 (z := 4 * t + 1) d_La_law_215 rfl ?_
  refine la_sld C0 hX0 hxs hbl hS1 (by omega) hL d_La_law_216 ?_
  refine lv_aload_n hx hb d_La_law_217 rfl (lv_at hl 3 rfl) ?_
  refine lv_iload_n hx hb d_La_law_218 rfl (lv_at hl 0 rfl) ?_
  refine lv_iconst (v := nI 2) hx hb d_La_law_219 (by decide +kernel) ?_
  refine g_iadd C0 (z := 4 * t + 2) d_La_law_220 rfl ?_
  refine la_sld C0 hX0 hxs hbl hS1 (by omega) hL d_La_law_221 ?_
  refine g_V C0 (k_Mo_fill l G (x + 262) S sp bf sv iz rr pd ln sts td ac (xs (4 * t + 1)) (xs (4 * t + 2)) h6 hln hpd hM) co_Mo_fill im_Mo_fill se_Mo_fill in_Mo gc_Mo_fill ml_La_21 ⟨Nat.le_of_ble_eq_true rfl, Nat.le_of_ble_eq_true rfl⟩ hK hMA1.1 rfl hMA1 rfl hl.1 rfl (Nat.le_of_ble_eq_true rfl) d_La_law_222 ⟨(by show 270 + 36 * t + 0 ≤ 600000; omega), (by show 8085 + 342 * t + 0 ≤ 7302250; omega)⟩ (g_wi (free := fun q => x ≤ q) hL1 (fun q h => (by have h2 := h.1; show x ≤ q; omega)) (fun H2 locs2 hL2 ⟨hM2, hf2⟩ => ?_))
  refine lv_icmp_eq (tgt := 931) hx hb d_La_law_225 (by decide) (fun _ => ?_) (fun hne => ?_)
  · refine W.widen (k := 270 + 36 * (t + 1)) (n := 8085 + 342 * (t + 1)) (by omega) (by omega) ?_
    have hRA := tz_fill hR ht6 (xs (4 * t + 1)) (xs (4 * t + 2))
    exact kk _ _ H2 locs2 ⟨hX1.fr2 hf2, hM2, (by rw [hf2.1, hf1.1]; exact hsz), la_S hxs hS1 hf2 (by omega) hL2, hRA.2⟩ ls hl
  · exact absurd (tz_fill hR ht6 (xs (4 * t + 1)) (xs (4 * t + 2))).1 hne

set_option maxHeartbeats 4000000 in
set_option maxRecDepth 100000 in
theorem la_c2 (l : Launch) (G : gT) (C0 : CallFix p m c code 4 s #[.ref b] lw_g "GaleNamesLaw") (hK : gK G s) (hL : L ≤ 2048) (hX0 : va_X b L xs s s.heap) (hxs : x = s.heap.size) (hbl : b < s.heap.size) (h4 : 4 * t + 4 ≤ L) (hI : laI G s x t X M H locs) (kk : laK l G b x t p e s m below meth c Q) (ls : Array Slot) (hl : lv_has ls 4 [(3, .int (nI (4 * t))), (2, .ref (x + 262)), (1, .ref x), (0, .ref b)]) : W p l e room_1 s m #[.ref b] below meth c H locs (270 + 36 * t) (8085 + 342 * t) Q (F0 m 230 ls []) := by
  have hx := C0.1
  have hb := C0.2.1
  obtain ⟨S, sp, bf, sv, iz, rr, pd, ln, sts, td, ac⟩ := M
  obtain ⟨hXA, hMA, hsz, hS, hR⟩ := hI
  have ht6 : t ≤ 600 := by omega
  have hRB : RB t X.1 S := hR.1
  have hs : RS X.1 S := hRB.1
  have hP : RP X.2.1.1 pd ln := hR.2.1
  have hH : RH t X.2.2.1.1 X.2.2.1.2.2 bf sts := hR.2.2.1
  have hV : RV t X.2.2.2.1 X.2.2.2.2 iz sv := hR.2.2.2
  have hXO : XOk X := la_ok hR ht6
  have hM : mOk S := hRB.mOk (by omega)
  have h6 := hH.2.1
  have hln := hP.2.1
  have hpd := hP.2.2.2
  have hB := hRB.hB (by omega)
  have hch := hRB.hch
  have hiz : ∀ k, k < 2 → iz k < 2 := fun k hk => (hV k hk).1
  refine lv_aload_n hx hb d_La_law_230 rfl (lv_at hl 2 rfl) ?_
  refine lv_aload_n hx hb d_La_law_231 rfl (lv_at hl 3 rfl) ?_
  refine lv_iload_n hx hb d_La_law_232 rfl (lv_at hl 0 rfl) ?_
  refine lv_iconst (v := nI 1) hx hb d_La_law_233 (by decide +kernel) ?_
  refine g_iadd C0 (z := 4 * t + 1) d_La_law_234 rfl ?_
  refine la_sld C0 hX0 hxs hbl hS (by omega) hL d_La_law_235 ?_
  refine lv_aload_n hx hb d_La_law_236 rfl (lv_at hl 3 rfl) ?_
  refine lv_iload_n hx hb d_La_law_237 rfl (lv_at hl 0 rfl) ?_
  refine lv_iconst (v := nI 2) hx hb d_La_law_238 (by decide +kernel) ?_
  refine g_iadd C0 (z := 4 * t + 2) d_La_law_239 rfl ?_
  refine la_sld C0 hX0 hxs hbl hS (by omega) hL d_La_law_240 ?_
  refine lv_aload_n hx hb d_La_law_241 rfl (lv_at hl 3 rfl) ?_
  refine lv_iload_n hx hb d_La_law_242 rfl (lv_at hl 0 rfl) ?_
  refine lv_iconst (v := nI 3) hx hb d_La_law_243 (by decide +kernel) ?_
  refine g_iadd C0 (z := 4 * t + 3) d_La_law_244 rfl ?_
  refine la_sld C0 hX0 hxs hbl hS (by omega) hL d_La_law_245 ?_
  refine g_V C0 (k_Ga_strike l G x X (xs (4 * t + 1)) (xs (4 * t + 2)) (xs (4 * t + 3)) hXO) co_Ga_strike im_Ga_strike se_Ga_strike in_Ga gc_Ga_strike ml_La_22 ⟨Nat.le_of_ble_eq_true rfl, Nat.le_of_ble_eq_true rfl⟩ hK hXA.1 rfl hXA rfl hl.1 rfl (Nat.le_of_ble_eq_true rfl) d_La_law_246 ⟨(by show 270 + 36 * t + 0 ≤ 600000; omega), (by show 8085 + 342 * t + 0 ≤ 7302250; omega)⟩ (g_wi (free := fun q => x ≤ q) hS.2.2 (fun q h => h.1) (fun H1 locs1 hL1 ⟨hX1, hf1⟩ => ?_))
  have hS1 : va_S (fun q => x ≤ q) s.heap H1 locs1 := la_S hxs hS hf1 (Nat.le_refl _) hL1
  have hMA1 := hMA.fr hf1 (Or.inr (Nat.le_refl _))
  refine lv_aload_n hx hb d_La_law_249 rfl (lv_at hl 1 rfl) ?_
  refine lv_aload_n hx hb d_La_law_250 rfl (lv_at hl 3 rfl) ?_
  refine lv_iload_n hx hb d_La_law_251 rfl (lv_at hl 0 rfl) ?_
  refine lv_iconst (v := nI 1) hx hb d_La_law_252 (by decide +kernel) ?_
  refine g_iadd C0 (z := 4 * t + 1) d_La_law_253 rfl ?_
  refine la_sld C0 hX0 hxs hbl hS1 (by omega) hL d_La_law_254 ?_
  refine lv_aload_n hx hb d_La_law_255 rfl (lv_at hl 3 rfl) ?_
  refine lv_iload_n hx hb d_La_law_256 rfl (lv_at hl 0 rfl) ?_
  refine lv_iconst (v := nI 2) hx hb d_La_law_257 (by decide +kernel) ?_
  refine g_iadd C0 (z := 4 * t + 2) d_La_law_258 rfl ?_
  refine la_sld C0 hX0 hxs hbl hS1 (by omega) hL d_La_law_259 ?_
  refine lv_aload_n hx hb d_La_law_260 rfl (lv_at hl 3 rfl) ?_
  refine lv_iload_n hx hb d_La_law_261 rfl (lv_at hl 0 rfl) ?_
  refine lv_iconst (v := nI 3) hx hb d_La_law_262 (by decide +kernel) ?_
  refine g_iadd C0 (z := 4 * t + 3) d_La_law_263 rfl ?_
  refine la_sld C0 hX0 hxs hbl hS1 (by omega) hL d_La_law_264 ?_
  refine g_V C0 (k_Mo_strike l G (x + 262) S sp bf sv iz rr pd ln sts td ac (xs (4 * t + 1)) (xs (4 * t + 2)) (xs (4 * t + 3)) h6 hM) co_Mo_strike im_Mo_strike se_Mo_strike in_Mo gc_Mo_strike ml_La_26 ⟨Nat.le_of_ble_eq_true rfl, Nat.le_of_ble_eq_true rfl⟩ hK hMA1.1 rfl hMA1 rfl hl.1 rfl (Nat.le_of_ble_eq_true rfl) d_La_law_265 ⟨(by show 270 + 36 * t + 0 ≤ 600000; omega), (by show 8085 + 342 * t + 0 ≤ 7302250; omega)⟩ (g_wi (free := fun q => x ≤ q) hL1 (fun q h => (by have h2 := h.1; show x ≤ q; omega)) (fun H2 locs2 hL2 ⟨hM2, hf2⟩ => ?_))
  refine lv_icmp_eq (tgt := 931) hx hb d_La_law_268 (by decide) (fun _ => ?_) (fun hne => ?_)
  · refine W.widen (k := 270 + 36 * (t + 1)) (n := 8085 + 342 * (t + 1)) (by omega) (by omega) ?_
    have hRA := tz_strike hR (xs (4 * t + 1)) (xs (4 * t + 2)) (xs (4 * t + 3))
    exact kk _ _ H2 locs2 ⟨hX1.fr2 hf2, hM2, (by rw [hf2.1, hf1.1]; exact hsz), la_S hxs hS1 hf2 (by omega) hL2, hRA.2⟩ ls hl
  · exact absurd (tz_strike hR (xs (4 * t + 1)) (xs (4 * t + 2)) (xs (4 * t + 3))).1 hne

set_option maxHeartbeats 4000000 in
set_option maxRecDepth 100000 in
theorem la_c3 (l : Launch) (G : gT) (C0 : CallFix p m c code 4 s #[.ref b] lw_g "GaleNamesLaw") (hK : gK G s) (hL : L ≤ 2048) (hX0 : va_X b L xs s s.heap) (hxs : x = s.heap.size) (hbl : b < s.heap.size) (h4 : 4 * t + 4 ≤ L) (hI : laI G s x t X M H locs) (kk : laK l G b x t p e s m below meth c Q) (ls : Array Slot) (hl : lv_has ls 4 [(3, .int (nI (4 * t))), (2, .ref (x + 262)), (1, .ref x), (0, .ref b)]) : W p l e room_1 s m #[.ref b] below meth c H locs (270 + 36 * t) (8085 + 342 * t) Q (F0 m 273 ls []) := by
  have hx := C0.1
  have hb := C0.2.1
  obtain ⟨S, sp, bf, sv, iz, rr, pd, ln, sts, td, ac⟩ := M
  obtain ⟨hXA, hMA, hsz, hS, hR⟩ := hI
  have ht6 : t ≤ 600 := by omega
  have hRB : RB t X.1 S := hR.1
  have hs : RS X.1 S := hRB.1
  have hP : RP X.2.1.1 pd ln := hR.2.1
  have hH : RH t X.2.2.1.1 X.2.2.1.2.2 bf sts := hR.2.2.1
  have hV : RV t X.2.2.2.1 X.2.2.2.2 iz sv := hR.2.2.2
  have hXO : XOk X := la_ok hR ht6
  have hM : mOk S := hRB.mOk (by omega)
  have h6 := hH.2.1
  have hln := hP.2.1
  have hpd := hP.2.2.2
  have hB := hRB.hB (by omega)
  have hch := hRB.hch
  have hiz : ∀ k, k < 2 → iz k < 2 := fun k hk => (hV k hk).1
  refine lv_aload_n hx hb d_La_law_273 rfl (lv_at hl 2 rfl) ?_
  refine lv_aload_n hx hb d_La_law_274 rfl (lv_at hl 3 rfl) ?_
  refine lv_iload_n hx hb d_La_law_275 rfl (lv_at hl 0 rfl) ?_
  refine lv_iconst (v := nI 1) hx hb d_La_law_276 (by decide +kernel) ?_
  refine g_iadd C0 (z := 4 * t + 1) d_La_law_277 rfl ?_
  refine la_sld C0 hX0 hxs hbl hS (by omega) hL d_La_law_278 ?_
  refine g_V C0 (k_Ga_storm l G x X (xs (4 * t + 1)) hXO) co_Ga_storm im_Ga_storm se_Ga_storm in_Ga gc_Ga_storm ml_La_27 ⟨Nat.le_of_ble_eq_true rfl, Nat.le_of_ble_eq_true rfl⟩ hK hXA.1 rfl hXA rfl hl.1 rfl (Nat.le_of_ble_eq_true rfl) d_La_law_279 ⟨(by show 270 + 36 * t + 0 ≤ 600000; omega), (by show 8085 + 342 * t + 0 ≤ 7302250; omega)⟩ (g_wi (free := fun q => x ≤ q) hS.2.2 (fun q h => h.1) (fun H1 locs1 hL1 ⟨hX1, hf1⟩ => ?_))
  have hS1 : va_S (fun q => x ≤ q) s.heap H1 locs1 := la_S hxs hS hf1 (Nat.le_refl _) hL1
  have hMA1 := hMA.fr hf1 (Or.inr (Nat.le_refl _))
  refine lv_aload_n hx hb d_La_law_282 rfl (lv_at hl 1 rfl) ?_
  refine lv_aload_n hx hb d_La_law_283 rfl (lv_at hl 3 rfl) ?_
  refine lv_iload_n hx hb d_La_law_284 rfl (lv_at hl 0 rfl) ?_
  refine lv_iconst (v := nI 1) hx hb d_La_law_285 (by decide +kernel) ?_
  refine g_iadd C0 (z := 4 * t + 1) d_La_law_286 rfl ?_
  refine la_sld C0 hX0 hxs hbl hS1 (by omega) hL d_La_law_287 ?_
  refine g_V C0 (k_Mo_storm l G (x + 262) S sp bf sv iz rr pd ln sts td ac (xs (4 * t + 1)) h6 hM) co_Mo_storm im_Mo_storm se_Mo_storm in_Mo gc_Mo_storm ml_La_31 ⟨Nat.le_of_ble_eq_true rfl, Nat.le_of_ble_eq_true rfl⟩ hK hMA1.1 rfl hMA1 rfl hl.1 rfl (Nat.le_of_ble_eq_true rfl) d_La_law_288 ⟨(by show 270 + 36 * t + 0 ≤ 600000; omega), (by show 8085 + 342 * t + 0 ≤ 7302250; omega)⟩ (g_wi (free := fun q => x ≤ q) hL1 (fun q h => (by have h2 := h.1; show x ≤ q; omega)) (fun H2 locs2 hL2 ⟨hM2, hf2⟩ => ?_))
  refine lv_icmp_eq (tgt := 931) hx hb d_La_law_291 (by decide) (fun _ => ?_) (fun hne => ?_)
  · refine W.widen (k := 270 + 36 * (t + 1)) (n := 8085 + 342 * (t + 1)) (by omega) (by omega) ?_
    have hRA := tz_storm hR ht6 (xs (4 * t + 1))
    exact kk _ _ H2 locs2 ⟨hX1.fr2 hf2, hM2, (by rw [hf2.1, hf1.1]; exact hsz), la_S hxs hS1 hf2 (by omega) hL2, hRA.2⟩ ls hl
  · exact absurd (tz_storm hR ht6 (xs (4 * t + 1))).1 hne

set_option maxHeartbeats 4000000 in
set_option maxRecDepth 100000 in
theorem la_c4 (l : Launch) (G : gT) (C0 : CallFix p m c code 4 s #[.ref b] lw_g "GaleNamesLaw") (hK : gK G s) (hL : L ≤ 2048) (hX0 : va_X b L xs s s.heap) (hxs : x = s.heap.size) (hbl : b < s.heap.size) (h4 : 4 * t + 4 ≤ L) (hI : laI G s x t X M H locs) (kk : laK l G b x t p e s m below meth c Q) (ls : Array Slot) (hl : lv_has ls 4 [(3, .int (nI (4 * t))), (2, .ref (x + 262)), (1, .ref x), (0, .ref b)]) : W p l e room_1 s m #[.ref b] below meth c H locs (270 + 36 * t) (8085 + 342 * t) Q (F0 m 296 ls []) := by
  have hx := C0.1
  have hb := C0.2.1
  obtain ⟨S, sp, bf, sv, iz, rr, pd, ln, sts, td, ac⟩ := M
  obtain ⟨hXA, hMA, hsz, hS, hR⟩ := hI
  have ht6 : t ≤ 600 := by omega
  have hRB : RB t X.1 S := hR.1
  have hs : RS X.1 S := hRB.1
  have hP : RP X.2.1.1 pd ln := hR.2.1
  have hH : RH t X.2.2.1.1 X.2.2.1.2.2 bf sts := hR.2.2.1
  have hV : RV t X.2.2.2.1 X.2.2.2.2 iz sv := hR.2.2.2
  have hXO : XOk X := la_ok hR ht6
  have hM : mOk S := hRB.mOk (by omega)
  have h6 := hH.2.1
  have hln := hP.2.1
  have hpd := hP.2.2.2
  have hB := hRB.hB (by omega)
  have hch := hRB.hch
  have hiz : ∀ k, k < 2 → iz k < 2 := fun k hk => (hV k hk).1
  refine lv_aload_n hx hb d_La_law_296 rfl (lv_at hl 2 rfl) ?_
  refine lv_aload_n hx hb d_La_law_297 rfl (lv_at hl 3 rfl) ?_
  refine lv_iload_n hx hb d_La_law_298 rfl (lv_at hl 0 rfl) ?_
  refine lv_iconst (v := nI 1) hx hb d_La_law_299 (by decide +kernel) ?_
  refine g_iadd C0 (z := 4 * t + 1) d_La_law_300 rfl ?_
  refine la_sld C0 hX0 hxs hbl hS (by omega) hL d_La_law_301 ?_
  refine lv_aload_n hx hb d_La_law_302 rfl (lv_at hl 3 rfl) ?_
  refine lv_iload_n hx hb d_La_law_303 rfl (lv_at hl 0 rfl) ?_
  refine lv_iconst (v := nI 2) hx hb d_La_law_304 (by decide +kernel) ?_
  refine g_iadd C0 (z := 4 * t + 2) d_La_law_305 rfl ?_
  refine la_sld C0 hX0 hxs hbl hS (by omega) hL d_La_law_306 ?_
  refine g_V C0 (k_Ga_harm l G x X (xs (4 * t + 1)) (xs (4 * t + 2)) hXO) co_Ga_harm im_Ga_harm se_Ga_harm in_Ga gc_Ga_harm ml_La_32 ⟨Nat.le_of_ble_eq_true rfl, Nat.le_of_ble_eq_true rfl⟩ hK hXA.1 rfl hXA rfl hl.1 rfl (Nat.le_of_ble_eq_true rfl) d_La_law_307 ⟨(by show 270 + 36 * t + 0 ≤ 600000; omega), (by show 8085 + 342 * t + 0 ≤ 7302250; omega)⟩ (g_wi (free := fun q => x ≤ q) hS.2.2 (fun q h => h.1) (fun H1 locs1 hL1 ⟨hX1, hf1⟩ => ?_))
  have hS1 : va_S (fun q => x ≤ q) s.heap H1 locs1 := la_S hxs hS hf1 (Nat.le_refl _) hL1
  have hMA1 := hMA.fr hf1 (Or.inr (Nat.le_refl _))
  refine lv_aload_n hx hb d_La_law_310 rfl (lv_at hl 1 rfl) ?_
  refine lv_aload_n hx hb d_La_law_311 rfl (lv_at hl 3 rfl) ?_
  refine lv_iload_n hx hb d_La_law_312 rfl (lv_at hl 0 rfl) ?_
  refine lv_iconst (v := nI 1) hx hb d_La_law_313 (by decide +kernel) ?_
  refine g_iadd C0 (z := 4 * t + 1) d_La_law_314 rfl ?_
  refine la_sld C0 hX0 hxs hbl hS1 (by omega) hL d_La_law_315 ?_
  refine lv_aload_n hx hb d_La_law_316 rfl (lv_at hl 3 rfl) ?_
  refine lv_iload_n hx hb d_La_law_317 rfl (lv_at hl 0 rfl) ?_
  refine lv_iconst (v := nI 2) hx hb d_La_law_318 (by decide +kernel) ?_
  refine g_iadd C0 (z := 4 * t + 2) d_La_law_319 rfl ?_
  refine la_sld C0 hX0 hxs hbl hS1 (by omega) hL d_La_law_320 ?_
  refine g_V C0 (k_Mo_harm l G (x + 262) S sp bf sv iz rr pd ln sts td ac (xs (4 * t + 1)) (xs (4 * t + 2)) h6 hM) co_Mo_harm im_Mo_harm se_Mo_harm in_Mo gc_Mo_harm ml_La_35 ⟨Nat.le_of_ble_eq_true rfl, Nat.le_of_ble_eq_true rfl⟩ hK hMA1.1 rfl hMA1 rfl hl.1 rfl (Nat.le_of_ble_eq_true rfl) d_La_law_321 ⟨(by show 270 + 36 * t + 0 ≤ 600000; omega), (by show 8085 + 342 * t + 0 ≤ 7302250; omega)⟩ (g_wi (free := fun q => x ≤ q) hL1 (fun q h => (by have h2 := h.1; show x ≤ q; omega)) (fun H2 locs2 hL2 ⟨hM2, hf2⟩ => ?_))
  refine lv_icmp_eq (tgt := 931) hx hb d_La_law_324 (by decide) (fun _ => ?_) (fun hne => ?_)
  · refine W.widen (k := 270 + 36 * (t + 1)) (n := 8085 + 342 * (t + 1)) (by omega) (by omega) ?_
    have hRA := tz_harm hR (xs (4 * t + 1)) (xs (4 * t + 2))
    exact kk _ _ H2 locs2 ⟨hX1.fr2 hf2, hM2, (by rw [hf2.1, hf1.1]; exact hsz), la_S hxs hS1 hf2 (by omega) hL2, hRA.2⟩ ls hl
  · exact absurd (tz_harm hR (xs (4 * t + 1)) (xs (4 * t + 2))).1 hne

set_option maxHeartbeats 4000000 in
set_option maxRecDepth 100000 in
theorem la_c5 (l : Launch) (G : gT) (C0 : CallFix p m c code 4 s #[.ref b] lw_g "GaleNamesLaw") (hK : gK G s) (hL : L ≤ 2048) (hX0 : va_X b L xs s s.heap) (hxs : x = s.heap.size) (hbl : b < s.heap.size) (h4 : 4 * t + 4 ≤ L) (hI : laI G s x t X M H locs) (kk : laK l G b x t p e s m below meth c Q) (ls : Array Slot) (hl : lv_has ls 4 [(3, .int (nI (4 * t))), (2, .ref (x + 262)), (1, .ref x), (0, .ref b)]) : W p l e room_1 s m #[.ref b] below meth c H locs (270 + 36 * t) (8085 + 342 * t) Q (F0 m 329 ls []) := by
  have hx := C0.1
  have hb := C0.2.1
  obtain ⟨S, sp, bf, sv, iz, rr, pd, ln, sts, td, ac⟩ := M
  obtain ⟨hXA, hMA, hsz, hS, hR⟩ := hI
  have ht6 : t ≤ 600 := by omega
  have hRB : RB t X.1 S := hR.1
  have hs : RS X.1 S := hRB.1
  have hP : RP X.2.1.1 pd ln := hR.2.1
  have hH : RH t X.2.2.1.1 X.2.2.1.2.2 bf sts := hR.2.2.1
  have hV : RV t X.2.2.2.1 X.2.2.2.2 iz sv := hR.2.2.2
  have hXO : XOk X := la_ok hR ht6
  have hM : mOk S := hRB.mOk (by omega)
  have h6 := hH.2.1
  have hln := hP.2.1
  have hpd := hP.2.2.2
  have hB := hRB.hB (by omega)
  have hch := hRB.hch
  have hiz : ∀ k, k < 2 → iz k < 2 := fun k hk => (hV k hk).1
  refine lv_aload_n hx hb d_La_law_329 rfl (lv_at hl 2 rfl) ?_
  refine g_V C0 (k_Ga_endYear l G x X  hXO) co_Ga_endYear im_Ga_endYear se_Ga_endYear in_Ga gc_Ga_endYear ml_La_36 ⟨Nat.le_of_ble_eq_true rfl, Nat.le_of_ble_eq_true rfl⟩ hK hXA.1 rfl hXA rfl hl.1 rfl (Nat.le_of_ble_eq_true rfl) d_La_law_330 ⟨(by show 270 + 36 * t + 0 ≤ 600000; omega), (by show 8085 + 342 * t + 0 ≤ 7302250; omega)⟩ (g_wi (free := fun q => x ≤ q) hS.2.2 (fun q h => h.1) (fun H1 locs1 hL1 ⟨hX1, hf1⟩ => ?_))
  have hS1 : va_S (fun q => x ≤ q) s.heap H1 locs1 := la_S hxs hS hf1 (Nat.le_refl _) hL1
  have hMA1 := hMA.fr hf1 (Or.inr (Nat.le_refl _))
  refine lv_aload_n hx hb d_La_law_333 rfl (lv_at hl 1 rfl) ?_
  refine g_V C0 (k_Mo_endYear l G (x + 262) S sp bf sv iz rr pd ln sts td ac  h6 hM hB) co_Mo_endYear im_Mo_endYear se_Mo_endYear in_Mo gc_Mo_endYear ml_La_40 ⟨Nat.le_of_ble_eq_true rfl, Nat.le_of_ble_eq_true rfl⟩ hK hMA1.1 rfl hMA1 rfl hl.1 rfl (Nat.le_of_ble_eq_true rfl) d_La_law_334 ⟨(by show 270 + 36 * t + 0 ≤ 600000; omega), (by show 8085 + 342 * t + 0 ≤ 7302250; omega)⟩ (g_wi (free := fun q => x ≤ q) hL1 (fun q h => (by have h2 := h.1; show x ≤ q; omega)) (fun H2 locs2 hL2 ⟨hM2, hf2⟩ => ?_))
  refine lv_icmp_eq (tgt := 931) hx hb d_La_law_337 (by decide) (fun _ => ?_) (fun hne => ?_)
  · refine W.widen (k := 270 + 36 * (t + 1)) (n := 8085 + 342 * (t + 1)) (by omega) (by omega) ?_
    have hRA := tz_end hR ht6 
    exact kk _ _ H2 locs2 ⟨hX1.fr2 hf2, hM2, (by rw [hf2.1, hf1.1]; exact hsz), la_S hxs hS1 hf2 (by omega) hL2, hRA.2⟩ ls hl
  · exact absurd (tz_end hR ht6 ).1 hne

set_option maxHeartbeats 4000000 in
set_option maxRecDepth 100000 in
theorem la_c6 (l : Launch) (G : gT) (C0 : CallFix p m c code 4 s #[.ref b] lw_g "GaleNamesLaw") (hK : gK G s) (hL : L ≤ 2048) (hX0 : va_X b L xs s s.heap) (hxs : x = s.heap.size) (hbl : b < s.heap.size) (h4 : 4 * t + 4 ≤ L) (hI : laI G s x t X M H locs) (kk : laK l G b x t p e s m below meth c Q) (ls : Array Slot) (hl : lv_has ls 4 [(3, .int (nI (4 * t))), (2, .ref (x + 262)), (1, .ref x), (0, .ref b)]) : W p l e room_1 s m #[.ref b] below meth c H locs (270 + 36 * t) (8085 + 342 * t) Q (F0 m 342 ls []) := by
  have hx := C0.1
  have hb := C0.2.1
  obtain ⟨S, sp, bf, sv, iz, rr, pd, ln, sts, td, ac⟩ := M
  obtain ⟨hXA, hMA, hsz, hS, hR⟩ := hI
  have ht6 : t ≤ 600 := by omega
  have hRB : RB t X.1 S := hR.1
  have hs : RS X.1 S := hRB.1
  have hP : RP X.2.1.1 pd ln := hR.2.1
  have hH : RH t X.2.2.1.1 X.2.2.1.2.2 bf sts := hR.2.2.1
  have hV : RV t X.2.2.2.1 X.2.2.2.2 iz sv := hR.2.2.2
  have hXO : XOk X := la_ok hR ht6
  have hM : mOk S := hRB.mOk (by omega)
  have h6 := hH.2.1
  have hln := hP.2.1
  have hpd := hP.2.2.2
  have hB := hRB.hB (by omega)
  have hch := hRB.hch
  have hiz : ∀ k, k < 2 → iz k < 2 := fun k hk => (hV k hk).1
  refine lv_aload_n hx hb d_La_law_342 rfl (lv_at hl 2 rfl) ?_
  refine g_V C0 (k_Ga_namesake l G x X  hXO) co_Ga_namesake im_Ga_namesake se_Ga_namesake in_Ga gc_Ga_namesake ml_La_41 ⟨Nat.le_of_ble_eq_true rfl, Nat.le_of_ble_eq_true rfl⟩ hK hXA.1 rfl hXA rfl hl.1 rfl (Nat.le_of_ble_eq_true rfl) d_La_law_343 ⟨(by show 270 + 36 * t + 0 ≤ 600000; omega), (by show 8085 + 342 * t + 0 ≤ 7302250; omega)⟩ (g_wi (free := fun q => x ≤ q) hS.2.2 (fun q h => h.1) (fun H1 locs1 hL1 ⟨hX1, hf1⟩ => ?_))
  have hS1 : va_S (fun q => x ≤ q) s.heap H1 locs1 := la_S hxs hS hf1 (Nat.le_refl _) hL1
  have hMA1 := hMA.fr hf1 (Or.inr (Nat.le_refl _))
  refine lv_aload_n hx hb d_La_law_346 rfl (lv_at hl 1 rfl) ?_
  refine g_V C0 (k_Mo_namesake l G (x + 262) S sp bf sv iz rr pd ln sts td ac  h6 hln hpd hM) co_Mo_namesake im_Mo_namesake se_Mo_namesake in_Mo gc_Mo_namesake ml_La_44 ⟨Nat.le_of_ble_eq_true rfl, Nat.le_of_ble_eq_true rfl⟩ hK hMA1.1 rfl hMA1 rfl hl.1 rfl (Nat.le_of_ble_eq_true rfl) d_La_law_347 ⟨(by show 270 + 36 * t + 0 ≤ 600000; omega), (by show 8085 + 342 * t + 0 ≤ 7302250; omega)⟩ (g_wi (free := fun q => x ≤ q) hL1 (fun q h => (by have h2 := h.1; show x ≤ q; omega)) (fun H2 locs2 hL2 ⟨hM2, hf2⟩ => ?_))
  refine lv_icmp_eq (tgt := 931) hx hb d_La_law_350 (by decide) (fun _ => ?_) (fun hne => ?_)
  · refine W.widen (k := 270 + 36 * (t + 1)) (n := 8085 + 342 * (t + 1)) (by omega) (by omega) ?_
    have hRA := tz_nk hR 
    exact kk _ _ H2 locs2 ⟨hX1.fr2 hf2, hM2, (by rw [hf2.1, hf1.1]; exact hsz), la_S hxs hS1 hf2 (by omega) hL2, hRA.2⟩ ls hl
  · exact absurd (tz_nk hR ).1 hne

set_option maxHeartbeats 4000000 in
set_option maxRecDepth 100000 in
theorem la_c7 (l : Launch) (G : gT) (C0 : CallFix p m c code 4 s #[.ref b] lw_g "GaleNamesLaw") (hK : gK G s) (hL : L ≤ 2048) (hX0 : va_X b L xs s s.heap) (hxs : x = s.heap.size) (hbl : b < s.heap.size) (h4 : 4 * t + 4 ≤ L) (hI : laI G s x t X M H locs) (kk : laK l G b x t p e s m below meth c Q) (ls : Array Slot) (hl : lv_has ls 4 [(3, .int (nI (4 * t))), (2, .ref (x + 262)), (1, .ref x), (0, .ref b)]) : W p l e room_1 s m #[.ref b] below meth c H locs (270 + 36 * t) (8085 + 342 * t) Q (F0 m 355 ls []) := by
  have hx := C0.1
  have hb := C0.2.1
  obtain ⟨S, sp, bf, sv, iz, rr, pd, ln, sts, td, ac⟩ := M
  obtain ⟨hXA, hMA, hsz, hS, hR⟩ := hI
  have ht6 : t ≤ 600 := by omega
  have hRB : RB t X.1 S := hR.1
  have hs : RS X.1 S := hRB.1
  have hP : RP X.2.1.1 pd ln := hR.2.1
  have hH : RH t X.2.2.1.1 X.2.2.1.2.2 bf sts := hR.2.2.1
  have hV : RV t X.2.2.2.1 X.2.2.2.2 iz sv := hR.2.2.2
  have hXO : XOk X := la_ok hR ht6
  have hM : mOk S := hRB.mOk (by omega)
  have h6 := hH.2.1
  have hln := hP.2.1
  have hpd := hP.2.2.2
  have hB := hRB.hB (by omega)
  have hch := hRB.hch
  have hiz : ∀ k, k < 2 → iz k < 2 := fun k hk => (hV k hk).1
  refine lv_aload_n hx hb d_La_law_355 rfl (lv_at hl 2 rfl) ?_
  refine lv_aload_n hx hb d_La_law_356 rfl (lv_at hl 3 rfl) ?_
  refine lv_iload_n hx hb d_La_law_357 rfl (lv_at hl 0 rfl) ?_
  refine lv_iconst (v := nI 1) hx hb d_La_law_358 (by decide +kernel) ?_
  refine g_iadd C0 (z := 4 * t + 1) d_La_law_359 rfl ?_
  refine la_sld C0 hX0 hxs hbl hS (by omega) hL d_La_law_360 ?_
  refine g_V C0 (k_Ga_apologise l G x X (xs (4 * t + 1)) hXO) co_Ga_apologise im_Ga_apologise se_Ga_apologise in_Ga gc_Ga_apologise ml_La_45 ⟨Nat.le_of_ble_eq_true rfl, Nat.le_of_ble_eq_true rfl⟩ hK hXA.1 rfl hXA rfl hl.1 rfl (Nat.le_of_ble_eq_true rfl) d_La_law_361 ⟨(by show 270 + 36 * t + 0 ≤ 600000; omega), (by show 8085 + 342 * t + 0 ≤ 7302250; omega)⟩ (g_wi (free := fun q => x ≤ q) hS.2.2 (fun q h => h.1) (fun H1 locs1 hL1 ⟨hX1, hf1⟩ => ?_))
  have hS1 : va_S (fun q => x ≤ q) s.heap H1 locs1 := la_S hxs hS hf1 (Nat.le_refl _) hL1
  have hMA1 := hMA.fr hf1 (Or.inr (Nat.le_refl _))
  refine lv_aload_n hx hb d_La_law_364 rfl (lv_at hl 1 rfl) ?_
  refine lv_aload_n hx hb d_La_law_365 rfl (lv_at hl 3 rfl) ?_
  refine lv_iload_n hx hb d_La_law_366 rfl (lv_at hl 0 rfl) ?_
  refine lv_iconst (v := nI 1) hx hb d_La_law_367 (by decide +kernel) ?_
  refine g_iadd C0 (z := 4 * t + 1) d_La_law_368 rfl ?_
  refine la_sld C0 hX0 hxs hbl hS1 (by omega) hL d_La_law_369 ?_
  refine g_V C0 (k_Mo_apologise l G (x + 262) S sp bf sv iz rr pd ln sts td ac (xs (4 * t + 1)) h6 hM) co_Mo_apologise im_Mo_apologise se_Mo_apologise in_Mo gc_Mo_apologise ml_La_48 ⟨Nat.le_of_ble_eq_true rfl, Nat.le_of_ble_eq_true rfl⟩ hK hMA1.1 rfl hMA1 rfl hl.1 rfl (Nat.le_of_ble_eq_true rfl) d_La_law_370 ⟨(by show 270 + 36 * t + 0 ≤ 600000; omega), (by show 8085 + 342 * t + 0 ≤ 7302250; omega)⟩ (g_wi (free := fun q => x ≤ q) hL1 (fun q h => (by have h2 := h.1; show x ≤ q; omega)) (fun H2 locs2 hL2 ⟨hM2, hf2⟩ => ?_))
  refine lv_icmp_eq (tgt := 931) hx hb d_La_law_373 (by decide) (fun _ => ?_) (fun hne => ?_)
  · refine W.widen (k := 270 + 36 * (t + 1)) (n := 8085 + 342 * (t + 1)) (by omega) (by omega) ?_
    have hRA := tz_apo hR (xs (4 * t + 1))
    exact kk _ _ H2 locs2 ⟨hX1.fr2 hf2, hM2, (by rw [hf2.1, hf1.1]; exact hsz), la_S hxs hS1 hf2 (by omega) hL2, hRA.2⟩ ls hl
  · exact absurd (tz_apo hR (xs (4 * t + 1))).1 hne

set_option maxHeartbeats 4000000 in
set_option maxRecDepth 100000 in
theorem la_c8 (l : Launch) (G : gT) (C0 : CallFix p m c code 4 s #[.ref b] lw_g "GaleNamesLaw") (hK : gK G s) (hL : L ≤ 2048) (hX0 : va_X b L xs s s.heap) (hxs : x = s.heap.size) (hbl : b < s.heap.size) (h4 : 4 * t + 4 ≤ L) (hI : laI G s x t X M H locs) (kk : laK l G b x t p e s m below meth c Q) (ls : Array Slot) (hl : lv_has ls 4 [(3, .int (nI (4 * t))), (2, .ref (x + 262)), (1, .ref x), (0, .ref b)]) : W p l e room_1 s m #[.ref b] below meth c H locs (270 + 36 * t) (8085 + 342 * t) Q (F0 m 378 ls []) := by
  have hx := C0.1
  have hb := C0.2.1
  obtain ⟨S, sp, bf, sv, iz, rr, pd, ln, sts, td, ac⟩ := M
  obtain ⟨hXA, hMA, hsz, hS, hR⟩ := hI
  have ht6 : t ≤ 600 := by omega
  have hRB : RB t X.1 S := hR.1
  have hs : RS X.1 S := hRB.1
  have hP : RP X.2.1.1 pd ln := hR.2.1
  have hH : RH t X.2.2.1.1 X.2.2.1.2.2 bf sts := hR.2.2.1
  have hV : RV t X.2.2.2.1 X.2.2.2.2 iz sv := hR.2.2.2
  have hXO : XOk X := la_ok hR ht6
  have hM : mOk S := hRB.mOk (by omega)
  have h6 := hH.2.1
  have hln := hP.2.1
  have hpd := hP.2.2.2
  have hB := hRB.hB (by omega)
  have hch := hRB.hch
  have hiz : ∀ k, k < 2 → iz k < 2 := fun k hk => (hV k hk).1
  refine lv_aload_n hx hb d_La_law_378 rfl (lv_at hl 2 rfl) ?_
  refine lv_aload_n hx hb d_La_law_379 rfl (lv_at hl 3 rfl) ?_
  refine lv_iload_n hx hb d_La_law_380 rfl (lv_at hl 0 rfl) ?_
  refine lv_iconst (v := nI 1) hx hb d_La_law_381 (by decide +kernel) ?_
  refine g_iadd C0 (z := 4 * t + 1) d_La_law_382 rfl ?_
  refine la_sld C0 hX0 hxs hbl hS (by omega) hL d_La_law_383 ?_
  refine lv_aload_n hx hb d_La_law_384 rfl (lv_at hl 3 rfl) ?_
  refine lv_iload_n hx hb d_La_law_385 rfl (lv_at hl 0 rfl) ?_
  refine lv_iconst (v := nI 2) hx hb d_La_law_386 (by decide +kernel) ?_
  refine g_iadd C0 (z := 4 * t + 2) d_La_law_387 rfl ?_
  refine la_sld C0 hX0 hxs hbl hS (by omega) hL d_La_law_388 ?_
  refine g_V C0 (k_Ga_write l G x X (xs (4 * t + 1)) (xs (4 * t + 2)) hXO) co_Ga_write im_Ga_write se_Ga_write in_Ga gc_Ga_write ml_La_49 ⟨Nat.le_of_ble_eq_true rfl, Nat.le_of_ble_eq_true rfl⟩ hK hXA.1 rfl hXA rfl hl.1 rfl (Nat.le_of_ble_eq_true rfl) d_La_law_389 ⟨(by show 270 + 36 * t + 0 ≤ 600000; omega), (by show 8085 + 342 * t + 0 ≤ 7302250; omega)⟩ (g_wi (free := fun q => x ≤ q) hS.2.2 (fun q h => h.1) (fun H1 locs1 hL1 ⟨hX1, hf1⟩ => ?_))
  have hS1 : va_S (fun q => x ≤ q) s.heap H1 locs1 := la_S hxs hS hf1 (Nat.le_refl _) hL1
  have hMA1 := hMA.fr hf1 (Or.inr (Nat.le_refl _))
  refine lv_aload_n hx hb d_La_law_392 rfl (lv_at hl 1 rfl) ?_
  refine lv_aload_n hx hb d_La_law_393 rfl (lv_at hl 3 rfl) ?_
  refine lv_iload_n hx hb d_La_law_394 rfl (lv_at hl 0 rfl) ?_
  refine lv_iconst (v := nI 1) hx hb d_La_law_395 (by decide +kernel) ?_
  refine g_iadd C0 (z := 4 * t + 1) d_La_law_396 rfl ?_
  refine la_sld C0 hX0 hxs hbl hS1 (by omega) hL d_La_law_397 ?_
  refine lv_aload_n hx hb d_La_law_398 rfl (lv_at hl 3 rfl) ?_
  refine lv_iload_n hx hb d_La_law_399 rfl (lv_at hl 0 rfl) ?_
  refine lv_iconst (v := nI 2) hx hb d_La_law_400 (by decide +kernel) ?_
  refine g_iadd C0 (z := 4 * t + 2) d_La_law_401 rfl ?_
  refine la_sld C0 hX0 hxs hbl hS1 (by omega) hL d_La_law_402 ?_
  refine g_V C0 (k_Mo_write l G (x + 262) S sp bf sv iz rr pd ln sts td ac (xs (4 * t + 1)) (xs (4 * t + 2)) hln hM hch) co_Mo_write im_Mo_write se_Mo_write in_Mo gc_Mo_write ml_La_52 ⟨Nat.le_of_ble_eq_true rfl, Nat.le_of_ble_eq_true rfl⟩ hK hMA1.1 rfl hMA1 rfl hl.1 rfl (Nat.le_of_ble_eq_true rfl) d_La_law_403 ⟨(by show 270 + 36 * t + 0 ≤ 600000; omega), (by show 8085 + 342 * t + 0 ≤ 7302250; omega)⟩ (g_wi (free := fun q => x ≤ q) hL1 (fun q h => (by have h2 := h.1; show x ≤ q; omega)) (fun H2 locs2 hL2 ⟨hM2, hf2⟩ => ?_))
  refine lv_icmp_eq (tgt := 931) hx hb d_La_law_406 (by decide) (fun _ => ?_) (fun hne => ?_)
  · refine W.widen (k := 270 + 36 * (t + 1)) (n := 8085 + 342 * (t + 1)) (by omega) (by omega) ?_
    have hRA := tz_write hR ht6 (xs (4 * t + 1)) (xs (4 * t + 2))
    exact kk _ _ H2 locs2 ⟨hX1.fr2 hf2, hM2, (by rw [hf2.1, hf1.1]; exact hsz), la_S hxs hS1 hf2 (by omega) hL2, hRA.2⟩ ls hl
  · exact absurd (tz_write hR ht6 (xs (4 * t + 1)) (xs (4 * t + 2))).1 hne

set_option maxHeartbeats 4000000 in
set_option maxRecDepth 100000 in
theorem la_c9 (l : Launch) (G : gT) (C0 : CallFix p m c code 4 s #[.ref b] lw_g "GaleNamesLaw") (hK : gK G s) (hL : L ≤ 2048) (hX0 : va_X b L xs s s.heap) (hxs : x = s.heap.size) (hbl : b < s.heap.size) (h4 : 4 * t + 4 ≤ L) (hI : laI G s x t X M H locs) (kk : laK l G b x t p e s m below meth c Q) (ls : Array Slot) (hl : lv_has ls 4 [(3, .int (nI (4 * t))), (2, .ref (x + 262)), (1, .ref x), (0, .ref b)]) : W p l e room_1 s m #[.ref b] below meth c H locs (270 + 36 * t) (8085 + 342 * t) Q (F0 m 411 ls []) := by
  have hx := C0.1
  have hb := C0.2.1
  obtain ⟨S, sp, bf, sv, iz, rr, pd, ln, sts, td, ac⟩ := M
  obtain ⟨hXA, hMA, hsz, hS, hR⟩ := hI
  have ht6 : t ≤ 600 := by omega
  have hRB : RB t X.1 S := hR.1
  have hs : RS X.1 S := hRB.1
  have hP : RP X.2.1.1 pd ln := hR.2.1
  have hH : RH t X.2.2.1.1 X.2.2.1.2.2 bf sts := hR.2.2.1
  have hV : RV t X.2.2.2.1 X.2.2.2.2 iz sv := hR.2.2.2
  have hXO : XOk X := la_ok hR ht6
  have hM : mOk S := hRB.mOk (by omega)
  have h6 := hH.2.1
  have hln := hP.2.1
  have hpd := hP.2.2.2
  have hB := hRB.hB (by omega)
  have hch := hRB.hch
  have hiz : ∀ k, k < 2 → iz k < 2 := fun k hk => (hV k hk).1
  refine lv_aload_n hx hb d_La_law_411 rfl (lv_at hl 2 rfl) ?_
  refine lv_aload_n hx hb d_La_law_412 rfl (lv_at hl 3 rfl) ?_
  refine lv_iload_n hx hb d_La_law_413 rfl (lv_at hl 0 rfl) ?_
  refine lv_iconst (v := nI 1) hx hb d_La_law_414 (by decide +kernel) ?_
  refine g_iadd C0 (z := 4 * t + 1) d_La_law_415 rfl ?_
  refine la_sld C0 hX0 hxs hbl hS (by omega) hL d_La_law_416 ?_
  refine lv_aload_n hx hb d_La_law_417 rfl (lv_at hl 3 rfl) ?_
  refine lv_iload_n hx hb d_La_law_418 rfl (lv_at hl 0 rfl) ?_
  refine lv_iconst (v := nI 2) hx hb d_La_law_419 (by decide +kernel) ?_
  refine g_iadd C0 (z := 4 * t + 2) d_La_law_420 rfl ?_
  refine la_sld C0 hX0 hxs hbl hS (by omega) hL d_La_law_421 ?_
  refine g_V C0 (k_Ga_of l G x X (xs (4 * t + 1)) (xs (4 * t + 2)) hXO) co_Ga_of im_Ga_of se_Ga_of in_Ga gc_Ga_of ml_La_53 ⟨Nat.le_of_ble_eq_true rfl, Nat.le_of_ble_eq_true rfl⟩ hK hXA.1 rfl hXA rfl hl.1 rfl (Nat.le_of_ble_eq_true rfl) d_La_law_422 ⟨(by show 270 + 36 * t + 0 ≤ 600000; omega), (by show 8085 + 342 * t + 0 ≤ 7302250; omega)⟩ (g_r rfl ?_)
  have hS1 := hS
  refine lv_aload_n hx hb d_La_law_425 rfl (lv_at hl 1 rfl) ?_
  refine lv_aload_n hx hb d_La_law_426 rfl (lv_at hl 3 rfl) ?_
  refine lv_iload_n hx hb d_La_law_427 rfl (lv_at hl 0 rfl) ?_
  refine lv_iconst (v := nI 1) hx hb d_La_law_428 (by decide +kernel) ?_
  refine g_iadd C0 (z := 4 * t + 1) d_La_law_429 rfl ?_
  refine la_sld C0 hX0 hxs hbl hS1 (by omega) hL d_La_law_430 ?_
  refine lv_aload_n hx hb d_La_law_431 rfl (lv_at hl 3 rfl) ?_
  refine lv_iload_n hx hb d_La_law_432 rfl (lv_at hl 0 rfl) ?_
  refine lv_iconst (v := nI 2) hx hb d_La_law_433 (by decide +kernel) ?_
  refine g_iadd C0 (z := 4 * t + 2) d_La_law_434 rfl ?_
  refine la_sld C0 hX0 hxs hbl hS1 (by omega) hL d_La_law_435 ?_
  refine g_V C0 (k_Mo_of l G (x + 262) S sp bf sv iz rr pd ln sts td ac (xs (4 * t + 1)) (xs (4 * t + 2)) hM) co_Mo_of im_Mo_of se_Mo_of in_Mo gc_Mo_of ml_La_56 ⟨Nat.le_of_ble_eq_true rfl, Nat.le_of_ble_eq_true rfl⟩ hK hMA.1 rfl hMA rfl hl.1 rfl (Nat.le_of_ble_eq_true rfl) d_La_law_436 ⟨(by show 270 + 36 * t + 0 ≤ 600000; omega), (by show 8085 + 342 * t + 0 ≤ 7302250; omega)⟩ (g_r rfl ?_)
  refine lv_icmp_eq (tgt := 931) hx hb d_La_law_439 (by decide) (fun _ => ?_) (fun hne => ?_)
  · refine W.widen (k := 270 + 36 * (t + 1)) (n := 8085 + 342 * (t + 1)) (by omega) (by omega) ?_
    exact kk X (S, sp, bf, sv, iz, rr, pd, ln, sts, td, ac) H locs ⟨hXA, hMA, hsz, hS, hR.mono (Nat.le_succ t)⟩ ls hl
  · exact absurd (a_Of hs (xs (4 * t + 1)) (xs (4 * t + 2))) hne
end
