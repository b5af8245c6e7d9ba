set_option maxHeartbeats 2000000 in
set_option maxRecDepth 100000 in
theorem law_set (p : Program) (l : Launch) (e : Env) (s : State) (m : MethodId) (below : List Frame) (meth : Method) (c : Code) (Q : State → Prop) (D : va_G) (ty : Nat → ClassId) (tl : ClassId) (t0 mi b L : Nat) (xs : Nat → Int32) (hC : lwC p l s m meth c D ty tl t0 mi b L xs) (ad : Nat → Nat) (ob : Nat) (g : Nat → Nat → Int32) (x y z : Nat → Int32) (f : Nat → Int64) (u : Nat → Nat → Prop) (C : Nat → Nat → va_E) (ma : Nat → Nat → Nat) (n1 n2 nL n4 n5 kk : Nat) (rep bro : Nat → Nat → Int32) (th : Int32) (H : Heap) (locs : List Loc) (cells slots : Nat) (hW : lwI D ty tl t0 s.heap.size ad ob g x y z f u C ma n1 n2 nL n4 n5 kk rep bro th H) (hS : va_S (fun q => s.heap.size ≤ q) s.heap H locs) (ls : Array Slot) (j : Nat) (hj : j + 7 ≤ L) (hl : lv_has ls 9 [(4, .int (nI j)), (3, .ref ob), (2, .ref (ma 0 0)), (1, .ref (ad 0)), (0, .ref b)]) (hc : cells + 1 + 6 ≤ 594050 ∧ slots + 6 + 86 ≤ 7313955) (K : lwK p l e s m below meth c Q D ty tl t0 b ad ob j (ma 0 0) n5 kk 6 (cells + 1 + 6) (slots + 6 + 86)) : W p l e room_1 s m #[Value.ref b] below meth c H locs cells slots Q (F0 m 156 ls []) := by
  obtain ⟨hP, ⟨hij, hob, hlo, hoo⟩, hO, hM, hR, hN⟩ := hW
  have hC0 := hC
  obtain ⟨⟨hx, hb, hr, hml, hlocks, hlt⟩, ⟨hown, hts, hX, hbl, hL⟩, ⟨hKz, hK, hKl⟩, hNz, hT, hQ, hMS, hNc⟩ := hC
  have hbA : ¬ s.heap.size ≤ b := Nat.not_le.mpr hbl
  refine lv_aload_n hx hb dL_law_156 rfl (lv_at hl 3 rfl) ?_
  refine lv_aload_n hx hb dL_law_157 rfl (lv_at hl 4 rfl) ?_
  refine lv_iload hx hb dL_law_158 (lv_at hl 0 rfl) ?_
  refine lv_iconst (v := nI 1) hx hb dL_law_160 (by decide) ?_
  refine lv_iadd hx hb dL_law_161 ?_
  refine zeq (nI_add j 1) ?_
  refine zsld hx hb hX hbl hbA hS (show j + 1 < L by omega) (by omega) dL_law_162 ?_
  refine lv_aload_n hx hb dL_law_163 rfl (lv_at hl 1 rfl) ?_
  obtain ⟨k, b9, g1, x1, y1, z1, n11, n21, nL1, n41, n51, kk1, rep1, bro1, hk4, hZ, hWr, hMo, hN1, hkk⟩ := b_set l hlt D ty tl (mA s.heap.size ob ad) u C ma t0 mi g x y z ad hij ob f H.size hob n1 n2 nL n4 n5 kk th rep bro hR hN (xs (j + 1))
  have hWA := WC_hs hlo hoo hS.1
  refine va_calli (vx_runSW (As := [.ref (ad 0), .int (xs (j + 1)), .ref ob]) (rest := []) ⟨hx, hb, hml, hown, hts⟩ hWr (vx_cwSW 3 hts gL_law_L_set rfl rfl rfl (by decide +kernel) ⟨Nat.le_of_ble_eq_true rfl, Nat.le_of_ble_eq_true rfl⟩) ⟨zBl wX_blind, fun U h1 h2 => ⟨rfl, wX_law hC0 hS hP hO U h1 h2⟩⟩ rfl rfl hl.1 rfl (lv_room (Nat.le_of_ble_eq_true rfl)) dL_law_164 ⟨by show _ ≤ 594050; omega, by show _ ≤ 7313955; omega⟩) hS (fun q _ h => hWA q h) (fun q h => hWA q h) (fun r S t H1 locs ht hvm hw hB hz1 hk1 hS => ?_)
  obtain ⟨g2, f2⟩ := S
  obtain ⟨rfl, hg, hout⟩ := hw
  obtain rfl : g2 = g1 := hg
  have hP : va_P D vwCl (zC ty g2 ad) H1 := by rw [← ht]; exact hB.1
  have hO : va_at D vwCl (ob, eL tl f2) H1 := by rw [← ht]; exact hB.2
  have hM : mW D (mA s.heap.size ob ad) u C ma H1 := hM.ext (fun q hq hA => hk1 q hq (mA_WC hA hq)) hz1
  clear hB ht hvm hz1 hk1 hWA
  clear t
  refine lv_istore (lv' := [(5, .int (nI k)), (4, .int (nI j)), (3, .ref ob), (2, .ref (ma 0 0)), (1, .ref (ad 0)), (0, .ref b)]) hx hb dL_law_167 hl (by decide) rfl (fun ls hl => ?_)
  refine lv_aload_n hx hb dL_law_169 rfl (lv_at hl 3 rfl) ?_
  refine lv_aload_n hx hb dL_law_170 rfl (lv_at hl 5 rfl) ?_
  refine lv_iload hx hb dL_law_171 (lv_at hl 1 rfl) ?_
  refine lv_iconst (v := nI 1) hx hb dL_law_173 (by decide) ?_
  refine lv_iadd hx hb dL_law_174 ?_
  refine zeq (nI_add j 1) ?_
  refine zsld hx hb hX hbl hbA hS (show j + 1 < L by omega) (by omega) dL_law_175 ?_
  refine va_calli (va_runV (As := [.int (xs (j + 1))]) (rest := []) ⟨hx, hb, hml, hown, hts⟩ hMo (cwV 1 hts gL_law_X12_set rfl rfl rfl (by decide +kernel) ⟨Nat.le_of_ble_eq_true rfl, Nat.le_of_ble_eq_true rfl⟩) ⟨zBl mI_blind, va_recv hK (hM.Pa hR.o.1 rfl hR.o.2) (ci := 13) (q0 := 0) rfl rfl, fun U h1 h2 => ⟨rfl, mI_law hC0 hS hM U h1 h2⟩⟩ rfl rfl hl.1 rfl (lv_room (Nat.le_of_ble_eq_true rfl)) dL_law_176 ⟨by show _ ≤ 594050; omega, by show _ ≤ 7313955; omega⟩) hS (fun q _ h => h.1) (fun q h => h.1) (fun r S t H2 locs ht hvm hw hB hz1 hk1 hS => ?_)
  obtain ⟨u2, C2, ma2⟩ := S
  obtain ⟨rfl, h00, hR2⟩ := hw
  have h00 : ma2 0 0 = ma 0 0 := h00
  have hM2 : mW D (mA s.heap.size ob ad) u2 C2 ma2 H2 := by rw [← ht]; exact hB.1
  have hP : va_P D vwCl (zC ty g2 ad) H2 := zC_kept hP (fun k hk h => hk1 _ h (fun z => z.2.2 k hk rfl))
  have hO : va_at D vwCl (ob, eL tl f2) H2 := hO.kept (hk1 ob hO.lt (fun z => z.2.1 rfl))
  refine lv_istore (lv' := [(6, .int r), (5, .int (nI k)), (4, .int (nI j)), (3, .ref ob), (2, .ref (ma 0 0)), (1, .ref (ad 0)), (0, .ref b)]) hx hb dL_law_179 hl (by decide) rfl (fun ls hl => ?_)
  have hl5 : lv_has ls 9 [(4, .int (nI j)), (3, .ref ob), (2, .ref (ma 0 0)), (1, .ref (ad 0)), (0, .ref b)] := lv_sub hl [2, 3, 4, 5, 6] rfl
  have hl : lv_has ls 9 [(6, .int r), (5, .int (nI k)), (4, .int (nI j)), (3, .ref ob), (2, .ref (ma 0 0)), (1, .ref (ad 0)), (0, .ref b)] := hl
  rw [← h00] at hl
  exact law_tail hC0 hS hO hM2 hk4 hR2 hout hl ⟨by show _ ≤ 594050; omega, by show _ ≤ 7313955; omega⟩ dL_law_181 dL_law_182 dL_law_185 dL_law_187 dL_law_192 dL_law_194 dL_law_197 dL_law_198 dL_law_199 dL_law_200 dL_law_202 dL_law_203 dL_law_204 dL_law_209 (by decide) (K _ _ _ _ _ _ _ _ _ _ _ _ _ _ _ _ _ _ _ _ ⟨hP, ⟨hij, hob, hlo, hoo⟩, hO, hM2, hR2, hN1⟩ h00 hkk hS hl5)
set_option maxHeartbeats 2000000 in
set_option maxRecDepth 100000 in
theorem law_terms (p : Program) (l : Launch) (e : Env) (s : State) (m : MethodId) (below : List Frame) (meth : Method) (c : Code) (Q : State → Prop) (D : va_G) (ty : Nat → ClassId) (tl : ClassId) (t0 mi b L : Nat) (xs : Nat → Int32) (hC : lwC p l s m meth c D ty tl t0 mi b L xs) (ad : Nat → Nat) (ob : Nat) (g : Nat → Nat → Int32) (x y z : Nat → Int32) (f : Nat → Int64) (u : Nat → Nat → Prop) (C : Nat → Nat → va_E) (ma : Nat → Nat → Nat) (n1 n2 nL n4 n5 kk : Nat) (rep bro : Nat → Nat → Int32) (th : Int32) (H : Heap) (locs : List Loc) (cells slots : Nat) (hW : lwI D ty tl t0 s.heap.size ad ob g x y z f u C ma n1 n2 nL n4 n5 kk rep bro th H) (hS : va_S (fun q => s.heap.size ≤ q) s.heap H locs) (ls : Array Slot) (j : Nat) (hj : j + 7 ≤ L) (hl : lv_has ls 9 [(4, .int (nI j)), (3, .ref ob), (2, .ref (ma 0 0)), (1, .ref (ad 0)), (0, .ref b)]) (hc : cells + 1 + 0 ≤ 594050 ∧ slots + 6 + 0 ≤ 7313955) (K : lwK p l e s m below meth c Q D ty tl t0 b ad ob j (ma 0 0) n5 kk 0 (cells + 1 + 0) (slots + 6 + 0)) : W p l e room_1 s m #[Value.ref b] below meth c H locs cells slots Q (F0 m 212 ls []) := by
  obtain ⟨hP, ⟨hij, hob, hlo, hoo⟩, hO, hM, hR, hN⟩ := hW
  have hC0 := hC
  obtain ⟨⟨hx, hb, hr, hml, hlocks, hlt⟩, ⟨hown, hts, hX, hbl, hL⟩, ⟨hKz, hK, hKl⟩, hNz, hT, hQ, hMS, hNc⟩ := hC
  have hbA : ¬ s.heap.size ≤ b := Nat.not_le.mpr hbl
  refine lv_aload_n hx hb dL_law_212 rfl (lv_at hl 3 rfl) ?_
  refine lv_aload_n hx hb dL_law_213 rfl (lv_at hl 4 rfl) ?_
  refine lv_iload hx hb dL_law_214 (lv_at hl 0 rfl) ?_
  refine lv_iconst (v := nI 1) hx hb dL_law_216 (by decide) ?_
  refine lv_iadd hx hb dL_law_217 ?_
  refine zeq (nI_add j 1) ?_
  refine zsld hx hb hX hbl hbA hS (show j + 1 < L by omega) (by omega) dL_law_218 ?_
  refine lv_aload_n hx hb dL_law_219 rfl (lv_at hl 4 rfl) ?_
  refine lv_iload hx hb dL_law_220 (lv_at hl 0 rfl) ?_
  refine lv_iconst (v := nI 2) hx hb dL_law_222 (by decide) ?_
  refine lv_iadd hx hb dL_law_223 ?_
  refine zeq (nI_add j 2) ?_
  refine zsld hx hb hX hbl hbA hS (show j + 2 < L by omega) (by omega) dL_law_224 ?_
  refine lv_aload_n hx hb dL_law_225 rfl (lv_at hl 4 rfl) ?_
  refine lv_iload hx hb dL_law_226 (lv_at hl 0 rfl) ?_
  refine lv_iconst (v := nI 3) hx hb dL_law_228 (by decide) ?_
  refine lv_iadd hx hb dL_law_229 ?_
  refine zeq (nI_add j 3) ?_
  refine zsld hx hb hX hbl hbA hS (show j + 3 < L by omega) (by omega) dL_law_230 ?_
  refine lv_aload_n hx hb dL_law_231 rfl (lv_at hl 4 rfl) ?_
  refine lv_iload hx hb dL_law_232 (lv_at hl 0 rfl) ?_
  refine lv_iconst (v := nI 4) hx hb dL_law_234 (by decide) ?_
  refine lv_iadd hx hb dL_law_235 ?_
  refine zeq (nI_add j 4) ?_
  refine zsld hx hb hX hbl hbA hS (show j + 4 < L by omega) (by omega) dL_law_236 ?_
  refine lv_aload_n hx hb dL_law_237 rfl (lv_at hl 1 rfl) ?_
  obtain ⟨k, b9, g1, x1, y1, z1, n11, n21, nL1, n41, n51, kk1, rep1, bro1, hk4, hZ, hWr, hMo, hN1, hkk⟩ := b_terms l hlt D ty tl (mA s.heap.size ob ad) u C ma t0 mi g x y z ad hij ob f H.size hob n1 n2 nL n4 n5 kk th rep bro hR hN (xs (j + 1)) (xs (j + 2)) (xs (j + 3)) (xs (j + 4))
  have hWA := WC_hs hlo hoo hS.1
  refine va_calli (vx_runSW (As := [.ref (ad 0), .int (xs (j + 1)), .int (xs (j + 2)), .int (xs (j + 3)), .int (xs (j + 4)), .ref ob]) (rest := []) ⟨hx, hb, hml, hown, hts⟩ hWr (vx_cwSW 6 hts gL_law_L_terms rfl rfl rfl (by decide +kernel) ⟨Nat.le_of_ble_eq_true rfl, Nat.le_of_ble_eq_true rfl⟩) ⟨zBl wX_blind, fun U h1 h2 => ⟨rfl, wX_law hC0 hS hP hO U h1 h2⟩⟩ rfl rfl hl.1 rfl (lv_room (Nat.le_of_ble_eq_true rfl)) dL_law_238 ⟨by show _ ≤ 594050; omega, by show _ ≤ 7313955; omega⟩) hS (fun q _ h => hWA q h) (fun q h => hWA q h) (fun r S t H1 locs ht hvm hw hB hz1 hk1 hS => ?_)
  obtain ⟨g2, f2⟩ := S
  obtain ⟨rfl, hg, hout⟩ := hw
  obtain rfl : g2 = g1 := hg
  have hP : va_P D vwCl (zC ty g2 ad) H1 := by rw [← ht]; exact hB.1
  have hO : va_at D vwCl (ob, eL tl f2) H1 := by rw [← ht]; exact hB.2
  have hM : mW D (mA s.heap.size ob ad) u C ma H1 := hM.ext (fun q hq hA => hk1 q hq (mA_WC hA hq)) hz1
  clear hB ht hvm hz1 hk1 hWA
  clear t
  refine lv_istore (lv' := [(5, .int (nI k)), (4, .int (nI j)), (3, .ref ob), (2, .ref (ma 0 0)), (1, .ref (ad 0)), (0, .ref b)]) hx hb dL_law_241 hl (by decide) rfl (fun ls hl => ?_)
  refine lv_aload_n hx hb dL_law_243 rfl (lv_at hl 3 rfl) ?_
  refine lv_aload_n hx hb dL_law_244 rfl (lv_at hl 5 rfl) ?_
  refine lv_iload hx hb dL_law_245 (lv_at hl 1 rfl) ?_
  refine lv_iconst (v := nI 1) hx hb dL_law_247 (by decide) ?_
  refine lv_iadd hx hb dL_law_248 ?_
  refine zeq (nI_add j 1) ?_
  refine zsld hx hb hX hbl hbA hS (show j + 1 < L by omega) (by omega) dL_law_249 ?_
  refine lv_aload_n hx hb dL_law_250 rfl (lv_at hl 5 rfl) ?_
  refine lv_iload hx hb dL_law_251 (lv_at hl 1 rfl) ?_
  refine lv_iconst (v := nI 2) hx hb dL_law_253 (by decide) ?_
  refine lv_iadd hx hb dL_law_254 ?_
  refine zeq (nI_add j 2) ?_
  refine zsld hx hb hX hbl hbA hS (show j + 2 < L by omega) (by omega) dL_law_255 ?_
  refine lv_aload_n hx hb dL_law_256 rfl (lv_at hl 5 rfl) ?_
  refine lv_iload hx hb dL_law_257 (lv_at hl 1 rfl) ?_
  refine lv_iconst (v := nI 3) hx hb dL_law_259 (by decide) ?_
  refine lv_iadd hx hb dL_law_260 ?_
  refine zeq (nI_add j 3) ?_
  refine zsld hx hb hX hbl hbA hS (show j + 3 < L by omega) (by omega) dL_law_261 ?_
  refine lv_aload_n hx hb dL_law_262 rfl (lv_at hl 5 rfl) ?_
  refine lv_iload hx hb dL_law_263 (lv_at hl 1 rfl) ?_
  refine lv_iconst (v := nI 4) hx hb dL_law_265 (by decide) ?_
  refine lv_iadd hx hb dL_law_266 ?_
  refine zeq (nI_add j 4) ?_
  refine zsld hx hb hX hbl hbA hS (show j + 4 < L by omega) (by omega) dL_law_267 ?_
  refine va_calli (va_runV (As := [.int (xs (j + 1)), .int (xs (j + 2)), .int (xs (j + 3)), .int (xs (j + 4))]) (rest := []) ⟨hx, hb, hml, hown, hts⟩ hMo (cwV 4 hts gL_law_X12_terms rfl rfl rfl (by decide +kernel) ⟨Nat.le_of_ble_eq_true rfl, Nat.le_of_ble_eq_true rfl⟩) ⟨zBl mI_blind, va_recv hK (hM.Pa hR.o.1 rfl hR.o.2) (ci := 13) (q0 := 0) rfl rfl, fun U h1 h2 => ⟨rfl, mI_law hC0 hS hM U h1 h2⟩⟩ rfl rfl hl.1 rfl (lv_room (Nat.le_of_ble_eq_true rfl)) dL_law_268 ⟨by show _ ≤ 594050; omega, by show _ ≤ 7313955; omega⟩) hS (fun q _ h => h.1) (fun q h => h.1) (fun r S t H2 locs ht hvm hw hB hz1 hk1 hS => ?_)
  obtain ⟨u2, C2, ma2⟩ := S
  obtain ⟨rfl, h00, hR2⟩ := hw
  have h00 : ma2 0 0 = ma 0 0 := h00
  have hM2 : mW D (mA s.heap.size ob ad) u2 C2 ma2 H2 := by rw [← ht]; exact hB.1
  have hP : va_P D vwCl (zC ty g2 ad) H2 := zC_kept hP (fun k hk h => hk1 _ h (fun z => z.2.2 k hk rfl))
  have hO : va_at D vwCl (ob, eL tl f2) H2 := hO.kept (hk1 ob hO.lt (fun z => z.2.1 rfl))
  refine lv_istore (lv' := [(6, .int r), (5, .int (nI k)), (4, .int (nI j)), (3, .ref ob), (2, .ref (ma 0 0)), (1, .ref (ad 0)), (0, .ref b)]) hx hb dL_law_271 hl (by decide) rfl (fun ls hl => ?_)
  have hl5 : lv_has ls 9 [(4, .int (nI j)), (3, .ref ob), (2, .ref (ma 0 0)), (1, .ref (ad 0)), (0, .ref b)] := lv_sub hl [2, 3, 4, 5, 6] rfl
  have hl : lv_has ls 9 [(6, .int r), (5, .int (nI k)), (4, .int (nI j)), (3, .ref ob), (2, .ref (ma 0 0)), (1, .ref (ad 0)), (0, .ref b)] := hl
  rw [← h00] at hl
  exact law_tail hC0 hS hO hM2 hk4 hR2 hout hl ⟨by show _ ≤ 594050; omega, by show _ ≤ 7313955; omega⟩ dL_law_273 dL_law_274 dL_law_277 dL_law_279 dL_law_284 dL_law_286 dL_law_289 dL_law_290 dL_law_291 dL_law_292 dL_law_294 dL_law_295 dL_law_296 dL_law_301 (by decide) (K _ _ _ _ _ _ _ _ _ _ _ _ _ _ _ _ _ _ _ _ ⟨hP, ⟨hij, hob, hlo, hoo⟩, hO, hM2, hR2, hN1⟩ h00 hkk hS hl5)
set_option maxHeartbeats 2000000 in
set_option maxRecDepth 100000 in
theorem law_source (p : Program) (l : Launch) (e : Env) (s : State) (m : MethodId) (below : List Frame) (meth : Method) (c : Code) (Q : State → Prop) (D : va_G) (ty : Nat → ClassId) (tl : ClassId) (t0 mi b L : Nat) (xs : Nat → Int32) (hC : lwC p l s m meth c D ty tl t0 mi b L xs) (ad : Nat → Nat) (ob : Nat) (g : Nat → Nat → Int32) (x y z : Nat → Int32) (f : Nat → Int64) (u : Nat → Nat → Prop) (C : Nat → Nat → va_E) (ma : Nat → Nat → Nat) (n1 n2 nL n4 n5 kk : Nat) (rep bro : Nat → Nat → Int32) (th : Int32) (H : Heap) (locs : List Loc) (cells slots : Nat) (hW : lwI D ty tl t0 s.heap.size ad ob g x y z f u C ma n1 n2 nL n4 n5 kk rep bro th H) (hS : va_S (fun q => s.heap.size ≤ q) s.heap H locs) (ls : Array Slot) (j : Nat) (hj : j + 7 ≤ L) (hl : lv_has ls 9 [(4, .int (nI j)), (3, .ref ob), (2, .ref (ma 0 0)), (1, .ref (ad 0)), (0, .ref b)]) (hc : cells + 1 + 2 ≤ 594050 ∧ slots + 6 + 65 ≤ 7313955) (K : lwK p l e s m below meth c Q D ty tl t0 b ad ob j (ma 0 0) n5 kk 2 (cells + 1 + 2) (slots + 6 + 65)) : W p l e room_1 s m #[Value.ref b] below meth c H locs cells slots Q (F0 m 304 ls []) := by
  obtain ⟨hP, ⟨hij, hob, hlo, hoo⟩, hO, hM, hR, hN⟩ := hW
  have hC0 := hC
  obtain ⟨⟨hx, hb, hr, hml, hlocks, hlt⟩, ⟨hown, hts, hX, hbl, hL⟩, ⟨hKz, hK, hKl⟩, hNz, hT, hQ, hMS, hNc⟩ := hC
  have hbA : ¬ s.heap.size ≤ b := Nat.not_le.mpr hbl
  refine lv_aload_n hx hb dL_law_304 rfl (lv_at hl 3 rfl) ?_
  refine lv_aload_n hx hb dL_law_305 rfl (lv_at hl 4 rfl) ?_
  refine lv_iload hx hb dL_law_306 (lv_at hl 0 rfl) ?_
  refine lv_iconst (v := nI 1) hx hb dL_law_308 (by decide) ?_
  refine lv_iadd hx hb dL_law_309 ?_
  refine zeq (nI_add j 1) ?_
  refine zsld hx hb hX hbl hbA hS (show j + 1 < L by omega) (by omega) dL_law_310 ?_
  refine lv_aload_n hx hb dL_law_311 rfl (lv_at hl 4 rfl) ?_
  refine lv_iload hx hb dL_law_312 (lv_at hl 0 rfl) ?_
  refine lv_iconst (v := nI 2) hx hb dL_law_314 (by decide) ?_
  refine lv_iadd hx hb dL_law_315 ?_
  refine zeq (nI_add j 2) ?_
  refine zsld hx hb hX hbl hbA hS (show j + 2 < L by omega) (by omega) dL_law_316 ?_
  refine lv_aload_n hx hb dL_law_317 rfl (lv_at hl 4 rfl) ?_
  refine lv_iload hx hb dL_law_318 (lv_at hl 0 rfl) ?_
  refine lv_iconst (v := nI 3) hx hb dL_law_320 (by decide) ?_
  refine lv_iadd hx hb dL_law_321 ?_
  refine zeq (nI_add j 3) ?_
  refine zsld hx hb hX hbl hbA hS (show j + 3 < L by omega) (by omega) dL_law_322 ?_
  refine lv_aload_n hx hb dL_law_323 rfl (lv_at hl 4 rfl) ?_
  refine lv_iload hx hb dL_law_324 (lv_at hl 0 rfl) ?_
  refine lv_iconst (v := nI 4) hx hb dL_law_326 (by decide) ?_
  refine lv_iadd hx hb dL_law_327 ?_
  refine zeq (nI_add j 4) ?_
  refine zsld hx hb hX hbl hbA hS (show j + 4 < L by omega) (by omega) dL_law_328 ?_
  refine lv_aload_n hx hb dL_law_329 rfl (lv_at hl 4 rfl) ?_
  refine lv_iload hx hb dL_law_330 (lv_at hl 0 rfl) ?_
  refine lv_iconst (v := nI 5) hx hb dL_law_332 (by decide) ?_
  refine lv_iadd hx hb dL_law_333 ?_
  refine zeq (nI_add j 5) ?_
  refine zsld hx hb hX hbl hbA hS (show j + 5 < L by omega) (by omega) dL_law_334 ?_
  refine lv_aload_n hx hb dL_law_335 rfl (lv_at hl 1 rfl) ?_
  obtain ⟨k, b9, g1, x1, y1, z1, n11, n21, nL1, n41, n51, kk1, rep1, bro1, hk4, hZ, hWr, hMo, hN1, hkk⟩ := b_source l hlt D ty tl (mA s.heap.size ob ad) u C ma t0 mi g x y z ad hij ob f H.size hob n1 n2 nL n4 n5 kk th rep bro hR hN (xs (j + 1)) (xs (j + 2)) (xs (j + 3)) (xs (j + 4)) (xs (j + 5))
  have hWA := WC_hs hlo hoo hS.1
  refine va_calli (vx_runSW (As := [.ref (ad 0), .int (xs (j + 1)), .int (xs (j + 2)), .int (xs (j + 3)), .int (xs (j + 4)), .int (xs (j + 5)), .ref ob]) (rest := []) ⟨hx, hb, hml, hown, hts⟩ hWr (vx_cwSW 7 hts gL_law_L_source rfl rfl rfl (by decide +kernel) ⟨Nat.le_of_ble_eq_true rfl, Nat.le_of_ble_eq_true rfl⟩) ⟨zBl wX_blind, fun U h1 h2 => ⟨rfl, wX_law hC0 hS hP hO U h1 h2⟩⟩ rfl rfl hl.1 rfl (lv_room (Nat.le_of_ble_eq_true rfl)) dL_law_336 ⟨by show _ ≤ 594050; omega, by show _ ≤ 7313955; omega⟩) hS (fun q _ h => hWA q h) (fun q h => hWA q h) (fun r S t H1 locs ht hvm hw hB hz1 hk1 hS => ?_)
  obtain ⟨g2, f2⟩ := S
  obtain ⟨rfl, hg, hout⟩ := hw
  obtain rfl : g2 = g1 := hg
  have hP : va_P D vwCl (zC ty g2 ad) H1 := by rw [← ht]; exact hB.1
  have hO : va_at D vwCl (ob, eL tl f2) H1 := by rw [← ht]; exact hB.2
  have hM : mW D (mA s.heap.size ob ad) u C ma H1 := hM.ext (fun q hq hA => hk1 q hq (mA_WC hA hq)) hz1
  clear hB ht hvm hz1 hk1 hWA
  clear t
  refine lv_istore (lv' := [(5, .int (nI k)), (4, .int (nI j)), (3, .ref ob), (2, .ref (ma 0 0)), (1, .ref (ad 0)), (0, .ref b)]) hx hb dL_law_339 hl (by decide) rfl (fun ls hl => ?_)
  refine lv_aload_n hx hb dL_law_341 rfl (lv_at hl 3 rfl) ?_
  refine lv_aload_n hx hb dL_law_342 rfl (lv_at hl 5 rfl) ?_
  refine lv_iload hx hb dL_law_343 (lv_at hl 1 rfl) ?_
  refine lv_iconst (v := nI 1) hx hb dL_law_345 (by decide) ?_
  refine lv_iadd hx hb dL_law_346 ?_
  refine zeq (nI_add j 1) ?_
  refine zsld hx hb hX hbl hbA hS (show j + 1 < L by omega) (by omega) dL_law_347 ?_
  refine lv_aload_n hx hb dL_law_348 rfl (lv_at hl 5 rfl) ?_
  refine lv_iload hx hb dL_law_349 (lv_at hl 1 rfl) ?_
  refine lv_iconst (v := nI 2) hx hb dL_law_351 (by decide) ?_
  refine lv_iadd hx hb dL_law_352 ?_
  refine zeq (nI_add j 2) ?_
  refine zsld hx hb hX hbl hbA hS (show j + 2 < L by omega) (by omega) dL_law_353 ?_
  refine lv_aload_n hx hb dL_law_354 rfl (lv_at hl 5 rfl) ?_
  refine lv_iload hx hb dL_law_355 (lv_at hl 1 rfl) ?_
  refine lv_iconst (v := nI 3) hx hb dL_law_357 (by decide) ?_
  refine lv_iadd hx hb dL_law_358 ?_
  refine zeq (nI_add j 3) ?_
  refine zsld hx hb hX hbl hbA hS (show j + 3 < L by omega) (by omega) dL_law_359 ?_
  refine lv_aload_n hx hb dL_law_360 rfl (lv_at hl 5 rfl) ?_
  refine lv_iload hx hb dL_law_361 (lv_at hl 1 rfl) ?_
  refine lv_iconst (v := nI 4) hx hb dL_law_363 (by decide) ?_
  refine lv_iadd hx hb dL_law_364 ?_
  refine zeq (nI_add j 4) ?_
  refine zsld hx hb hX hbl hbA hS (show j + 4 < L by omega) (by omega) dL_law_365 ?_
  refine lv_aload_n hx hb dL_law_366 rfl (lv_at hl 5 rfl) ?_
  refine lv_iload hx hb dL_law_367 (lv_at hl 1 rfl) ?_
  refine lv_iconst (v := nI 5) hx hb dL_law_369 (by decide) ?_
  refine lv_iadd hx hb dL_law_370 ?_
  refine zeq (nI_add j 5) ?_
  refine zsld hx hb hX hbl hbA hS (show j + 5 < L by omega) (by omega) dL_law_371 ?_
  refine va_calli (va_runV (As := [.int (xs (j + 1)), .int (xs (j + 2)), .int (xs (j + 3)), .int (xs (j + 4)), .int (xs (j + 5))]) (rest := []) ⟨hx, hb, hml, hown, hts⟩ hMo (cwV 5 hts gL_law_X12_source rfl rfl rfl (by decide +kernel) ⟨Nat.le_of_ble_eq_true rfl, Nat.le_of_ble_eq_true rfl⟩) ⟨zBl mI_blind, va_recv hK (hM.Pa hR.o.1 rfl hR.o.2) (ci := 13) (q0 := 0) rfl rfl, fun U h1 h2 => ⟨rfl, mI_law hC0 hS hM U h1 h2⟩⟩ rfl rfl hl.1 rfl (lv_room (Nat.le_of_ble_eq_true rfl)) dL_law_372 ⟨by show _ ≤ 594050; omega, by show _ ≤ 7313955; omega⟩) hS (fun q _ h => h.1) (fun q h => h.1) (fun r S t H2 locs ht hvm hw hB hz1 hk1 hS => ?_)
  obtain ⟨u2, C2, ma2⟩ := S
  obtain ⟨rfl, h00, hR2⟩ := hw
  have h00 : ma2 0 0 = ma 0 0 := h00
  have hM2 : mW D (mA s.heap.size ob ad) u2 C2 ma2 H2 := by rw [← ht]; exact hB.1
  have hP : va_P D vwCl (zC ty g2 ad) H2 := zC_kept hP (fun k hk h => hk1 _ h (fun z => z.2.2 k hk rfl))
  have hO : va_at D vwCl (ob, eL tl f2) H2 := hO.kept (hk1 ob hO.lt (fun z => z.2.1 rfl))
  refine lv_istore (lv' := [(6, .int r), (5, .int (nI k)), (4, .int (nI j)), (3, .ref ob), (2, .ref (ma 0 0)), (1, .ref (ad 0)), (0, .ref b)]) hx hb dL_law_375 hl (by decide) rfl (fun ls hl => ?_)
  have hl5 : lv_has ls 9 [(4, .int (nI j)), (3, .ref ob), (2, .ref (ma 0 0)), (1, .ref (ad 0)), (0, .ref b)] := lv_sub hl [2, 3, 4, 5, 6] rfl
  have hl : lv_has ls 9 [(6, .int r), (5, .int (nI k)), (4, .int (nI j)), (3, .ref ob), (2, .ref (ma 0 0)), (1, .ref (ad 0)), (0, .ref b)] := hl
  rw [← h00] at hl
  exact law_tail hC0 hS hO hM2 hk4 hR2 hout hl ⟨by show _ ≤ 594050; omega, by show _ ≤ 7313955; omega⟩ dL_law_377 dL_law_378 dL_law_381 dL_law_383 dL_law_388 dL_law_390 dL_law_393 dL_law_394 dL_law_395 dL_law_396 dL_law_398 dL_law_399 dL_law_400 dL_law_405 (by decide) (K _ _ _ _ _ _ _ _ _ _ _ _ _ _ _ _ _ _ _ _ ⟨hP, ⟨hij, hob, hlo, hoo⟩, hO, hM2, hR2, hN1⟩ h00 hkk hS hl5)
set_option maxHeartbeats 2000000 in
set_option maxRecDepth 100000 in
theorem law_version (p : Program) (l : Launch) (e : Env) (s : State) (m : MethodId) (below : List Frame) (meth : Method) (c : Code) (Q : State → Prop) (D : va_G) (ty : Nat → ClassId) (tl : ClassId) (t0 mi b L : Nat) (xs : Nat → Int32) (hC : lwC p l s m meth c D ty tl t0 mi b L xs) (ad : Nat → Nat) (ob : Nat) (g : Nat → Nat → Int32) (x y z : Nat → Int32) (f : Nat → Int64) (u : Nat → Nat → Prop) (C : Nat → Nat → va_E) (ma : Nat → Nat → Nat) (n1 n2 nL n4 n5 kk : Nat) (rep bro : Nat → Nat → Int32) (th : Int32) (H : Heap) (locs : List Loc) (cells slots : Nat) (hW : lwI D ty tl t0 s.heap.size ad ob g x y z f u C ma n1 n2 nL n4 n5 kk rep bro th H) (hS : va_S (fun q => s.heap.size ≤ q) s.heap H locs) (ls : Array Slot) (j : Nat) (hj : j + 7 ≤ L) (hl : lv_has ls 9 [(4, .int (nI j)), (3, .ref ob), (2, .ref (ma 0 0)), (1, .ref (ad 0)), (0, .ref b)]) (hc : cells + 1 + 58 ≤ 594050 ∧ slots + 6 + 1744 ≤ 7313955) (K : lwK p l e s m below meth c Q D ty tl t0 b ad ob j (ma 0 0) n5 kk 58 (cells + 1 + 58) (slots + 6 + 1744)) : W p l e room_1 s m #[Value.ref b] below meth c H locs cells slots Q (F0 m 408 ls []) := by
  obtain ⟨hP, ⟨hij, hob, hlo, hoo⟩, hO, hM, hR, hN⟩ := hW
  have hC0 := hC
  obtain ⟨⟨hx, hb, hr, hml, hlocks, hlt⟩, ⟨hown, hts, hX, hbl, hL⟩, ⟨hKz, hK, hKl⟩, hNz, hT, hQ, hMS, hNc⟩ := hC
  have hbA : ¬ s.heap.size ≤ b := Nat.not_le.mpr hbl
  refine lv_aload_n hx hb dL_law_408 rfl (lv_at hl 3 rfl) ?_
  refine lv_aload_n hx hb dL_law_409 rfl (lv_at hl 4 rfl) ?_
  refine lv_iload hx hb dL_law_410 (lv_at hl 0 rfl) ?_
  refine lv_iconst (v := nI 1) hx hb dL_law_412 (by decide) ?_
  refine lv_iadd hx hb dL_law_413 ?_
  refine zeq (nI_add j 1) ?_
  refine zsld hx hb hX hbl hbA hS (show j + 1 < L by omega) (by omega) dL_law_414 ?_
  refine lv_aload_n hx hb dL_law_415 rfl (lv_at hl 4 rfl) ?_
  refine lv_iload hx hb dL_law_416 (lv_at hl 0 rfl) ?_
  refine lv_iconst (v := nI 2) hx hb dL_law_418 (by decide) ?_
  refine lv_iadd hx hb dL_law_419 ?_
  refine zeq (nI_add j 2) ?_
  refine zsld hx hb hX hbl hbA hS (show j + 2 < L by omega) (by omega) dL_law_420 ?_
  refine lv_aload_n hx hb dL_law_421 rfl (lv_at hl 1 rfl) ?_
  obtain ⟨k, b9, g1, x1, y1, z1, n11, n21, nL1, n41, n51, kk1, rep1, bro1, hk4, hZ, hWr, hMo, hN1, hkk⟩ := b_version l hlt D ty tl (mA s.heap.size ob ad) u C ma t0 mi g x y z ad hij ob f H.size hob n1 n2 nL n4 n5 kk th rep bro hR hN (xs (j + 1)) (xs (j + 2))
  have hWA := WC_hs hlo hoo hS.1
  refine va_calli (vx_runSW (As := [.ref (ad 0), .int (xs (j + 1)), .int (xs (j + 2)), .ref ob]) (rest := []) ⟨hx, hb, hml, hown, hts⟩ hWr (vx_cwSW 4 hts gL_law_L_version rfl rfl rfl (by decide +kernel) ⟨Nat.le_of_ble_eq_true rfl, Nat.le_of_ble_eq_true rfl⟩) ⟨zBl wX_blind, fun U h1 h2 => ⟨rfl, wX_law hC0 hS hP hO U h1 h2⟩⟩ rfl rfl hl.1 rfl (lv_room (Nat.le_of_ble_eq_true rfl)) dL_law_422 ⟨by show _ ≤ 594050; omega, by show _ ≤ 7313955; omega⟩) hS (fun q _ h => hWA q h) (fun q h => hWA q h) (fun r S t H1 locs ht hvm hw hB hz1 hk1 hS => ?_)
  obtain ⟨g2, f2⟩ := S
  obtain ⟨rfl, hg, hout⟩ := hw
  obtain rfl : g2 = g1 := hg
  have hP : va_P D vwCl (zC ty g2 ad) H1 := by rw [← ht]; exact hB.1
  have hO : va_at D vwCl (ob, eL tl f2) H1 := by rw [← ht]; exact hB.2
  have hM : mW D (mA s.heap.size ob ad) u C ma H1 := hM.ext (fun q hq hA => hk1 q hq (mA_WC hA hq)) hz1
  clear hB ht hvm hz1 hk1 hWA
  clear t
  refine lv_istore (lv' := [(5, .int (nI k)), (4, .int (nI j)), (3, .ref ob), (2, .ref (ma 0 0)), (1, .ref (ad 0)), (0, .ref b)]) hx hb dL_law_425 hl (by decide) rfl (fun ls hl => ?_)
  refine lv_aload_n hx hb dL_law_427 rfl (lv_at hl 3 rfl) ?_
  refine lv_aload_n hx hb dL_law_428 rfl (lv_at hl 5 rfl) ?_
  refine lv_iload hx hb dL_law_429 (lv_at hl 1 rfl) ?_
  refine lv_iconst (v := nI 1) hx hb dL_law_431 (by decide) ?_
  refine lv_iadd hx hb dL_law_432 ?_
  refine zeq (nI_add j 1) ?_
  refine zsld hx hb hX hbl hbA hS (show j + 1 < L by omega) (by omega) dL_law_433 ?_
  refine lv_aload_n hx hb dL_law_434 rfl (lv_at hl 5 rfl) ?_
  refine lv_iload hx hb dL_law_435 (lv_at hl 1 rfl) ?_
  refine lv_iconst (v := nI 2) hx hb dL_law_437 (by decide) ?_
  refine lv_iadd hx hb dL_law_438 ?_
  refine zeq (nI_add j 2) ?_
  refine zsld hx hb hX hbl hbA hS (show j + 2 < L by omega) (by omega) dL_law_439 ?_
  refine va_calli (va_runV (As := [.int (xs (j + 1)), .int (xs (j + 2))]) (rest := []) ⟨hx, hb, hml, hown, hts⟩ hMo (cwV 2 hts gL_law_X12_version rfl rfl rfl (by decide +kernel) ⟨Nat.le_of_ble_eq_true rfl, Nat.le_of_ble_eq_true rfl⟩) ⟨zBl mI_blind, va_recv hK (hM.Pa hR.o.1 rfl hR.o.2) (ci := 13) (q0 := 0) rfl rfl, fun U h1 h2 => ⟨rfl, mI_law hC0 hS hM U h1 h2⟩⟩ rfl rfl hl.1 rfl (lv_room (Nat.le_of_ble_eq_true rfl)) dL_law_440 ⟨by show _ ≤ 594050; omega, by show _ ≤ 7313955; omega⟩) hS (fun q _ h => h.1) (fun q h => h.1) (fun r S t H2 locs ht hvm hw hB hz1 hk1 hS => ?_)
  obtain ⟨u2, C2, ma2⟩ := S
  obtain ⟨rfl, h00, hR2⟩ := hw
  have h00 : ma2 0 0 = ma 0 0 := h00
  have hM2 : mW D (mA s.heap.size ob ad) u2 C2 ma2 H2 := by rw [← ht]; exact hB.1
  have hP : va_P D vwCl (zC ty g2 ad) H2 := zC_kept hP (fun k hk h => hk1 _ h (fun z => z.2.2 k hk rfl))
  have hO : va_at D vwCl (ob, eL tl f2) H2 := hO.kept (hk1 ob hO.lt (fun z => z.2.1 rfl))
  refine lv_istore (lv' := [(6, .int r), (5, .int (nI k)), (4, .int (nI j)), (3, .ref ob), (2, .ref (ma 0 0)), (1, .ref (ad 0)), (0, .ref b)]) hx hb dL_law_443 hl (by decide) rfl (fun ls hl => ?_)
  have hl5 : lv_has ls 9 [(4, .int (nI j)), (3, .ref ob), (2, .ref (ma 0 0)), (1, .ref (ad 0)), (0, .ref b)] := lv_sub hl [2, 3, 4, 5, 6] rfl
  have hl : lv_has ls 9 [(6, .int r), (5, .int (nI k)), (4, .int (nI j)), (3, .ref ob), (2, .ref (ma 0 0)), (1, .ref (ad 0)), (0, .ref b)] := hl
  rw [← h00] at hl
  exact law_tail hC0 hS hO hM2 hk4 hR2 hout hl ⟨by show _ ≤ 594050; omega, by show _ ≤ 7313955; omega⟩ dL_law_445 dL_law_446 dL_law_449 dL_law_451 dL_law_456 dL_law_458 dL_law_461 dL_law_462 dL_law_463 dL_law_464 dL_law_466 dL_law_467 dL_law_468 dL_law_473 (by decide) (K _ _ _ _ _ _ _ _ _ _ _ _ _ _ _ _ _ _ _ _ ⟨hP, ⟨hij, hob, hlo, hoo⟩, hO, hM2, hR2, hN1⟩ h00 hkk hS hl5)
