set_option maxHeartbeats 2000000 in
set_option maxRecDepth 100000 in
theorem law_read (p : Program) (l : Launch) (e : Env) (s : State) (m : MethodId) (below : List Frame) (meth : Method) (c : Code) (Q : State → Prop) (D : va_G) (ty : Nat → ClassId) (tl : ClassId) (t0 mi b L : Nat) (xs : Nat → Int32) (hC : lwC p l s m meth c D ty tl t0 mi b L xs) (ad : Nat → Nat) (ob : Nat) (g : Nat → Nat → Int32) (x y z : Nat → Int32) (f : Nat → Int64) (u : Nat → Nat → Prop) (C : Nat → Nat → va_E) (ma : Nat → Nat → Nat) (n1 n2 nL n4 n5 kk : Nat) (rep bro : Nat → Nat → Int32) (th : Int32) (H : Heap) (locs : List Loc) (cells slots : Nat) (hW : lwI D ty tl t0 s.heap.size ad ob g x y z f u C ma n1 n2 nL n4 n5 kk rep bro th H) (hS : va_S (fun q => s.heap.size ≤ q) s.heap H locs) (ls : Array Slot) (j : Nat) (hj : j + 7 ≤ L) (hl : lv_has ls 9 [(4, .int (nI j)), (3, .ref ob), (2, .ref (ma 0 0)), (1, .ref (ad 0)), (0, .ref b)]) (hc : cells + 1 + 3 ≤ 594050 ∧ slots + 6 + 76 ≤ 7313955) (K : lwK p l e s m below meth c Q D ty tl t0 b ad ob j (ma 0 0) n5 kk 3 (cells + 1 + 3) (slots + 6 + 76)) : W p l e room_1 s m #[Value.ref b] below meth c H locs cells slots Q (F0 m 1187 ls []) := by
  obtain ⟨hP, ⟨hij, hob, hlo, hoo⟩, hO, hM, hR, hN⟩ := hW
  have hC0 := hC
  obtain ⟨⟨hx, hb, hr, hml, hlocks, hlt⟩, ⟨hown, hts, hX, hbl, hL⟩, ⟨hKz, hK, hKl⟩, hNz, hT, hQ, hMS, hNc⟩ := hC
  have hbA : ¬ s.heap.size ≤ b := Nat.not_le.mpr hbl
  refine lv_aload_n hx hb dL_law_1187 rfl (lv_at hl 3 rfl) ?_
  refine lv_aload_n hx hb dL_law_1188 rfl (lv_at hl 4 rfl) ?_
  refine lv_iload hx hb dL_law_1189 (lv_at hl 0 rfl) ?_
  refine lv_iconst (v := nI 1) hx hb dL_law_1191 (by decide) ?_
  refine lv_iadd hx hb dL_law_1192 ?_
  refine zeq (nI_add j 1) ?_
  refine zsld hx hb hX hbl hbA hS (show j + 1 < L by omega) (by omega) dL_law_1193 ?_
  refine lv_aload_n hx hb dL_law_1194 rfl (lv_at hl 4 rfl) ?_
  refine lv_iload hx hb dL_law_1195 (lv_at hl 0 rfl) ?_
  refine lv_iconst (v := nI 2) hx hb dL_law_1197 (by decide) ?_
  refine lv_iadd hx hb dL_law_1198 ?_
  refine zeq (nI_add j 2) ?_
  refine zsld hx hb hX hbl hbA hS (show j + 2 < L by omega) (by omega) dL_law_1199 ?_
  refine lv_aload_n hx hb dL_law_1200 rfl (lv_at hl 4 rfl) ?_
  refine lv_iload hx hb dL_law_1201 (lv_at hl 0 rfl) ?_
  refine lv_iconst (v := nI 3) hx hb dL_law_1203 (by decide) ?_
  refine lv_iadd hx hb dL_law_1204 ?_
  refine zeq (nI_add j 3) ?_
  refine zsld hx hb hX hbl hbA hS (show j + 3 < L by omega) (by omega) dL_law_1205 ?_
  refine lv_aload_n hx hb dL_law_1206 rfl (lv_at hl 4 rfl) ?_
  refine lv_iload hx hb dL_law_1207 (lv_at hl 0 rfl) ?_
  refine lv_iconst (v := nI 4) hx hb dL_law_1209 (by decide) ?_
  refine lv_iadd hx hb dL_law_1210 ?_
  refine zeq (nI_add j 4) ?_
  refine zsld hx hb hX hbl hbA hS (show j + 4 < L by omega) (by omega) dL_law_1211 ?_
  refine lv_aload_n hx hb dL_law_1212 rfl (lv_at hl 4 rfl) ?_
  refine lv_iload hx hb dL_law_1213 (lv_at hl 0 rfl) ?_
  refine lv_iconst (v := nI 5) hx hb dL_law_1215 (by decide) ?_
  refine lv_iadd hx hb dL_law_1216 ?_
  refine zeq (nI_add j 5) ?_
  refine zsld hx hb hX hbl hbA hS (show j + 5 < L by omega) (by omega) dL_law_1217 ?_
  refine lv_aload_n hx hb dL_law_1218 rfl (lv_at hl 1 rfl) ?_
  obtain ⟨k, b9, g1, x1, y1, z1, n11, n21, nL1, n41, n51, kk1, rep1, bro1, hk4, hZ, hWr, hMo, hN1, hkk⟩ := b_read l hlt D ty tl (mA s.heap.size ob ad) u C ma t0 mi g x y z ad hij ob f H.size hob n1 n2 nL n4 n5 kk th rep bro hR hN (xs (j + 1)) (xs (j + 2)) (xs (j + 3)) (xs (j + 4)) (xs (j + 5))
  have hWA := WC_hs hlo hoo hS.1
  refine va_calli (vx_runSW (As := [.ref (ad 0), .int (xs (j + 1)), .int (xs (j + 2)), .int (xs (j + 3)), .int (xs (j + 4)), .int (xs (j + 5)), .ref ob]) (rest := []) ⟨hx, hb, hml, hown, hts⟩ hWr (vx_cwSW 7 hts gL_law_L_read rfl rfl rfl (by decide +kernel) ⟨Nat.le_of_ble_eq_true rfl, Nat.le_of_ble_eq_true rfl⟩) ⟨zBl wX_blind, fun U h1 h2 => ⟨rfl, wX_law hC0 hS hP hO U h1 h2⟩⟩ rfl rfl hl.1 rfl (lv_room (Nat.le_of_ble_eq_true rfl)) dL_law_1219 ⟨by show _ ≤ 594050; omega, by show _ ≤ 7313955; omega⟩) hS (fun q _ h => hWA q h) (fun q h => hWA q h) (fun r S t H1 locs ht hvm hw hB hz1 hk1 hS => ?_)
  obtain ⟨g2, f2⟩ := S
  obtain ⟨rfl, hg, hout⟩ := hw
  obtain rfl : g2 = g1 := hg
  have hP : va_P D vwCl (zC ty g2 ad) H1 := by rw [← ht]; exact hB.1
  have hO : va_at D vwCl (ob, eL tl f2) H1 := by rw [← ht]; exact hB.2
  have hM : mW D (mA s.heap.size ob ad) u C ma H1 := hM.ext (fun q hq hA => hk1 q hq (mA_WC hA hq)) hz1
  clear hB ht hvm hz1 hk1 hWA
  clear t
  refine lv_istore (lv' := [(5, .int (nI k)), (4, .int (nI j)), (3, .ref ob), (2, .ref (ma 0 0)), (1, .ref (ad 0)), (0, .ref b)]) hx hb dL_law_1222 hl (by decide) rfl (fun ls hl => ?_)
  refine lv_aload_n hx hb dL_law_1224 rfl (lv_at hl 3 rfl) ?_
  refine lv_aload_n hx hb dL_law_1225 rfl (lv_at hl 5 rfl) ?_
  refine lv_iload hx hb dL_law_1226 (lv_at hl 1 rfl) ?_
  refine lv_iconst (v := nI 1) hx hb dL_law_1228 (by decide) ?_
  refine lv_iadd hx hb dL_law_1229 ?_
  refine zeq (nI_add j 1) ?_
  refine zsld hx hb hX hbl hbA hS (show j + 1 < L by omega) (by omega) dL_law_1230 ?_
  refine lv_aload_n hx hb dL_law_1231 rfl (lv_at hl 5 rfl) ?_
  refine lv_iload hx hb dL_law_1232 (lv_at hl 1 rfl) ?_
  refine lv_iconst (v := nI 2) hx hb dL_law_1234 (by decide) ?_
  refine lv_iadd hx hb dL_law_1235 ?_
  refine zeq (nI_add j 2) ?_
  refine zsld hx hb hX hbl hbA hS (show j + 2 < L by omega) (by omega) dL_law_1236 ?_
  refine lv_aload_n hx hb dL_law_1237 rfl (lv_at hl 5 rfl) ?_
  refine lv_iload hx hb dL_law_1238 (lv_at hl 1 rfl) ?_
  refine lv_iconst (v := nI 3) hx hb dL_law_1240 (by decide) ?_
  refine lv_iadd hx hb dL_law_1241 ?_
  refine zeq (nI_add j 3) ?_
  refine zsld hx hb hX hbl hbA hS (show j + 3 < L by omega) (by omega) dL_law_1242 ?_
  refine lv_aload_n hx hb dL_law_1243 rfl (lv_at hl 5 rfl) ?_
  refine lv_iload hx hb dL_law_1244 (lv_at hl 1 rfl) ?_
  refine lv_iconst (v := nI 4) hx hb dL_law_1246 (by decide) ?_
  refine lv_iadd hx hb dL_law_1247 ?_
  refine zeq (nI_add j 4) ?_
  refine zsld hx hb hX hbl hbA hS (show j + 4 < L by omega) (by omega) dL_law_1248 ?_
  refine lv_aload_n hx hb dL_law_1249 rfl (lv_at hl 5 rfl) ?_
  refine lv_iload hx hb dL_law_1250 (lv_at hl 1 rfl) ?_
  refine lv_iconst (v := nI 5) hx hb dL_law_1252 (by decide) ?_
  refine lv_iadd hx hb dL_law_1253 ?_
  refine zeq (nI_add j 5) ?_
  refine zsld hx hb hX hbl hbA hS (show j + 5 < L by omega) (by omega) dL_law_1254 ?_
  refine va_calli (va_runV (As := [.int (xs (j + 1)), .int (xs (j + 2)), .int (xs (j + 3)), .int (xs (j + 4)), .int (xs (j + 5))]) (rest := []) ⟨hx, hb, hml, hown, hts⟩ hMo (cwV 5 hts gL_law_X12_read rfl rfl rfl (by decide +kernel) ⟨Nat.le_of_ble_eq_true rfl, Nat.le_of_ble_eq_true rfl⟩) ⟨zBl mI_blind, va_recv hK (hM.Pa hR.o.1 rfl hR.o.2) (ci := 13) (q0 := 0) rfl rfl, fun U h1 h2 => ⟨rfl, mI_law hC0 hS hM U h1 h2⟩⟩ rfl rfl hl.1 rfl (lv_room (Nat.le_of_ble_eq_true rfl)) dL_law_1255 ⟨by show _ ≤ 594050; omega, by show _ ≤ 7313955; omega⟩) hS (fun q _ h => h.1) (fun q h => h.1) (fun r S t H2 locs ht hvm hw hB hz1 hk1 hS => ?_)
  obtain ⟨u2, C2, ma2⟩ := S
  obtain ⟨rfl, h00, hR2⟩ := hw
  have h00 : ma2 0 0 = ma 0 0 := h00
  have hM2 : mW D (mA s.heap.size ob ad) u2 C2 ma2 H2 := by rw [← ht]; exact hB.1
  have hP : va_P D vwCl (zC ty g2 ad) H2 := zC_kept hP (fun k hk h => hk1 _ h (fun z => z.2.2 k hk rfl))
  have hO : va_at D vwCl (ob, eL tl f2) H2 := hO.kept (hk1 ob hO.lt (fun z => z.2.1 rfl))
  refine lv_istore (lv' := [(6, .int r), (5, .int (nI k)), (4, .int (nI j)), (3, .ref ob), (2, .ref (ma 0 0)), (1, .ref (ad 0)), (0, .ref b)]) hx hb dL_law_1258 hl (by decide) rfl (fun ls hl => ?_)
  have hl5 : lv_has ls 9 [(4, .int (nI j)), (3, .ref ob), (2, .ref (ma 0 0)), (1, .ref (ad 0)), (0, .ref b)] := lv_sub hl [2, 3, 4, 5, 6] rfl
  have hl : lv_has ls 9 [(6, .int r), (5, .int (nI k)), (4, .int (nI j)), (3, .ref ob), (2, .ref (ma 0 0)), (1, .ref (ad 0)), (0, .ref b)] := hl
  rw [← h00] at hl
  exact law_tail hC0 hS hO hM2 hk4 hR2 hout hl ⟨by show _ ≤ 594050; omega, by show _ ≤ 7313955; omega⟩ dL_law_1260 dL_law_1261 dL_law_1264 dL_law_1266 dL_law_1271 dL_law_1273 dL_law_1276 dL_law_1277 dL_law_1278 dL_law_1279 dL_law_1281 dL_law_1282 dL_law_1283 dL_law_1288 (by decide) (K _ _ _ _ _ _ _ _ _ _ _ _ _ _ _ _ _ _ _ _ ⟨hP, ⟨hij, hob, hlo, hoo⟩, hO, hM2, hR2, hN1⟩ h00 hkk hS hl5)
set_option maxHeartbeats 2000000 in
set_option maxRecDepth 100000 in
theorem law_preview (p : Program) (l : Launch) (e : Env) (s : State) (m : MethodId) (below : List Frame) (meth : Method) (c : Code) (Q : State → Prop) (D : va_G) (ty : Nat → ClassId) (tl : ClassId) (t0 mi b L : Nat) (xs : Nat → Int32) (hC : lwC p l s m meth c D ty tl t0 mi b L xs) (ad : Nat → Nat) (ob : Nat) (g : Nat → Nat → Int32) (x y z : Nat → Int32) (f : Nat → Int64) (u : Nat → Nat → Prop) (C : Nat → Nat → va_E) (ma : Nat → Nat → Nat) (n1 n2 nL n4 n5 kk : Nat) (rep bro : Nat → Nat → Int32) (th : Int32) (H : Heap) (locs : List Loc) (cells slots : Nat) (hW : lwI D ty tl t0 s.heap.size ad ob g x y z f u C ma n1 n2 nL n4 n5 kk rep bro th H) (hS : va_S (fun q => s.heap.size ≤ q) s.heap H locs) (ls : Array Slot) (j : Nat) (hj : j + 7 ≤ L) (hl : lv_has ls 9 [(4, .int (nI j)), (3, .ref ob), (2, .ref (ma 0 0)), (1, .ref (ad 0)), (0, .ref b)]) (hc : cells + 1 + 0 ≤ 594050 ∧ slots + 6 + 0 ≤ 7313955) (K : lwK p l e s m below meth c Q D ty tl t0 b ad ob j (ma 0 0) n5 kk 0 (cells + 1 + 0) (slots + 6 + 0)) : W p l e room_1 s m #[Value.ref b] below meth c H locs cells slots Q (F0 m 1291 ls []) := by
  obtain ⟨hP, ⟨hij, hob, hlo, hoo⟩, hO, hM, hR, hN⟩ := hW
  have hC0 := hC
  obtain ⟨⟨hx, hb, hr, hml, hlocks, hlt⟩, ⟨hown, hts, hX, hbl, hL⟩, ⟨hKz, hK, hKl⟩, hNz, hT, hQ, hMS, hNc⟩ := hC
  have hbA : ¬ s.heap.size ≤ b := Nat.not_le.mpr hbl
  refine lv_aload_n hx hb dL_law_1291 rfl (lv_at hl 3 rfl) ?_
  refine lv_aload_n hx hb dL_law_1292 rfl (lv_at hl 4 rfl) ?_
  refine lv_iload hx hb dL_law_1293 (lv_at hl 0 rfl) ?_
  refine lv_iconst (v := nI 1) hx hb dL_law_1295 (by decide) ?_
  refine lv_iadd hx hb dL_law_1296 ?_
  refine zeq (nI_add j 1) ?_
  refine zsld hx hb hX hbl hbA hS (show j + 1 < L by omega) (by omega) dL_law_1297 ?_
  refine lv_aload_n hx hb dL_law_1298 rfl (lv_at hl 4 rfl) ?_
  refine lv_iload hx hb dL_law_1299 (lv_at hl 0 rfl) ?_
  refine lv_iconst (v := nI 2) hx hb dL_law_1301 (by decide) ?_
  refine lv_iadd hx hb dL_law_1302 ?_
  refine zeq (nI_add j 2) ?_
  refine zsld hx hb hX hbl hbA hS (show j + 2 < L by omega) (by omega) dL_law_1303 ?_
  refine lv_aload_n hx hb dL_law_1304 rfl (lv_at hl 4 rfl) ?_
  refine lv_iload hx hb dL_law_1305 (lv_at hl 0 rfl) ?_
  refine lv_iconst (v := nI 3) hx hb dL_law_1307 (by decide) ?_
  refine lv_iadd hx hb dL_law_1308 ?_
  refine zeq (nI_add j 3) ?_
  refine zsld hx hb hX hbl hbA hS (show j + 3 < L by omega) (by omega) dL_law_1309 ?_
  refine lv_aload_n hx hb dL_law_1310 rfl (lv_at hl 1 rfl) ?_
  obtain ⟨k, b9, g1, x1, y1, z1, n11, n21, nL1, n41, n51, kk1, rep1, bro1, hk4, hZ, hWr, hMo, hN1, hkk⟩ := b_preview l hlt D ty tl (mA s.heap.size ob ad) u C ma t0 mi g x y z ad hij ob f H.size hob n1 n2 nL n4 n5 kk th rep bro hR hN (xs (j + 1)) (xs (j + 2)) (xs (j + 3))
  have hWA := WC_hs hlo hoo hS.1
  refine va_calli (vx_runSW (As := [.ref (ad 0), .int (xs (j + 1)), .int (xs (j + 2)), .int (xs (j + 3)), .ref ob]) (rest := []) ⟨hx, hb, hml, hown, hts⟩ hWr (vx_cwSW 5 hts gL_law_L_preview rfl rfl rfl (by decide +kernel) ⟨Nat.le_of_ble_eq_true rfl, Nat.le_of_ble_eq_true rfl⟩) ⟨zBl wX_blind, fun U h1 h2 => ⟨rfl, wX_law hC0 hS hP hO U h1 h2⟩⟩ rfl rfl hl.1 rfl (lv_room (Nat.le_of_ble_eq_true rfl)) dL_law_1311 ⟨by show _ ≤ 594050; omega, by show _ ≤ 7313955; omega⟩) hS (fun q _ h => hWA q h) (fun q h => hWA q h) (fun r S t H1 locs ht hvm hw hB hz1 hk1 hS => ?_)
  obtain ⟨g2, f2⟩ := S
  obtain ⟨rfl, hg, hout⟩ := hw
  obtain rfl : g2 = g1 := hg
  have hP : va_P D vwCl (zC ty g2 ad) H1 := by rw [← ht]; exact hB.1
  have hO : va_at D vwCl (ob, eL tl f2) H1 := by rw [← ht]; exact hB.2
  have hM : mW D (mA s.heap.size ob ad) u C ma H1 := hM.ext (fun q hq hA => hk1 q hq (mA_WC hA hq)) hz1
  clear hB ht hvm hz1 hk1 hWA
  clear t
  refine lv_istore (lv' := [(5, .int (nI k)), (4, .int (nI j)), (3, .ref ob), (2, .ref (ma 0 0)), (1, .ref (ad 0)), (0, .ref b)]) hx hb dL_law_1314 hl (by decide) rfl (fun ls hl => ?_)
  refine lv_aload_n hx hb dL_law_1316 rfl (lv_at hl 3 rfl) ?_
  refine lv_aload_n hx hb dL_law_1317 rfl (lv_at hl 5 rfl) ?_
  refine lv_iload hx hb dL_law_1318 (lv_at hl 1 rfl) ?_
  refine lv_iconst (v := nI 1) hx hb dL_law_1320 (by decide) ?_
  refine lv_iadd hx hb dL_law_1321 ?_
  refine zeq (nI_add j 1) ?_
  refine zsld hx hb hX hbl hbA hS (show j + 1 < L by omega) (by omega) dL_law_1322 ?_
  refine lv_aload_n hx hb dL_law_1323 rfl (lv_at hl 5 rfl) ?_
  refine lv_iload hx hb dL_law_1324 (lv_at hl 1 rfl) ?_
  refine lv_iconst (v := nI 2) hx hb dL_law_1326 (by decide) ?_
  refine lv_iadd hx hb dL_law_1327 ?_
  refine zeq (nI_add j 2) ?_
  refine zsld hx hb hX hbl hbA hS (show j + 2 < L by omega) (by omega) dL_law_1328 ?_
  refine lv_aload_n hx hb dL_law_1329 rfl (lv_at hl 5 rfl) ?_
  refine lv_iload hx hb dL_law_1330 (lv_at hl 1 rfl) ?_
  refine lv_iconst (v := nI 3) hx hb dL_law_1332 (by decide) ?_
  refine lv_iadd hx hb dL_law_1333 ?_
  refine zeq (nI_add j 3) ?_
  refine zsld hx hb hX hbl hbA hS (show j + 3 < L by omega) (by omega) dL_law_1334 ?_
  refine va_calli (va_runV (As := [.int (xs (j + 1)), .int (xs (j + 2)), .int (xs (j + 3))]) (rest := []) ⟨hx, hb, hml, hown, hts⟩ hMo (cwV 3 hts gL_law_X12_preview rfl rfl rfl (by decide +kernel) ⟨Nat.le_of_ble_eq_true rfl, Nat.le_of_ble_eq_true rfl⟩) ⟨zBl mI_blind, va_recv hK (hM.Pa hR.o.1 rfl hR.o.2) (ci := 13) (q0 := 0) rfl rfl, fun U h1 h2 => ⟨rfl, mI_law hC0 hS hM U h1 h2⟩⟩ rfl rfl hl.1 rfl (lv_room (Nat.le_of_ble_eq_true rfl)) dL_law_1335 ⟨by show _ ≤ 594050; omega, by show _ ≤ 7313955; omega⟩) hS (fun q _ h => h.1) (fun q h => h.1) (fun r S t H2 locs ht hvm hw hB hz1 hk1 hS => ?_)
  obtain ⟨u2, C2, ma2⟩ := S
  obtain ⟨rfl, h00, hR2⟩ := hw
  have h00 : ma2 0 0 = ma 0 0 := h00
  have hM2 : mW D (mA s.heap.size ob ad) u2 C2 ma2 H2 := by rw [← ht]; exact hB.1
  have hP : va_P D vwCl (zC ty g2 ad) H2 := zC_kept hP (fun k hk h => hk1 _ h (fun z => z.2.2 k hk rfl))
  have hO : va_at D vwCl (ob, eL tl f2) H2 := hO.kept (hk1 ob hO.lt (fun z => z.2.1 rfl))
  refine lv_istore (lv' := [(6, .int r), (5, .int (nI k)), (4, .int (nI j)), (3, .ref ob), (2, .ref (ma 0 0)), (1, .ref (ad 0)), (0, .ref b)]) hx hb dL_law_1338 hl (by decide) rfl (fun ls hl => ?_)
  have hl5 : lv_has ls 9 [(4, .int (nI j)), (3, .ref ob), (2, .ref (ma 0 0)), (1, .ref (ad 0)), (0, .ref b)] := lv_sub hl [2, 3, 4, 5, 6] rfl
  have hl : lv_has ls 9 [(6, .int r), (5, .int (nI k)), (4, .int (nI j)), (3, .ref ob), (2, .ref (ma 0 0)), (1, .ref (ad 0)), (0, .ref b)] := hl
  rw [← h00] at hl
  exact law_tail hC0 hS hO hM2 hk4 hR2 hout hl ⟨by show _ ≤ 594050; omega, by show _ ≤ 7313955; omega⟩ dL_law_1340 dL_law_1341 dL_law_1344 dL_law_1346 dL_law_1351 dL_law_1353 dL_law_1356 dL_law_1357 dL_law_1358 dL_law_1359 dL_law_1361 dL_law_1362 dL_law_1363 dL_law_1368 (by decide) (K _ _ _ _ _ _ _ _ _ _ _ _ _ _ _ _ _ _ _ _ ⟨hP, ⟨hij, hob, hlo, hoo⟩, hO, hM2, hR2, hN1⟩ h00 hkk hS hl5)
set_option maxHeartbeats 2000000 in
set_option maxRecDepth 100000 in
theorem law_ofRead (p : Program) (l : Launch) (e : Env) (s : State) (m : MethodId) (below : List Frame) (meth : Method) (c : Code) (Q : State → Prop) (D : va_G) (ty : Nat → ClassId) (tl : ClassId) (t0 mi b L : Nat) (xs : Nat → Int32) (hC : lwC p l s m meth c D ty tl t0 mi b L xs) (ad : Nat → Nat) (ob : Nat) (g : Nat → Nat → Int32) (x y z : Nat → Int32) (f : Nat → Int64) (u : Nat → Nat → Prop) (C : Nat → Nat → va_E) (ma : Nat → Nat → Nat) (n1 n2 nL n4 n5 kk : Nat) (rep bro : Nat → Nat → Int32) (th : Int32) (H : Heap) (locs : List Loc) (cells slots : Nat) (hW : lwI D ty tl t0 s.heap.size ad ob g x y z f u C ma n1 n2 nL n4 n5 kk rep bro th H) (hS : va_S (fun q => s.heap.size ≤ q) s.heap H locs) (ls : Array Slot) (j : Nat) (hj : j + 7 ≤ L) (hl : lv_has ls 9 [(4, .int (nI j)), (3, .ref ob), (2, .ref (ma 0 0)), (1, .ref (ad 0)), (0, .ref b)]) (hc : cells + 1 + 58 ≤ 594050 ∧ slots + 6 + 356 ≤ 7313955) (K : lwK p l e s m below meth c Q D ty tl t0 b ad ob j (ma 0 0) n5 kk 58 (cells + 1 + 58) (slots + 6 + 356)) : W p l e room_1 s m #[Value.ref b] below meth c H locs cells slots Q (F0 m 1371 ls []) := by
  obtain ⟨hP, ⟨hij, hob, hlo, hoo⟩, hO, hM, hR, hN⟩ := hW
  have hC0 := hC
  obtain ⟨⟨hx, hb, hr, hml, hlocks, hlt⟩, ⟨hown, hts, hX, hbl, hL⟩, ⟨hKz, hK, hKl⟩, hNz, hT, hQ, hMS, hNc⟩ := hC
  have hbA : ¬ s.heap.size ≤ b := Nat.not_le.mpr hbl
  refine lv_aload_n hx hb dL_law_1371 rfl (lv_at hl 3 rfl) ?_
  refine lv_aload_n hx hb dL_law_1372 rfl (lv_at hl 4 rfl) ?_
  refine lv_iload hx hb dL_law_1373 (lv_at hl 0 rfl) ?_
  refine lv_iconst (v := nI 1) hx hb dL_law_1375 (by decide) ?_
  refine lv_iadd hx hb dL_law_1376 ?_
  refine zeq (nI_add j 1) ?_
  refine zsld hx hb hX hbl hbA hS (show j + 1 < L by omega) (by omega) dL_law_1377 ?_
  refine lv_aload_n hx hb dL_law_1378 rfl (lv_at hl 4 rfl) ?_
  refine lv_iload hx hb dL_law_1379 (lv_at hl 0 rfl) ?_
  refine lv_iconst (v := nI 2) hx hb dL_law_1381 (by decide) ?_
  refine lv_iadd hx hb dL_law_1382 ?_
  refine zeq (nI_add j 2) ?_
  refine zsld hx hb hX hbl hbA hS (show j + 2 < L by omega) (by omega) dL_law_1383 ?_
  refine lv_aload_n hx hb dL_law_1384 rfl (lv_at hl 1 rfl) ?_
  obtain ⟨k, b9, g1, x1, y1, z1, n11, n21, nL1, n41, n51, kk1, rep1, bro1, hk4, hZ, hWr, hMo, hN1, hkk⟩ := b_ofRead l hlt D ty tl (mA s.heap.size ob ad) u C ma t0 mi g x y z ad hij ob f H.size hob n1 n2 nL n4 n5 kk th rep bro hR hN (xs (j + 1)) (xs (j + 2))
  have hWA := WC_hs hlo hoo hS.1
  refine va_calli (vx_runSW (As := [.ref (ad 0), .int (xs (j + 1)), .int (xs (j + 2)), .ref ob]) (rest := []) ⟨hx, hb, hml, hown, hts⟩ hWr (vx_cwSW 4 hts gL_law_L_ofRead rfl rfl rfl (by decide +kernel) ⟨Nat.le_of_ble_eq_true rfl, Nat.le_of_ble_eq_true rfl⟩) ⟨zBl wX_blind, fun U h1 h2 => ⟨rfl, wX_law hC0 hS hP hO U h1 h2⟩⟩ rfl rfl hl.1 rfl (lv_room (Nat.le_of_ble_eq_true rfl)) dL_law_1385 ⟨by show _ ≤ 594050; omega, by show _ ≤ 7313955; omega⟩) hS (fun q _ h => hWA q h) (fun q h => hWA q h) (fun r S t H1 locs ht hvm hw hB hz1 hk1 hS => ?_)
  obtain ⟨g2, f2⟩ := S
  obtain ⟨rfl, hg, hout⟩ := hw
  obtain rfl : g2 = g1 := hg
  have hP : va_P D vwCl (zC ty g2 ad) H1 := by rw [← ht]; exact hB.1
  have hO : va_at D vwCl (ob, eL tl f2) H1 := by rw [← ht]; exact hB.2
  have hM : mW D (mA s.heap.size ob ad) u C ma H1 := hM.ext (fun q hq hA => hk1 q hq (mA_WC hA hq)) hz1
  clear hB ht hvm hz1 hk1 hWA
  clear t
  refine lv_istore (lv' := [(5, .int (nI k)), (4, .int (nI j)), (3, .ref ob), (2, .ref (ma 0 0)), (1, .ref (ad 0)), (0, .ref b)]) hx hb dL_law_1388 hl (by decide) rfl (fun ls hl => ?_)
  refine lv_aload_n hx hb dL_law_1390 rfl (lv_at hl 3 rfl) ?_
  refine lv_aload_n hx hb dL_law_1391 rfl (lv_at hl 5 rfl) ?_
  refine lv_iload hx hb dL_law_1392 (lv_at hl 1 rfl) ?_
  refine lv_iconst (v := nI 1) hx hb dL_law_1394 (by decide) ?_
  refine lv_iadd hx hb dL_law_1395 ?_
  refine zeq (nI_add j 1) ?_
  refine zsld hx hb hX hbl hbA hS (show j + 1 < L by omega) (by omega) dL_law_1396 ?_
  refine lv_aload_n hx hb dL_law_1397 rfl (lv_at hl 5 rfl) ?_
  refine lv_iload hx hb dL_law_1398 (lv_at hl 1 rfl) ?_
  refine lv_iconst (v := nI 2) hx hb dL_law_1400 (by decide) ?_
  refine lv_iadd hx hb dL_law_1401 ?_
  refine zeq (nI_add j 2) ?_
  refine zsld hx hb hX hbl hbA hS (show j + 2 < L by omega) (by omega) dL_law_1402 ?_
  refine va_calli (va_runV (As := [.int (xs (j + 1)), .int (xs (j + 2))]) (rest := []) ⟨hx, hb, hml, hown, hts⟩ hMo (cwV 2 hts gL_law_X12_ofRead rfl rfl rfl (by decide +kernel) ⟨Nat.le_of_ble_eq_true rfl, Nat.le_of_ble_eq_true rfl⟩) ⟨zBl mI_blind, va_recv hK (hM.Pa hR.o.1 rfl hR.o.2) (ci := 13) (q0 := 0) rfl rfl, fun U h1 h2 => ⟨rfl, mI_law hC0 hS hM U h1 h2⟩⟩ rfl rfl hl.1 rfl (lv_room (Nat.le_of_ble_eq_true rfl)) dL_law_1403 ⟨by show _ ≤ 594050; omega, by show _ ≤ 7313955; omega⟩) hS (fun q _ h => h.1) (fun q h => h.1) (fun r S t H2 locs ht hvm hw hB hz1 hk1 hS => ?_)
  obtain ⟨u2, C2, ma2⟩ := S
  obtain ⟨rfl, h00, hR2⟩ := hw
  have h00 : ma2 0 0 = ma 0 0 := h00
  have hM2 : mW D (mA s.heap.size ob ad) u2 C2 ma2 H2 := by rw [← ht]; exact hB.1
  have hP : va_P D vwCl (zC ty g2 ad) H2 := zC_kept hP (fun k hk h => hk1 _ h (fun z => z.2.2 k hk rfl))
  have hO : va_at D vwCl (ob, eL tl f2) H2 := hO.kept (hk1 ob hO.lt (fun z => z.2.1 rfl))
  refine lv_istore (lv' := [(6, .int r), (5, .int (nI k)), (4, .int (nI j)), (3, .ref ob), (2, .ref (ma 0 0)), (1, .ref (ad 0)), (0, .ref b)]) hx hb dL_law_1406 hl (by decide) rfl (fun ls hl => ?_)
  have hl5 : lv_has ls 9 [(4, .int (nI j)), (3, .ref ob), (2, .ref (ma 0 0)), (1, .ref (ad 0)), (0, .ref b)] := lv_sub hl [2, 3, 4, 5, 6] rfl
  have hl : lv_has ls 9 [(6, .int r), (5, .int (nI k)), (4, .int (nI j)), (3, .ref ob), (2, .ref (ma 0 0)), (1, .ref (ad 0)), (0, .ref b)] := hl
  rw [← h00] at hl
  exact law_tail hC0 hS hO hM2 hk4 hR2 hout hl ⟨by show _ ≤ 594050; omega, by show _ ≤ 7313955; omega⟩ dL_law_1408 dL_law_1409 dL_law_1412 dL_law_1414 dL_law_1419 dL_law_1421 dL_law_1424 dL_law_1425 dL_law_1426 dL_law_1427 dL_law_1429 dL_law_1430 dL_law_1431 dL_law_1436 (by decide) (K _ _ _ _ _ _ _ _ _ _ _ _ _ _ _ _ _ _ _ _ ⟨hP, ⟨hij, hob, hlo, hoo⟩, hO, hM2, hR2, hN1⟩ h00 hkk hS hl5)
set_option maxHeartbeats 2000000 in
set_option maxRecDepth 100000 in
theorem law_ofReader (p : Program) (l : Launch) (e : Env) (s : State) (m : MethodId) (below : List Frame) (meth : Method) (c : Code) (Q : State → Prop) (D : va_G) (ty : Nat → ClassId) (tl : ClassId) (t0 mi b L : Nat) (xs : Nat → Int32) (hC : lwC p l s m meth c D ty tl t0 mi b L xs) (ad : Nat → Nat) (ob : Nat) (g : Nat → Nat → Int32) (x y z : Nat → Int32) (f : Nat → Int64) (u : Nat → Nat → Prop) (C : Nat → Nat → va_E) (ma : Nat → Nat → Nat) (n1 n2 nL n4 n5 kk : Nat) (rep bro : Nat → Nat → Int32) (th : Int32) (H : Heap) (locs : List Loc) (cells slots : Nat) (hW : lwI D ty tl t0 s.heap.size ad ob g x y z f u C ma n1 n2 nL n4 n5 kk rep bro th H) (hS : va_S (fun q => s.heap.size ≤ q) s.heap H locs) (ls : Array Slot) (j : Nat) (hj : j + 7 ≤ L) (hl : lv_has ls 9 [(4, .int (nI j)), (3, .ref ob), (2, .ref (ma 0 0)), (1, .ref (ad 0)), (0, .ref b)]) (hc : cells + 1 + 97 ≤ 594050 ∧ slots + 6 + 584 ≤ 7313955) (K : lwK p l e s m below meth c Q D ty tl t0 b ad ob j (ma 0 0) n5 kk 97 (cells + 1 + 97) (slots + 6 + 584)) : W p l e room_1 s m #[Value.ref b] below meth c H locs cells slots Q (F0 m 1439 ls []) := by
  obtain ⟨hP, ⟨hij, hob, hlo, hoo⟩, hO, hM, hR, hN⟩ := hW
  have hC0 := hC
  obtain ⟨⟨hx, hb, hr, hml, hlocks, hlt⟩, ⟨hown, hts, hX, hbl, hL⟩, ⟨hKz, hK, hKl⟩, hNz, hT, hQ, hMS, hNc⟩ := hC
  have hbA : ¬ s.heap.size ≤ b := Nat.not_le.mpr hbl
  refine lv_aload_n hx hb dL_law_1439 rfl (lv_at hl 3 rfl) ?_
  refine lv_aload_n hx hb dL_law_1440 rfl (lv_at hl 4 rfl) ?_
  refine lv_iload hx hb dL_law_1441 (lv_at hl 0 rfl) ?_
  refine lv_iconst (v := nI 1) hx hb dL_law_1443 (by decide) ?_
  refine lv_iadd hx hb dL_law_1444 ?_
  refine zeq (nI_add j 1) ?_
  refine zsld hx hb hX hbl hbA hS (show j + 1 < L by omega) (by omega) dL_law_1445 ?_
  refine lv_aload_n hx hb dL_law_1446 rfl (lv_at hl 4 rfl) ?_
  refine lv_iload hx hb dL_law_1447 (lv_at hl 0 rfl) ?_
  refine lv_iconst (v := nI 2) hx hb dL_law_1449 (by decide) ?_
  refine lv_iadd hx hb dL_law_1450 ?_
  refine zeq (nI_add j 2) ?_
  refine zsld hx hb hX hbl hbA hS (show j + 2 < L by omega) (by omega) dL_law_1451 ?_
  refine lv_aload_n hx hb dL_law_1452 rfl (lv_at hl 1 rfl) ?_
  obtain ⟨k, b9, g1, x1, y1, z1, n11, n21, nL1, n41, n51, kk1, rep1, bro1, hk4, hZ, hWr, hMo, hN1, hkk⟩ := b_ofReader l hlt D ty tl (mA s.heap.size ob ad) u C ma t0 mi g x y z ad hij ob f H.size hob n1 n2 nL n4 n5 kk th rep bro hR hN (xs (j + 1)) (xs (j + 2))
  have hWA := WC_hs hlo hoo hS.1
  refine va_calli (vx_runSW (As := [.ref (ad 0), .int (xs (j + 1)), .int (xs (j + 2)), .ref ob]) (rest := []) ⟨hx, hb, hml, hown, hts⟩ hWr (vx_cwSW 4 hts gL_law_L_ofReader rfl rfl rfl (by decide +kernel) ⟨Nat.le_of_ble_eq_true rfl, Nat.le_of_ble_eq_true rfl⟩) ⟨zBl wX_blind, fun U h1 h2 => ⟨rfl, wX_law hC0 hS hP hO U h1 h2⟩⟩ rfl rfl hl.1 rfl (lv_room (Nat.le_of_ble_eq_true rfl)) dL_law_1453 ⟨by show _ ≤ 594050; omega, by show _ ≤ 7313955; omega⟩) hS (fun q _ h => hWA q h) (fun q h => hWA q h) (fun r S t H1 locs ht hvm hw hB hz1 hk1 hS => ?_)
  obtain ⟨g2, f2⟩ := S
  obtain ⟨rfl, hg, hout⟩ := hw
  obtain rfl : g2 = g1 := hg
  have hP : va_P D vwCl (zC ty g2 ad) H1 := by rw [← ht]; exact hB.1
  have hO : va_at D vwCl (ob, eL tl f2) H1 := by rw [← ht]; exact hB.2
  have hM : mW D (mA s.heap.size ob ad) u C ma H1 := hM.ext (fun q hq hA => hk1 q hq (mA_WC hA hq)) hz1
  clear hB ht hvm hz1 hk1 hWA
  clear t
  refine lv_istore (lv' := [(5, .int (nI k)), (4, .int (nI j)), (3, .ref ob), (2, .ref (ma 0 0)), (1, .ref (ad 0)), (0, .ref b)]) hx hb dL_law_1456 hl (by decide) rfl (fun ls hl => ?_)
  refine lv_aload_n hx hb dL_law_1458 rfl (lv_at hl 3 rfl) ?_
  refine lv_aload_n hx hb dL_law_1459 rfl (lv_at hl 5 rfl) ?_
  refine lv_iload hx hb dL_law_1460 (lv_at hl 1 rfl) ?_
  refine lv_iconst (v := nI 1) hx hb dL_law_1462 (by decide) ?_
  refine lv_iadd hx hb dL_law_1463 ?_
  refine zeq (nI_add j 1) ?_
  refine zsld hx hb hX hbl hbA hS (show j + 1 < L by omega) (by omega) dL_law_1464 ?_
  refine lv_aload_n hx hb dL_law_1465 rfl (lv_at hl 5 rfl) ?_
  refine lv_iload hx hb dL_law_1466 (lv_at hl 1 rfl) ?_
  refine lv_iconst (v := nI 2) hx hb dL_law_1468 (by decide) ?_
  refine lv_iadd hx hb dL_law_1469 ?_
  refine zeq (nI_add j 2) ?_
  refine zsld hx hb hX hbl hbA hS (show j + 2 < L by omega) (by omega) dL_law_1470 ?_
  refine va_calli (va_runV (As := [.int (xs (j + 1)), .int (xs (j + 2))]) (rest := []) ⟨hx, hb, hml, hown, hts⟩ hMo (cwV 2 hts gL_law_X12_ofReader rfl rfl rfl (by decide +kernel) ⟨Nat.le_of_ble_eq_true rfl, Nat.le_of_ble_eq_true rfl⟩) ⟨zBl mI_blind, va_recv hK (hM.Pa hR.o.1 rfl hR.o.2) (ci := 13) (q0 := 0) rfl rfl, fun U h1 h2 => ⟨rfl, mI_law hC0 hS hM U h1 h2⟩⟩ rfl rfl hl.1 rfl (lv_room (Nat.le_of_ble_eq_true rfl)) dL_law_1471 ⟨by show _ ≤ 594050; omega, by show _ ≤ 7313955; omega⟩) hS (fun q _ h => h.1) (fun q h => h.1) (fun r S t H2 locs ht hvm hw hB hz1 hk1 hS => ?_)
  obtain ⟨u2, C2, ma2⟩ := S
  obtain ⟨rfl, h00, hR2⟩ := hw
  have h00 : ma2 0 0 = ma 0 0 := h00
  have hM2 : mW D (mA s.heap.size ob ad) u2 C2 ma2 H2 := by rw [← ht]; exact hB.1
  have hP : va_P D vwCl (zC ty g2 ad) H2 := zC_kept hP (fun k hk h => hk1 _ h (fun z => z.2.2 k hk rfl))
  have hO : va_at D vwCl (ob, eL tl f2) H2 := hO.kept (hk1 ob hO.lt (fun z => z.2.1 rfl))
  refine lv_istore (lv' := [(6, .int r), (5, .int (nI k)), (4, .int (nI j)), (3, .ref ob), (2, .ref (ma 0 0)), (1, .ref (ad 0)), (0, .ref b)]) hx hb dL_law_1474 hl (by decide) rfl (fun ls hl => ?_)
  have hl5 : lv_has ls 9 [(4, .int (nI j)), (3, .ref ob), (2, .ref (ma 0 0)), (1, .ref (ad 0)), (0, .ref b)] := lv_sub hl [2, 3, 4, 5, 6] rfl
  have hl : lv_has ls 9 [(6, .int r), (5, .int (nI k)), (4, .int (nI j)), (3, .ref ob), (2, .ref (ma 0 0)), (1, .ref (ad 0)), (0, .ref b)] := hl
  rw [← h00] at hl
  exact law_tail hC0 hS hO hM2 hk4 hR2 hout hl ⟨by show _ ≤ 594050; omega, by show _ ≤ 7313955; omega⟩ dL_law_1476 dL_law_1477 dL_law_1480 dL_law_1482 dL_law_1487 dL_law_1489 dL_law_1492 dL_law_1493 dL_law_1494 dL_law_1495 dL_law_1497 dL_law_1498 dL_law_1499 dL_law_1504 (by decide) (K _ _ _ _ _ _ _ _ _ _ _ _ _ _ _ _ _ _ _ _ ⟨hP, ⟨hij, hob, hlo, hoo⟩, hO, hM2, hR2, hN1⟩ h00 hkk hS hl5)
