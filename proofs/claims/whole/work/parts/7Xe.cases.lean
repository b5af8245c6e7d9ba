set_option maxHeartbeats 2000000 in
set_option maxRecDepth 100000 in
theorem law_bill (p : Program) (l : Launch) (e : Env) (s : State) (m : MethodId) (below : List Frame) (meth : Method) (c : Code) (Q : State → Prop) (D : va_G) (ty : Nat → ClassId) (tl : ClassId) (t0 mi b L : Nat) (xs : Nat → Int32) (hC : lwC p l s m meth c D ty tl t0 mi b L xs) (ad : Nat → Nat) (ob : Nat) (g : Nat → Nat → Int32) (x y z : Nat → Int32) (f : Nat → Int64) (u : Nat → Nat → Prop) (C : Nat → Nat → va_E) (ma : Nat → Nat → Nat) (n1 n2 nL n4 n5 kk : Nat) (rep bro : Nat → Nat → Int32) (th : Int32) (H : Heap) (locs : List Loc) (cells slots : Nat) (hW : lwI D ty tl t0 s.heap.size ad ob g x y z f u C ma n1 n2 nL n4 n5 kk rep bro th H) (hS : va_S (fun q => s.heap.size ≤ q) s.heap H locs) (ls : Array Slot) (j : Nat) (hj : j + 7 ≤ L) (hl : lv_has ls 9 [(4, .int (nI j)), (3, .ref ob), (2, .ref (ma 0 0)), (1, .ref (ad 0)), (0, .ref b)]) (hc : cells + 1 + 97 ≤ 594050 ∧ slots + 6 + 584 ≤ 7313955) (K : lwK p l e s m below meth c Q D ty tl t0 b ad ob j (ma 0 0) n5 kk 97 (cells + 1 + 97) (slots + 6 + 584)) : W p l e room_1 s m #[Value.ref b] below meth c H locs cells slots Q (F0 m 1507 ls []) := by
  obtain ⟨hP, ⟨hij, hob, hlo, hoo⟩, hO, hM, hR, hN⟩ := hW
  have hC0 := hC
  obtain ⟨⟨hx, hb, hr, hml, hlocks, hlt⟩, ⟨hown, hts, hX, hbl, hL⟩, ⟨hKz, hK, hKl⟩, hNz, hT, hQ, hMS, hNc⟩ := hC
  have hbA : ¬ s.heap.size ≤ b := Nat.not_le.mpr hbl
  refine lv_aload_n hx hb dL_law_1507 rfl (lv_at hl 3 rfl) ?_
  refine lv_aload_n hx hb dL_law_1508 rfl (lv_at hl 4 rfl) ?_
  refine lv_iload hx hb dL_law_1509 (lv_at hl 0 rfl) ?_
  refine lv_iconst (v := nI 1) hx hb dL_law_1511 (by decide) ?_
  refine lv_iadd hx hb dL_law_1512 ?_
  refine zeq (nI_add j 1) ?_
  refine zsld hx hb hX hbl hbA hS (show j + 1 < L by omega) (by omega) dL_law_1513 ?_
  refine lv_aload_n hx hb dL_law_1514 rfl (lv_at hl 1 rfl) ?_
  obtain ⟨k, b9, g1, x1, y1, z1, n11, n21, nL1, n41, n51, kk1, rep1, bro1, hk4, hZ, hWr, hMo, hN1, hkk⟩ := b_bill l hlt D ty tl (mA s.heap.size ob ad) u C ma t0 mi g x y z ad hij ob f H.size hob n1 n2 nL n4 n5 kk th rep bro hR hN (xs (j + 1))
  have hWA := WC_hs hlo hoo hS.1
  refine va_calli (vx_runSW (As := [.ref (ad 0), .int (xs (j + 1)), .ref ob]) (rest := []) ⟨hx, hb, hml, hown, hts⟩ hWr (vx_cwSW 3 hts gL_law_L_bill rfl rfl rfl (by decide +kernel) ⟨Nat.le_of_ble_eq_true rfl, Nat.le_of_ble_eq_true rfl⟩) ⟨zBl wX_blind, fun U h1 h2 => ⟨rfl, wX_law hC0 hS hP hO U h1 h2⟩⟩ rfl rfl hl.1 rfl (lv_room (Nat.le_of_ble_eq_true rfl)) dL_law_1515 ⟨by show _ ≤ 594050; omega, by show _ ≤ 7313955; omega⟩) hS (fun q _ h => hWA q h) (fun q h => hWA q h) (fun r S t H1 locs ht hvm hw hB hz1 hk1 hS => ?_)
  obtain ⟨g2, f2⟩ := S
  obtain ⟨rfl, hg, hout⟩ := hw
  obtain rfl : g2 = g1 := hg
  have hP : va_P D vwCl (zC ty g2 ad) H1 := by rw [← ht]; exact hB.1
  have hO : va_at D vwCl (ob, eL tl f2) H1 := by rw [← ht]; exact hB.2
  have hM : mW D (mA s.heap.size ob ad) u C ma H1 := hM.ext (fun q hq hA => hk1 q hq (mA_WC hA hq)) hz1
  clear hB ht hvm hz1 hk1 hWA
  clear t
  refine lv_istore (lv' := [(5, .int (nI k)), (4, .int (nI j)), (3, .ref ob), (2, .ref (ma 0 0)), (1, .ref (ad 0)), (0, .ref b)]) hx hb dL_law_1518 hl (by decide) rfl (fun ls hl => ?_)
  refine lv_aload_n hx hb dL_law_1520 rfl (lv_at hl 3 rfl) ?_
  refine lv_aload_n hx hb dL_law_1521 rfl (lv_at hl 5 rfl) ?_
  refine lv_iload hx hb dL_law_1522 (lv_at hl 1 rfl) ?_
  refine lv_iconst (v := nI 1) hx hb dL_law_1524 (by decide) ?_
  refine lv_iadd hx hb dL_law_1525 ?_
  refine zeq (nI_add j 1) ?_
  refine zsld hx hb hX hbl hbA hS (show j + 1 < L by omega) (by omega) dL_law_1526 ?_
  refine va_calli (va_runV (As := [.int (xs (j + 1))]) (rest := []) ⟨hx, hb, hml, hown, hts⟩ hMo (cwV 1 hts gL_law_X12_bill rfl rfl rfl (by decide +kernel) ⟨Nat.le_of_ble_eq_true rfl, Nat.le_of_ble_eq_true rfl⟩) ⟨zBl mI_blind, va_recv hK (hM.Pa hR.o.1 rfl hR.o.2) (ci := 13) (q0 := 0) rfl rfl, fun U h1 h2 => ⟨rfl, mI_law hC0 hS hM U h1 h2⟩⟩ rfl rfl hl.1 rfl (lv_room (Nat.le_of_ble_eq_true rfl)) dL_law_1527 ⟨by show _ ≤ 594050; omega, by show _ ≤ 7313955; omega⟩) hS (fun q _ h => h.1) (fun q h => h.1) (fun r S t H2 locs ht hvm hw hB hz1 hk1 hS => ?_)
  obtain ⟨u2, C2, ma2⟩ := S
  obtain ⟨rfl, h00, hR2⟩ := hw
  have h00 : ma2 0 0 = ma 0 0 := h00
  have hM2 : mW D (mA s.heap.size ob ad) u2 C2 ma2 H2 := by rw [← ht]; exact hB.1
  have hP : va_P D vwCl (zC ty g2 ad) H2 := zC_kept hP (fun k hk h => hk1 _ h (fun z => z.2.2 k hk rfl))
  have hO : va_at D vwCl (ob, eL tl f2) H2 := hO.kept (hk1 ob hO.lt (fun z => z.2.1 rfl))
  refine lv_istore (lv' := [(6, .int r), (5, .int (nI k)), (4, .int (nI j)), (3, .ref ob), (2, .ref (ma 0 0)), (1, .ref (ad 0)), (0, .ref b)]) hx hb dL_law_1530 hl (by decide) rfl (fun ls hl => ?_)
  have hl5 : lv_has ls 9 [(4, .int (nI j)), (3, .ref ob), (2, .ref (ma 0 0)), (1, .ref (ad 0)), (0, .ref b)] := lv_sub hl [2, 3, 4, 5, 6] rfl
  have hl : lv_has ls 9 [(6, .int r), (5, .int (nI k)), (4, .int (nI j)), (3, .ref ob), (2, .ref (ma 0 0)), (1, .ref (ad 0)), (0, .ref b)] := hl
  rw [← h00] at hl
  exact law_tail hC0 hS hO hM2 hk4 hR2 hout hl ⟨by show _ ≤ 594050; omega, by show _ ≤ 7313955; omega⟩ dL_law_1532 dL_law_1533 dL_law_1536 dL_law_1538 dL_law_1543 dL_law_1545 dL_law_1548 dL_law_1549 dL_law_1550 dL_law_1551 dL_law_1553 dL_law_1554 dL_law_1555 dL_law_1560 (by decide) (K _ _ _ _ _ _ _ _ _ _ _ _ _ _ _ _ _ _ _ _ ⟨hP, ⟨hij, hob, hlo, hoo⟩, hO, hM2, hR2, hN1⟩ h00 hkk hS hl5)
set_option maxHeartbeats 2000000 in
set_option maxRecDepth 100000 in
theorem law_pass (p : Program) (l : Launch) (e : Env) (s : State) (m : MethodId) (below : List Frame) (meth : Method) (c : Code) (Q : State → Prop) (D : va_G) (ty : Nat → ClassId) (tl : ClassId) (t0 mi b L : Nat) (xs : Nat → Int32) (hC : lwC p l s m meth c D ty tl t0 mi b L xs) (ad : Nat → Nat) (ob : Nat) (g : Nat → Nat → Int32) (x y z : Nat → Int32) (f : Nat → Int64) (u : Nat → Nat → Prop) (C : Nat → Nat → va_E) (ma : Nat → Nat → Nat) (n1 n2 nL n4 n5 kk : Nat) (rep bro : Nat → Nat → Int32) (th : Int32) (H : Heap) (locs : List Loc) (cells slots : Nat) (hW : lwI D ty tl t0 s.heap.size ad ob g x y z f u C ma n1 n2 nL n4 n5 kk rep bro th H) (hS : va_S (fun q => s.heap.size ≤ q) s.heap H locs) (ls : Array Slot) (j : Nat) (hj : j + 7 ≤ L) (hl : lv_has ls 9 [(4, .int (nI j)), (3, .ref ob), (2, .ref (ma 0 0)), (1, .ref (ad 0)), (0, .ref b)]) (hc : cells + 1 + 0 ≤ 594050 ∧ slots + 6 + 0 ≤ 7313955) (K : lwK p l e s m below meth c Q D ty tl t0 b ad ob j (ma 0 0) n5 kk 0 (cells + 1 + 0) (slots + 6 + 0)) : W p l e room_1 s m #[Value.ref b] below meth c H locs cells slots Q (F0 m 1563 ls []) := by
  obtain ⟨hP, ⟨hij, hob, hlo, hoo⟩, hO, hM, hR, hN⟩ := hW
  have hC0 := hC
  obtain ⟨⟨hx, hb, hr, hml, hlocks, hlt⟩, ⟨hown, hts, hX, hbl, hL⟩, ⟨hKz, hK, hKl⟩, hNz, hT, hQ, hMS, hNc⟩ := hC
  have hbA : ¬ s.heap.size ≤ b := Nat.not_le.mpr hbl
  refine lv_aload_n hx hb dL_law_1563 rfl (lv_at hl 3 rfl) ?_
  refine lv_aload_n hx hb dL_law_1564 rfl (lv_at hl 4 rfl) ?_
  refine lv_iload hx hb dL_law_1565 (lv_at hl 0 rfl) ?_
  refine lv_iconst (v := nI 1) hx hb dL_law_1567 (by decide) ?_
  refine lv_iadd hx hb dL_law_1568 ?_
  refine zeq (nI_add j 1) ?_
  refine zsld hx hb hX hbl hbA hS (show j + 1 < L by omega) (by omega) dL_law_1569 ?_
  refine lv_aload_n hx hb dL_law_1570 rfl (lv_at hl 1 rfl) ?_
  obtain ⟨k, b9, g1, x1, y1, z1, n11, n21, nL1, n41, n51, kk1, rep1, bro1, hk4, hZ, hWr, hMo, hN1, hkk⟩ := b_pass l hlt D ty tl (mA s.heap.size ob ad) u C ma t0 mi g x y z ad hij ob f H.size hob n1 n2 nL n4 n5 kk th rep bro hR hN (xs (j + 1))
  have hWA := WC_hs hlo hoo hS.1
  refine va_calli (vx_runSW (As := [.ref (ad 0), .int (xs (j + 1)), .ref ob]) (rest := []) ⟨hx, hb, hml, hown, hts⟩ hWr (vx_cwSW 3 hts gL_law_L_pass rfl rfl rfl (by decide +kernel) ⟨Nat.le_of_ble_eq_true rfl, Nat.le_of_ble_eq_true rfl⟩) ⟨zBl wX_blind, fun U h1 h2 => ⟨rfl, wX_law hC0 hS hP hO U h1 h2⟩⟩ rfl rfl hl.1 rfl (lv_room (Nat.le_of_ble_eq_true rfl)) dL_law_1571 ⟨by show _ ≤ 594050; omega, by show _ ≤ 7313955; omega⟩) hS (fun q _ h => hWA q h) (fun q h => hWA q h) (fun r S t H1 locs ht hvm hw hB hz1 hk1 hS => ?_)
  obtain ⟨g2, f2⟩ := S
  obtain ⟨rfl, hg, hout⟩ := hw
  obtain rfl : g2 = g1 := hg
  have hP : va_P D vwCl (zC ty g2 ad) H1 := by rw [← ht]; exact hB.1
  have hO : va_at D vwCl (ob, eL tl f2) H1 := by rw [← ht]; exact hB.2
  have hM : mW D (mA s.heap.size ob ad) u C ma H1 := hM.ext (fun q hq hA => hk1 q hq (mA_WC hA hq)) hz1
  clear hB ht hvm hz1 hk1 hWA
  clear t
  refine lv_istore (lv' := [(5, .int (nI k)), (4, .int (nI j)), (3, .ref ob), (2, .ref (ma 0 0)), (1, .ref (ad 0)), (0, .ref b)]) hx hb dL_law_1574 hl (by decide) rfl (fun ls hl => ?_)
  refine lv_aload_n hx hb dL_law_1576 rfl (lv_at hl 3 rfl) ?_
  refine lv_aload_n hx hb dL_law_1577 rfl (lv_at hl 5 rfl) ?_
  refine lv_iload hx hb dL_law_1578 (lv_at hl 1 rfl) ?_
  refine lv_iconst (v := nI 1) hx hb dL_law_1580 (by decide) ?_
  refine lv_iadd hx hb dL_law_1581 ?_
  refine zeq (nI_add j 1) ?_
  refine zsld hx hb hX hbl hbA hS (show j + 1 < L by omega) (by omega) dL_law_1582 ?_
  refine va_calli (va_runV (As := [.int (xs (j + 1))]) (rest := []) ⟨hx, hb, hml, hown, hts⟩ hMo (cwV 1 hts gL_law_X12_pass rfl rfl rfl (by decide +kernel) ⟨Nat.le_of_ble_eq_true rfl, Nat.le_of_ble_eq_true rfl⟩) ⟨zBl mI_blind, va_recv hK (hM.Pa hR.o.1 rfl hR.o.2) (ci := 13) (q0 := 0) rfl rfl, fun U h1 h2 => ⟨rfl, mI_law hC0 hS hM U h1 h2⟩⟩ rfl rfl hl.1 rfl (lv_room (Nat.le_of_ble_eq_true rfl)) dL_law_1583 ⟨by show _ ≤ 594050; omega, by show _ ≤ 7313955; omega⟩) hS (fun q _ h => h.1) (fun q h => h.1) (fun r S t H2 locs ht hvm hw hB hz1 hk1 hS => ?_)
  obtain ⟨u2, C2, ma2⟩ := S
  obtain ⟨rfl, h00, hR2⟩ := hw
  have h00 : ma2 0 0 = ma 0 0 := h00
  have hM2 : mW D (mA s.heap.size ob ad) u2 C2 ma2 H2 := by rw [← ht]; exact hB.1
  have hP : va_P D vwCl (zC ty g2 ad) H2 := zC_kept hP (fun k hk h => hk1 _ h (fun z => z.2.2 k hk rfl))
  have hO : va_at D vwCl (ob, eL tl f2) H2 := hO.kept (hk1 ob hO.lt (fun z => z.2.1 rfl))
  refine lv_istore (lv' := [(6, .int r), (5, .int (nI k)), (4, .int (nI j)), (3, .ref ob), (2, .ref (ma 0 0)), (1, .ref (ad 0)), (0, .ref b)]) hx hb dL_law_1586 hl (by decide) rfl (fun ls hl => ?_)
  have hl5 : lv_has ls 9 [(4, .int (nI j)), (3, .ref ob), (2, .ref (ma 0 0)), (1, .ref (ad 0)), (0, .ref b)] := lv_sub hl [2, 3, 4, 5, 6] rfl
  have hl : lv_has ls 9 [(6, .int r), (5, .int (nI k)), (4, .int (nI j)), (3, .ref ob), (2, .ref (ma 0 0)), (1, .ref (ad 0)), (0, .ref b)] := hl
  rw [← h00] at hl
  exact law_tail hC0 hS hO hM2 hk4 hR2 hout hl ⟨by show _ ≤ 594050; omega, by show _ ≤ 7313955; omega⟩ dL_law_1588 dL_law_1589 dL_law_1592 dL_law_1594 dL_law_1599 dL_law_1601 dL_law_1604 dL_law_1605 dL_law_1606 dL_law_1607 dL_law_1609 dL_law_1610 dL_law_1611 dL_law_1616 (by decide) (K _ _ _ _ _ _ _ _ _ _ _ _ _ _ _ _ _ _ _ _ ⟨hP, ⟨hij, hob, hlo, hoo⟩, hO, hM2, hR2, hN1⟩ h00 hkk hS hl5)
set_option maxHeartbeats 2000000 in
set_option maxRecDepth 100000 in
theorem law_many (p : Program) (l : Launch) (e : Env) (s : State) (m : MethodId) (below : List Frame) (meth : Method) (c : Code) (Q : State → Prop) (D : va_G) (ty : Nat → ClassId) (tl : ClassId) (t0 mi b L : Nat) (xs : Nat → Int32) (hC : lwC p l s m meth c D ty tl t0 mi b L xs) (ad : Nat → Nat) (ob : Nat) (g : Nat → Nat → Int32) (x y z : Nat → Int32) (f : Nat → Int64) (u : Nat → Nat → Prop) (C : Nat → Nat → va_E) (ma : Nat → Nat → Nat) (n1 n2 nL n4 n5 kk : Nat) (rep bro : Nat → Nat → Int32) (th : Int32) (H : Heap) (locs : List Loc) (cells slots : Nat) (hW : lwI D ty tl t0 s.heap.size ad ob g x y z f u C ma n1 n2 nL n4 n5 kk rep bro th H) (hS : va_S (fun q => s.heap.size ≤ q) s.heap H locs) (ls : Array Slot) (j : Nat) (hj : j + 7 ≤ L) (hl : lv_has ls 9 [(4, .int (nI j)), (3, .ref ob), (2, .ref (ma 0 0)), (1, .ref (ad 0)), (0, .ref b)]) (hc : cells + 1 + 58 ≤ 594050 ∧ slots + 6 + 353 ≤ 7313955) (K : lwK p l e s m below meth c Q D ty tl t0 b ad ob j (ma 0 0) n5 kk 58 (cells + 1 + 58) (slots + 6 + 353)) : W p l e room_1 s m #[Value.ref b] below meth c H locs cells slots Q (F0 m 1619 ls []) := by
  obtain ⟨hP, ⟨hij, hob, hlo, hoo⟩, hO, hM, hR, hN⟩ := hW
  have hC0 := hC
  obtain ⟨⟨hx, hb, hr, hml, hlocks, hlt⟩, ⟨hown, hts, hX, hbl, hL⟩, ⟨hKz, hK, hKl⟩, hNz, hT, hQ, hMS, hNc⟩ := hC
  have hbA : ¬ s.heap.size ≤ b := Nat.not_le.mpr hbl
  refine lv_aload_n hx hb dL_law_1619 rfl (lv_at hl 3 rfl) ?_
  refine lv_aload_n hx hb dL_law_1620 rfl (lv_at hl 4 rfl) ?_
  refine lv_iload hx hb dL_law_1621 (lv_at hl 0 rfl) ?_
  refine lv_iconst (v := nI 1) hx hb dL_law_1623 (by decide) ?_
  refine lv_iadd hx hb dL_law_1624 ?_
  refine zeq (nI_add j 1) ?_
  refine zsld hx hb hX hbl hbA hS (show j + 1 < L by omega) (by omega) dL_law_1625 ?_
  refine lv_aload_n hx hb dL_law_1626 rfl (lv_at hl 1 rfl) ?_
  obtain ⟨k, b9, g1, x1, y1, z1, n11, n21, nL1, n41, n51, kk1, rep1, bro1, hk4, hZ, hWr, hMo, hN1, hkk⟩ := b_many l hlt D ty tl (mA s.heap.size ob ad) u C ma t0 mi g x y z ad hij ob f H.size hob n1 n2 nL n4 n5 kk th rep bro hR hN (xs (j + 1))
  have hWA := WC_hs hlo hoo hS.1
  refine va_calli (vx_runSW (As := [.ref (ad 0), .int (xs (j + 1)), .ref ob]) (rest := []) ⟨hx, hb, hml, hown, hts⟩ hWr (vx_cwSW 3 hts gL_law_L_many rfl rfl rfl (by decide +kernel) ⟨Nat.le_of_ble_eq_true rfl, Nat.le_of_ble_eq_true rfl⟩) ⟨zBl wX_blind, fun U h1 h2 => ⟨rfl, wX_law hC0 hS hP hO U h1 h2⟩⟩ rfl rfl hl.1 rfl (lv_room (Nat.le_of_ble_eq_true rfl)) dL_law_1627 ⟨by show _ ≤ 594050; omega, by show _ ≤ 7313955; omega⟩) hS (fun q _ h => hWA q h) (fun q h => hWA q h) (fun r S t H1 locs ht hvm hw hB hz1 hk1 hS => ?_)
  obtain ⟨g2, f2⟩ := S
  obtain ⟨rfl, hg, hout⟩ := hw
  obtain rfl : g2 = g1 := hg
  have hP : va_P D vwCl (zC ty g2 ad) H1 := by rw [← ht]; exact hB.1
  have hO : va_at D vwCl (ob, eL tl f2) H1 := by rw [← ht]; exact hB.2
  have hM : mW D (mA s.heap.size ob ad) u C ma H1 := hM.ext (fun q hq hA => hk1 q hq (mA_WC hA hq)) hz1
  clear hB ht hvm hz1 hk1 hWA
  clear t
  refine lv_istore (lv' := [(5, .int (nI k)), (4, .int (nI j)), (3, .ref ob), (2, .ref (ma 0 0)), (1, .ref (ad 0)), (0, .ref b)]) hx hb dL_law_1630 hl (by decide) rfl (fun ls hl => ?_)
  refine lv_aload_n hx hb dL_law_1632 rfl (lv_at hl 3 rfl) ?_
  refine lv_aload_n hx hb dL_law_1633 rfl (lv_at hl 5 rfl) ?_
  refine lv_iload hx hb dL_law_1634 (lv_at hl 1 rfl) ?_
  refine lv_iconst (v := nI 1) hx hb dL_law_1636 (by decide) ?_
  refine lv_iadd hx hb dL_law_1637 ?_
  refine zeq (nI_add j 1) ?_
  refine zsld hx hb hX hbl hbA hS (show j + 1 < L by omega) (by omega) dL_law_1638 ?_
  refine va_calli (va_runV (As := [.int (xs (j + 1))]) (rest := []) ⟨hx, hb, hml, hown, hts⟩ hMo (cwV 1 hts gL_law_X12_many rfl rfl rfl (by decide +kernel) ⟨Nat.le_of_ble_eq_true rfl, Nat.le_of_ble_eq_true rfl⟩) ⟨zBl mI_blind, va_recv hK (hM.Pa hR.o.1 rfl hR.o.2) (ci := 13) (q0 := 0) rfl rfl, fun U h1 h2 => ⟨rfl, mI_law hC0 hS hM U h1 h2⟩⟩ rfl rfl hl.1 rfl (lv_room (Nat.le_of_ble_eq_true rfl)) dL_law_1639 ⟨by show _ ≤ 594050; omega, by show _ ≤ 7313955; omega⟩) hS (fun q _ h => h.1) (fun q h => h.1) (fun r S t H2 locs ht hvm hw hB hz1 hk1 hS => ?_)
  obtain ⟨u2, C2, ma2⟩ := S
  obtain ⟨rfl, h00, hR2⟩ := hw
  have h00 : ma2 0 0 = ma 0 0 := h00
  have hM2 : mW D (mA s.heap.size ob ad) u2 C2 ma2 H2 := by rw [← ht]; exact hB.1
  have hP : va_P D vwCl (zC ty g2 ad) H2 := zC_kept hP (fun k hk h => hk1 _ h (fun z => z.2.2 k hk rfl))
  have hO : va_at D vwCl (ob, eL tl f2) H2 := hO.kept (hk1 ob hO.lt (fun z => z.2.1 rfl))
  refine lv_istore (lv' := [(6, .int r), (5, .int (nI k)), (4, .int (nI j)), (3, .ref ob), (2, .ref (ma 0 0)), (1, .ref (ad 0)), (0, .ref b)]) hx hb dL_law_1642 hl (by decide) rfl (fun ls hl => ?_)
  have hl5 : lv_has ls 9 [(4, .int (nI j)), (3, .ref ob), (2, .ref (ma 0 0)), (1, .ref (ad 0)), (0, .ref b)] := lv_sub hl [2, 3, 4, 5, 6] rfl
  have hl : lv_has ls 9 [(6, .int r), (5, .int (nI k)), (4, .int (nI j)), (3, .ref ob), (2, .ref (ma 0 0)), (1, .ref (ad 0)), (0, .ref b)] := hl
  rw [← h00] at hl
  exact law_tail hC0 hS hO hM2 hk4 hR2 hout hl ⟨by show _ ≤ 594050; omega, by show _ ≤ 7313955; omega⟩ dL_law_1644 dL_law_1645 dL_law_1648 dL_law_1650 dL_law_1655 dL_law_1657 dL_law_1660 dL_law_1661 dL_law_1662 dL_law_1663 dL_law_1665 dL_law_1666 dL_law_1667 dL_law_1672 (by decide) (K _ _ _ _ _ _ _ _ _ _ _ _ _ _ _ _ _ _ _ _ ⟨hP, ⟨hij, hob, hlo, hoo⟩, hO, hM2, hR2, hN1⟩ h00 hkk hS hl5)
set_option maxHeartbeats 2000000 in
set_option maxRecDepth 100000 in
theorem law_quote (p : Program) (l : Launch) (e : Env) (s : State) (m : MethodId) (below : List Frame) (meth : Method) (c : Code) (Q : State → Prop) (D : va_G) (ty : Nat → ClassId) (tl : ClassId) (t0 mi b L : Nat) (xs : Nat → Int32) (hC : lwC p l s m meth c D ty tl t0 mi b L xs) (ad : Nat → Nat) (ob : Nat) (g : Nat → Nat → Int32) (x y z : Nat → Int32) (f : Nat → Int64) (u : Nat → Nat → Prop) (C : Nat → Nat → va_E) (ma : Nat → Nat → Nat) (n1 n2 nL n4 n5 kk : Nat) (rep bro : Nat → Nat → Int32) (th : Int32) (H : Heap) (locs : List Loc) (cells slots : Nat) (hW : lwI D ty tl t0 s.heap.size ad ob g x y z f u C ma n1 n2 nL n4 n5 kk rep bro th H) (hS : va_S (fun q => s.heap.size ≤ q) s.heap H locs) (ls : Array Slot) (j : Nat) (hj : j + 7 ≤ L) (hl : lv_has ls 9 [(4, .int (nI j)), (3, .ref ob), (2, .ref (ma 0 0)), (1, .ref (ad 0)), (0, .ref b)]) (hc : cells + 1 + 2 ≤ 594050 ∧ slots + 6 + 16 ≤ 7313955) (K : lwK p l e s m below meth c Q D ty tl t0 b ad ob j (ma 0 0) n5 kk 2 (cells + 1 + 2) (slots + 6 + 16)) : W p l e room_1 s m #[Value.ref b] below meth c H locs cells slots Q (F0 m 1716 ls []) := by
  obtain ⟨hP, ⟨hij, hob, hlo, hoo⟩, hO, hM, hR, hN⟩ := hW
  have hC0 := hC
  obtain ⟨⟨hx, hb, hr, hml, hlocks, hlt⟩, ⟨hown, hts, hX, hbl, hL⟩, ⟨hKz, hK, hKl⟩, hNz, hT, hQ, hMS, hNc⟩ := hC
  have hbA : ¬ s.heap.size ≤ b := Nat.not_le.mpr hbl
  refine lv_aload_n hx hb dL_law_1716 rfl (lv_at hl 3 rfl) ?_
  refine lv_aload_n hx hb dL_law_1717 rfl (lv_at hl 4 rfl) ?_
  refine lv_iload hx hb dL_law_1718 (lv_at hl 0 rfl) ?_
  refine lv_iconst (v := nI 1) hx hb dL_law_1720 (by decide) ?_
  refine lv_iadd hx hb dL_law_1721 ?_
  refine zeq (nI_add j 1) ?_
  refine zsld hx hb hX hbl hbA hS (show j + 1 < L by omega) (by omega) dL_law_1722 ?_
  refine lv_aload_n hx hb dL_law_1723 rfl (lv_at hl 4 rfl) ?_
  refine lv_iload hx hb dL_law_1724 (lv_at hl 0 rfl) ?_
  refine lv_iconst (v := nI 2) hx hb dL_law_1726 (by decide) ?_
  refine lv_iadd hx hb dL_law_1727 ?_
  refine zeq (nI_add j 2) ?_
  refine zsld hx hb hX hbl hbA hS (show j + 2 < L by omega) (by omega) dL_law_1728 ?_
  refine lv_aload_n hx hb dL_law_1729 rfl (lv_at hl 4 rfl) ?_
  refine lv_iload hx hb dL_law_1730 (lv_at hl 0 rfl) ?_
  refine lv_iconst (v := nI 3) hx hb dL_law_1732 (by decide) ?_
  refine lv_iadd hx hb dL_law_1733 ?_
  refine zeq (nI_add j 3) ?_
  refine zsld hx hb hX hbl hbA hS (show j + 3 < L by omega) (by omega) dL_law_1734 ?_
  refine lv_aload_n hx hb dL_law_1735 rfl (lv_at hl 4 rfl) ?_
  refine lv_iload hx hb dL_law_1736 (lv_at hl 0 rfl) ?_
  refine lv_iconst (v := nI 4) hx hb dL_law_1738 (by decide) ?_
  refine lv_iadd hx hb dL_law_1739 ?_
  refine zeq (nI_add j 4) ?_
  refine zsld hx hb hX hbl hbA hS (show j + 4 < L by omega) (by omega) dL_law_1740 ?_
  refine lv_aload_n hx hb dL_law_1741 rfl (lv_at hl 1 rfl) ?_
  obtain ⟨k, b9, g1, x1, y1, z1, n11, n21, nL1, n41, n51, kk1, rep1, bro1, hk4, hZ, hWr, hMo, hN1, hkk⟩ := b_quote l hlt D ty tl (mA s.heap.size ob ad) u C ma t0 mi g x y z ad hij ob f H.size hob n1 n2 nL n4 n5 kk th rep bro hR hN (xs (j + 1)) (xs (j + 2)) (xs (j + 3)) (xs (j + 4))
  have hWA := WC_hs hlo hoo hS.1
  refine va_calli (vx_runSW (As := [.ref (ad 0), .int (xs (j + 1)), .int (xs (j + 2)), .int (xs (j + 3)), .int (xs (j + 4)), .ref ob]) (rest := []) ⟨hx, hb, hml, hown, hts⟩ hWr (vx_cwSW 6 hts gL_law_L_quote rfl rfl rfl (by decide +kernel) ⟨Nat.le_of_ble_eq_true rfl, Nat.le_of_ble_eq_true rfl⟩) ⟨zBl wX_blind, fun U h1 h2 => ⟨rfl, wX_law hC0 hS hP hO U h1 h2⟩⟩ rfl rfl hl.1 rfl (lv_room (Nat.le_of_ble_eq_true rfl)) dL_law_1742 ⟨by show _ ≤ 594050; omega, by show _ ≤ 7313955; omega⟩) hS (fun q _ h => hWA q h) (fun q h => hWA q h) (fun r S t H1 locs ht hvm hw hB hz1 hk1 hS => ?_)
  obtain ⟨g2, f2⟩ := S
  obtain ⟨rfl, hg, hout⟩ := hw
  obtain rfl : g2 = g1 := hg
  have hP : va_P D vwCl (zC ty g2 ad) H1 := by rw [← ht]; exact hB.1
  have hO : va_at D vwCl (ob, eL tl f2) H1 := by rw [← ht]; exact hB.2
  have hM : mW D (mA s.heap.size ob ad) u C ma H1 := hM.ext (fun q hq hA => hk1 q hq (mA_WC hA hq)) hz1
  clear hB ht hvm hz1 hk1 hWA
  clear t
  refine lv_istore (lv' := [(5, .int (nI k)), (4, .int (nI j)), (3, .ref ob), (2, .ref (ma 0 0)), (1, .ref (ad 0)), (0, .ref b)]) hx hb dL_law_1745 hl (by decide) rfl (fun ls hl => ?_)
  refine lv_aload_n hx hb dL_law_1747 rfl (lv_at hl 3 rfl) ?_
  refine lv_aload_n hx hb dL_law_1748 rfl (lv_at hl 5 rfl) ?_
  refine lv_iload hx hb dL_law_1749 (lv_at hl 1 rfl) ?_
  refine lv_iconst (v := nI 1) hx hb dL_law_1751 (by decide) ?_
  refine lv_iadd hx hb dL_law_1752 ?_
  refine zeq (nI_add j 1) ?_
  refine zsld hx hb hX hbl hbA hS (show j + 1 < L by omega) (by omega) dL_law_1753 ?_
  refine lv_aload_n hx hb dL_law_1754 rfl (lv_at hl 5 rfl) ?_
  refine lv_iload hx hb dL_law_1755 (lv_at hl 1 rfl) ?_
  refine lv_iconst (v := nI 2) hx hb dL_law_1757 (by decide) ?_
  refine lv_iadd hx hb dL_law_1758 ?_
  refine zeq (nI_add j 2) ?_
  refine zsld hx hb hX hbl hbA hS (show j + 2 < L by omega) (by omega) dL_law_1759 ?_
  refine lv_aload_n hx hb dL_law_1760 rfl (lv_at hl 5 rfl) ?_
  refine lv_iload hx hb dL_law_1761 (lv_at hl 1 rfl) ?_
  refine lv_iconst (v := nI 3) hx hb dL_law_1763 (by decide) ?_
  refine lv_iadd hx hb dL_law_1764 ?_
  refine zeq (nI_add j 3) ?_
  refine zsld hx hb hX hbl hbA hS (show j + 3 < L by omega) (by omega) dL_law_1765 ?_
  refine lv_aload_n hx hb dL_law_1766 rfl (lv_at hl 5 rfl) ?_
  refine lv_iload hx hb dL_law_1767 (lv_at hl 1 rfl) ?_
  refine lv_iconst (v := nI 4) hx hb dL_law_1769 (by decide) ?_
  refine lv_iadd hx hb dL_law_1770 ?_
  refine zeq (nI_add j 4) ?_
  refine zsld hx hb hX hbl hbA hS (show j + 4 < L by omega) (by omega) dL_law_1771 ?_
  refine va_calli (va_runV (As := [.int (xs (j + 1)), .int (xs (j + 2)), .int (xs (j + 3)), .int (xs (j + 4))]) (rest := []) ⟨hx, hb, hml, hown, hts⟩ hMo (cwV 4 hts gL_law_X12_quote rfl rfl rfl (by decide +kernel) ⟨Nat.le_of_ble_eq_true rfl, Nat.le_of_ble_eq_true rfl⟩) ⟨zBl mI_blind, va_recv hK (hM.Pa hR.o.1 rfl hR.o.2) (ci := 13) (q0 := 0) rfl rfl, fun U h1 h2 => ⟨rfl, mI_law hC0 hS hM U h1 h2⟩⟩ rfl rfl hl.1 rfl (lv_room (Nat.le_of_ble_eq_true rfl)) dL_law_1772 ⟨by show _ ≤ 594050; omega, by show _ ≤ 7313955; omega⟩) hS (fun q _ h => h.1) (fun q h => h.1) (fun r S t H2 locs ht hvm hw hB hz1 hk1 hS => ?_)
  obtain ⟨u2, C2, ma2⟩ := S
  obtain ⟨rfl, h00, hR2⟩ := hw
  have h00 : ma2 0 0 = ma 0 0 := h00
  have hM2 : mW D (mA s.heap.size ob ad) u2 C2 ma2 H2 := by rw [← ht]; exact hB.1
  have hP : va_P D vwCl (zC ty g2 ad) H2 := zC_kept hP (fun k hk h => hk1 _ h (fun z => z.2.2 k hk rfl))
  have hO : va_at D vwCl (ob, eL tl f2) H2 := hO.kept (hk1 ob hO.lt (fun z => z.2.1 rfl))
  refine lv_istore (lv' := [(6, .int r), (5, .int (nI k)), (4, .int (nI j)), (3, .ref ob), (2, .ref (ma 0 0)), (1, .ref (ad 0)), (0, .ref b)]) hx hb dL_law_1775 hl (by decide) rfl (fun ls hl => ?_)
  have hl5 : lv_has ls 9 [(4, .int (nI j)), (3, .ref ob), (2, .ref (ma 0 0)), (1, .ref (ad 0)), (0, .ref b)] := lv_sub hl [2, 3, 4, 5, 6] rfl
  have hl : lv_has ls 9 [(6, .int r), (5, .int (nI k)), (4, .int (nI j)), (3, .ref ob), (2, .ref (ma 0 0)), (1, .ref (ad 0)), (0, .ref b)] := hl
  rw [← h00] at hl
  exact law_tail hC0 hS hO hM2 hk4 hR2 hout hl ⟨by show _ ≤ 594050; omega, by show _ ≤ 7313955; omega⟩ dL_law_1777 dL_law_1778 dL_law_1781 dL_law_1783 dL_law_1788 dL_law_1790 dL_law_1793 dL_law_1794 dL_law_1795 dL_law_1796 dL_law_1798 dL_law_1799 dL_law_1800 dL_law_1805 (by decide) (K _ _ _ _ _ _ _ _ _ _ _ _ _ _ _ _ _ _ _ _ ⟨hP, ⟨hij, hob, hlo, hoo⟩, hO, hM2, hR2, hN1⟩ h00 hkk hS hl5)
