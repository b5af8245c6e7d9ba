set_option maxHeartbeats 2000000 in
set_option maxRecDepth 100000 in
theorem law_missing (p : Program) (l : Launch) (e : Env) (s : State) (m : MethodId) (below : List Frame) (meth : Method) (c : Code) (Q : State → Prop) (D : va_G) (ty : Nat → ClassId) (tl : ClassId) (t0 mi b L : Nat) (xs : Nat → Int32) (hC : lwC p l s m meth c D ty tl t0 mi b L xs) (ad : Nat → Nat) (ob : Nat) (g : Nat → Nat → Int32) (x y z : Nat → Int32) (f : Nat → Int64) (u : Nat → Nat → Prop) (C : Nat → Nat → va_E) (ma : Nat → Nat → Nat) (n1 n2 nL n4 n5 kk : Nat) (rep bro : Nat → Nat → Int32) (th : Int32) (H : Heap) (locs : List Loc) (cells slots : Nat) (hW : lwI D ty tl t0 s.heap.size ad ob g x y z f u C ma n1 n2 nL n4 n5 kk rep bro th H) (hS : va_S (fun q => s.heap.size ≤ q) s.heap H locs) (ls : Array Slot) (j : Nat) (hj : j + 7 ≤ L) (hl : lv_has ls 9 [(4, .int (nI j)), (3, .ref ob), (2, .ref (ma 0 0)), (1, .ref (ad 0)), (0, .ref b)]) (hc : cells + 1 + 57 ≤ 594050 ∧ slots + 6 + 344 ≤ 7313955) (K : lwK p l e s m below meth c Q D ty tl t0 b ad ob j (ma 0 0) n5 kk 57 (cells + 1 + 57) (slots + 6 + 344)) : W p l e room_1 s m #[Value.ref b] below meth c H locs cells slots Q (F0 m 476 ls []) := by
  obtain ⟨hP, ⟨hij, hob, hlo, hoo⟩, hO, hM, hR, hN⟩ := hW
  have hC0 := hC
  obtain ⟨⟨hx, hb, hr, hml, hlocks, hlt⟩, ⟨hown, hts, hX, hbl, hL⟩, ⟨hKz, hK, hKl⟩, hNz, hT, hQ, hMS, hNc⟩ := hC
  have hbA : ¬ s.heap.size ≤ b := Nat.not_le.mpr hbl
  refine lv_aload_n hx hb dL_law_476 rfl (lv_at hl 3 rfl) ?_
  refine lv_aload_n hx hb dL_law_477 rfl (lv_at hl 4 rfl) ?_
  refine lv_iload hx hb dL_law_478 (lv_at hl 0 rfl) ?_
  refine lv_iconst (v := nI 1) hx hb dL_law_480 (by decide) ?_
  refine lv_iadd hx hb dL_law_481 ?_
  refine zeq (nI_add j 1) ?_
  refine zsld hx hb hX hbl hbA hS (show j + 1 < L by omega) (by omega) dL_law_482 ?_
  refine lv_aload_n hx hb dL_law_483 rfl (lv_at hl 4 rfl) ?_
  refine lv_iload hx hb dL_law_484 (lv_at hl 0 rfl) ?_
  refine lv_iconst (v := nI 2) hx hb dL_law_486 (by decide) ?_
  refine lv_iadd hx hb dL_law_487 ?_
  refine zeq (nI_add j 2) ?_
  refine zsld hx hb hX hbl hbA hS (show j + 2 < L by omega) (by omega) dL_law_488 ?_
  refine lv_aload_n hx hb dL_law_489 rfl (lv_at hl 4 rfl) ?_
  refine lv_iload hx hb dL_law_490 (lv_at hl 0 rfl) ?_
  refine lv_iconst (v := nI 3) hx hb dL_law_492 (by decide) ?_
  refine lv_iadd hx hb dL_law_493 ?_
  refine zeq (nI_add j 3) ?_
  refine zsld hx hb hX hbl hbA hS (show j + 3 < L by omega) (by omega) dL_law_494 ?_
  refine lv_aload_n hx hb dL_law_495 rfl (lv_at hl 1 rfl) ?_
  obtain ⟨k, b9, g1, x1, y1, z1, n11, n21, nL1, n41, n51, kk1, rep1, bro1, hk4, hZ, hWr, hMo, hN1, hkk⟩ := b_missing l hlt D ty tl (mA s.heap.size ob ad) u C ma t0 mi g x y z ad hij ob f H.size hob n1 n2 nL n4 n5 kk th rep bro hR hN (xs (j + 1)) (xs (j + 2)) (xs (j + 3))
  have hWA := WC_hs hlo hoo hS.1
  refine va_calli (vx_runSW (As := [.ref (ad 0), .int (xs (j + 1)), .int (xs (j + 2)), .int (xs (j + 3)), .ref ob]) (rest := []) ⟨hx, hb, hml, hown, hts⟩ hWr (vx_cwSW 5 hts gL_law_L_missing rfl rfl rfl (by decide +kernel) ⟨Nat.le_of_ble_eq_true rfl, Nat.le_of_ble_eq_true rfl⟩) ⟨zBl wX_blind, fun U h1 h2 => ⟨rfl, wX_law hC0 hS hP hO U h1 h2⟩⟩ rfl rfl hl.1 rfl (lv_room (Nat.le_of_ble_eq_true rfl)) dL_law_496 ⟨by show _ ≤ 594050; omega, by show _ ≤ 7313955; omega⟩) hS (fun q _ h => hWA q h) (fun q h => hWA q h) (fun r S t H1 locs ht hvm hw hB hz1 hk1 hS => ?_)
  obtain ⟨g2, f2⟩ := S
  obtain ⟨rfl, hg, hout⟩ := hw
  obtain rfl : g2 = g1 := hg
  have hP : va_P D vwCl (zC ty g2 ad) H1 := by rw [← ht]; exact hB.1
  have hO : va_at D vwCl (ob, eL tl f2) H1 := by rw [← ht]; exact hB.2
  have hM : mW D (mA s.heap.size ob ad) u C ma H1 := hM.ext (fun q hq hA => hk1 q hq (mA_WC hA hq)) hz1
  clear hB ht hvm hz1 hk1 hWA
  clear t
  refine lv_istore (lv' := [(5, .int (nI k)), (4, .int (nI j)), (3, .ref ob), (2, .ref (ma 0 0)), (1, .ref (ad 0)), (0, .ref b)]) hx hb dL_law_499 hl (by decide) rfl (fun ls hl => ?_)
  refine lv_aload_n hx hb dL_law_501 rfl (lv_at hl 3 rfl) ?_
  refine lv_aload_n hx hb dL_law_502 rfl (lv_at hl 5 rfl) ?_
  refine lv_iload hx hb dL_law_503 (lv_at hl 1 rfl) ?_
  refine lv_iconst (v := nI 1) hx hb dL_law_505 (by decide) ?_
  refine lv_iadd hx hb dL_law_506 ?_
  refine zeq (nI_add j 1) ?_
  refine zsld hx hb hX hbl hbA hS (show j + 1 < L by omega) (by omega) dL_law_507 ?_
  refine lv_aload_n hx hb dL_law_508 rfl (lv_at hl 5 rfl) ?_
  refine lv_iload hx hb dL_law_509 (lv_at hl 1 rfl) ?_
  refine lv_iconst (v := nI 2) hx hb dL_law_511 (by decide) ?_
  refine lv_iadd hx hb dL_law_512 ?_
  refine zeq (nI_add j 2) ?_
  refine zsld hx hb hX hbl hbA hS (show j + 2 < L by omega) (by omega) dL_law_513 ?_
  refine lv_aload_n hx hb dL_law_514 rfl (lv_at hl 5 rfl) ?_
  refine lv_iload hx hb dL_law_515 (lv_at hl 1 rfl) ?_
  refine lv_iconst (v := nI 3) hx hb dL_law_517 (by decide) ?_
  refine lv_iadd hx hb dL_law_518 ?_
  refine zeq (nI_add j 3) ?_
  refine zsld hx hb hX hbl hbA hS (show j + 3 < L by omega) (by omega) dL_law_519 ?_
  refine va_calli (va_runV (As := [.int (xs (j + 1)), .int (xs (j + 2)), .int (xs (j + 3))]) (rest := []) ⟨hx, hb, hml, hown, hts⟩ hMo (cwV 3 hts gL_law_X12_missing rfl rfl rfl (by decide +kernel) ⟨Nat.le_of_ble_eq_true rfl, Nat.le_of_ble_eq_true rfl⟩) ⟨zBl mI_blind, va_recv hK (hM.Pa hR.o.1 rfl hR.o.2) (ci := 13) (q0 := 0) rfl rfl, fun U h1 h2 => ⟨rfl, mI_law hC0 hS hM U h1 h2⟩⟩ rfl rfl hl.1 rfl (lv_room (Nat.le_of_ble_eq_true rfl)) dL_law_520 ⟨by show _ ≤ 594050; omega, by show _ ≤ 7313955; omega⟩) hS (fun q _ h => h.1) (fun q h => h.1) (fun r S t H2 locs ht hvm hw hB hz1 hk1 hS => ?_)
  obtain ⟨u2, C2, ma2⟩ := S
  obtain ⟨rfl, h00, hR2⟩ := hw
  have h00 : ma2 0 0 = ma 0 0 := h00
  have hM2 : mW D (mA s.heap.size ob ad) u2 C2 ma2 H2 := by rw [← ht]; exact hB.1
  have hP : va_P D vwCl (zC ty g2 ad) H2 := zC_kept hP (fun k hk h => hk1 _ h (fun z => z.2.2 k hk rfl))
  have hO : va_at D vwCl (ob, eL tl f2) H2 := hO.kept (hk1 ob hO.lt (fun z => z.2.1 rfl))
  refine lv_istore (lv' := [(6, .int r), (5, .int (nI k)), (4, .int (nI j)), (3, .ref ob), (2, .ref (ma 0 0)), (1, .ref (ad 0)), (0, .ref b)]) hx hb dL_law_523 hl (by decide) rfl (fun ls hl => ?_)
  have hl5 : lv_has ls 9 [(4, .int (nI j)), (3, .ref ob), (2, .ref (ma 0 0)), (1, .ref (ad 0)), (0, .ref b)] := lv_sub hl [2, 3, 4, 5, 6] rfl
  have hl : lv_has ls 9 [(6, .int r), (5, .int (nI k)), (4, .int (nI j)), (3, .ref ob), (2, .ref (ma 0 0)), (1, .ref (ad 0)), (0, .ref b)] := hl
  rw [← h00] at hl
  exact law_tail hC0 hS hO hM2 hk4 hR2 hout hl ⟨by show _ ≤ 594050; omega, by show _ ≤ 7313955; omega⟩ dL_law_525 dL_law_526 dL_law_529 dL_law_531 dL_law_536 dL_law_538 dL_law_541 dL_law_542 dL_law_543 dL_law_544 dL_law_546 dL_law_547 dL_law_548 dL_law_553 (by decide) (K _ _ _ _ _ _ _ _ _ _ _ _ _ _ _ _ _ _ _ _ ⟨hP, ⟨hij, hob, hlo, hoo⟩, hO, hM2, hR2, hN1⟩ h00 hkk hS hl5)
set_option maxHeartbeats 2000000 in
set_option maxRecDepth 100000 in
theorem law_report (p : Program) (l : Launch) (e : Env) (s : State) (m : MethodId) (below : List Frame) (meth : Method) (c : Code) (Q : State → Prop) (D : va_G) (ty : Nat → ClassId) (tl : ClassId) (t0 mi b L : Nat) (xs : Nat → Int32) (hC : lwC p l s m meth c D ty tl t0 mi b L xs) (ad : Nat → Nat) (ob : Nat) (g : Nat → Nat → Int32) (x y z : Nat → Int32) (f : Nat → Int64) (u : Nat → Nat → Prop) (C : Nat → Nat → va_E) (ma : Nat → Nat → Nat) (n1 n2 nL n4 n5 kk : Nat) (rep bro : Nat → Nat → Int32) (th : Int32) (H : Heap) (locs : List Loc) (cells slots : Nat) (hW : lwI D ty tl t0 s.heap.size ad ob g x y z f u C ma n1 n2 nL n4 n5 kk rep bro th H) (hS : va_S (fun q => s.heap.size ≤ q) s.heap H locs) (ls : Array Slot) (j : Nat) (hj : j + 7 ≤ L) (hl : lv_has ls 9 [(4, .int (nI j)), (3, .ref ob), (2, .ref (ma 0 0)), (1, .ref (ad 0)), (0, .ref b)]) (hc : cells + 1 + 114 ≤ 594050 ∧ slots + 6 + 688 ≤ 7313955) (K : lwK p l e s m below meth c Q D ty tl t0 b ad ob j (ma 0 0) n5 kk 114 (cells + 1 + 114) (slots + 6 + 688)) : W p l e room_1 s m #[Value.ref b] below meth c H locs cells slots Q (F0 m 556 ls []) := by
  obtain ⟨hP, ⟨hij, hob, hlo, hoo⟩, hO, hM, hR, hN⟩ := hW
  have hC0 := hC
  obtain ⟨⟨hx, hb, hr, hml, hlocks, hlt⟩, ⟨hown, hts, hX, hbl, hL⟩, ⟨hKz, hK, hKl⟩, hNz, hT, hQ, hMS, hNc⟩ := hC
  have hbA : ¬ s.heap.size ≤ b := Nat.not_le.mpr hbl
  refine lv_aload_n hx hb dL_law_556 rfl (lv_at hl 3 rfl) ?_
  refine lv_aload_n hx hb dL_law_557 rfl (lv_at hl 4 rfl) ?_
  refine lv_iload hx hb dL_law_558 (lv_at hl 0 rfl) ?_
  refine lv_iconst (v := nI 1) hx hb dL_law_560 (by decide) ?_
  refine lv_iadd hx hb dL_law_561 ?_
  refine zeq (nI_add j 1) ?_
  refine zsld hx hb hX hbl hbA hS (show j + 1 < L by omega) (by omega) dL_law_562 ?_
  refine lv_aload_n hx hb dL_law_563 rfl (lv_at hl 4 rfl) ?_
  refine lv_iload hx hb dL_law_564 (lv_at hl 0 rfl) ?_
  refine lv_iconst (v := nI 2) hx hb dL_law_566 (by decide) ?_
  refine lv_iadd hx hb dL_law_567 ?_
  refine zeq (nI_add j 2) ?_
  refine zsld hx hb hX hbl hbA hS (show j + 2 < L by omega) (by omega) dL_law_568 ?_
  refine lv_aload_n hx hb dL_law_569 rfl (lv_at hl 4 rfl) ?_
  refine lv_iload hx hb dL_law_570 (lv_at hl 0 rfl) ?_
  refine lv_iconst (v := nI 3) hx hb dL_law_572 (by decide) ?_
  refine lv_iadd hx hb dL_law_573 ?_
  refine zeq (nI_add j 3) ?_
  refine zsld hx hb hX hbl hbA hS (show j + 3 < L by omega) (by omega) dL_law_574 ?_
  refine lv_aload_n hx hb dL_law_575 rfl (lv_at hl 4 rfl) ?_
  refine lv_iload hx hb dL_law_576 (lv_at hl 0 rfl) ?_
  refine lv_iconst (v := nI 4) hx hb dL_law_578 (by decide) ?_
  refine lv_iadd hx hb dL_law_579 ?_
  refine zeq (nI_add j 4) ?_
  refine zsld hx hb hX hbl hbA hS (show j + 4 < L by omega) (by omega) dL_law_580 ?_
  refine lv_aload_n hx hb dL_law_581 rfl (lv_at hl 1 rfl) ?_
  obtain ⟨k, b9, g1, x1, y1, z1, n11, n21, nL1, n41, n51, kk1, rep1, bro1, hk4, hZ, hWr, hMo, hN1, hkk⟩ := b_report l hlt D ty tl (mA s.heap.size ob ad) u C ma t0 mi g x y z ad hij ob f H.size hob n1 n2 nL n4 n5 kk th rep bro hR hN (xs (j + 1)) (xs (j + 2)) (xs (j + 3)) (xs (j + 4))
  have hWA := WC_hs hlo hoo hS.1
  refine va_calli (vx_runSW (As := [.ref (ad 0), .int (xs (j + 1)), .int (xs (j + 2)), .int (xs (j + 3)), .int (xs (j + 4)), .ref ob]) (rest := []) ⟨hx, hb, hml, hown, hts⟩ hWr (vx_cwSW 6 hts gL_law_L_report rfl rfl rfl (by decide +kernel) ⟨Nat.le_of_ble_eq_true rfl, Nat.le_of_ble_eq_true rfl⟩) ⟨zBl wX_blind, fun U h1 h2 => ⟨rfl, wX_law hC0 hS hP hO U h1 h2⟩⟩ rfl rfl hl.1 rfl (lv_room (Nat.le_of_ble_eq_true rfl)) dL_law_582 ⟨by show _ ≤ 594050; omega, by show _ ≤ 7313955; omega⟩) hS (fun q _ h => hWA q h) (fun q h => hWA q h) (fun r S t H1 locs ht hvm hw hB hz1 hk1 hS => ?_)
  obtain ⟨g2, f2⟩ := S
  obtain ⟨rfl, hg, hout⟩ := hw
  obtain rfl : g2 = g1 := hg
  have hP : va_P D vwCl (zC ty g2 ad) H1 := by rw [← ht]; exact hB.1
  have hO : va_at D vwCl (ob, eL tl f2) H1 := by rw [← ht]; exact hB.2
  have hM : mW D (mA s.heap.size ob ad) u C ma H1 := hM.ext (fun q hq hA => hk1 q hq (mA_WC hA hq)) hz1
  clear hB ht hvm hz1 hk1 hWA
  clear t
  refine lv_istore (lv' := [(5, .int (nI k)), (4, .int (nI j)), (3, .ref ob), (2, .ref (ma 0 0)), (1, .ref (ad 0)), (0, .ref b)]) hx hb dL_law_585 hl (by decide) rfl (fun ls hl => ?_)
  refine lv_aload_n hx hb dL_law_587 rfl (lv_at hl 3 rfl) ?_
  refine lv_aload_n hx hb dL_law_588 rfl (lv_at hl 5 rfl) ?_
  refine lv_iload hx hb dL_law_589 (lv_at hl 1 rfl) ?_
  refine lv_iconst (v := nI 1) hx hb dL_law_591 (by decide) ?_
  refine lv_iadd hx hb dL_law_592 ?_
  refine zeq (nI_add j 1) ?_
  refine zsld hx hb hX hbl hbA hS (show j + 1 < L by omega) (by omega) dL_law_593 ?_
  refine lv_aload_n hx hb dL_law_594 rfl (lv_at hl 5 rfl) ?_
  refine lv_iload hx hb dL_law_595 (lv_at hl 1 rfl) ?_
  refine lv_iconst (v := nI 2) hx hb dL_law_597 (by decide) ?_
  refine lv_iadd hx hb dL_law_598 ?_
  refine zeq (nI_add j 2) ?_
  refine zsld hx hb hX hbl hbA hS (show j + 2 < L by omega) (by omega) dL_law_599 ?_
  refine lv_aload_n hx hb dL_law_600 rfl (lv_at hl 5 rfl) ?_
  refine lv_iload hx hb dL_law_601 (lv_at hl 1 rfl) ?_
  refine lv_iconst (v := nI 3) hx hb dL_law_603 (by decide) ?_
  refine lv_iadd hx hb dL_law_604 ?_
  refine zeq (nI_add j 3) ?_
  refine zsld hx hb hX hbl hbA hS (show j + 3 < L by omega) (by omega) dL_law_605 ?_
  refine lv_aload_n hx hb dL_law_606 rfl (lv_at hl 5 rfl) ?_
  refine lv_iload hx hb dL_law_607 (lv_at hl 1 rfl) ?_
  refine lv_iconst (v := nI 4) hx hb dL_law_609 (by decide) ?_
  refine lv_iadd hx hb dL_law_610 ?_
  refine zeq (nI_add j 4) ?_
  refine zsld hx hb hX hbl hbA hS (show j + 4 < L by omega) (by omega) dL_law_611 ?_
  refine va_calli (va_runV (As := [.int (xs (j + 1)), .int (xs (j + 2)), .int (xs (j + 3)), .int (xs (j + 4))]) (rest := []) ⟨hx, hb, hml, hown, hts⟩ hMo (cwV 4 hts gL_law_X12_report rfl rfl rfl (by decide +kernel) ⟨Nat.le_of_ble_eq_true rfl, Nat.le_of_ble_eq_true rfl⟩) ⟨zBl mI_blind, va_recv hK (hM.Pa hR.o.1 rfl hR.o.2) (ci := 13) (q0 := 0) rfl rfl, fun U h1 h2 => ⟨rfl, mI_law hC0 hS hM U h1 h2⟩⟩ rfl rfl hl.1 rfl (lv_room (Nat.le_of_ble_eq_true rfl)) dL_law_612 ⟨by show _ ≤ 594050; omega, by show _ ≤ 7313955; omega⟩) hS (fun q _ h => h.1) (fun q h => h.1) (fun r S t H2 locs ht hvm hw hB hz1 hk1 hS => ?_)
  obtain ⟨u2, C2, ma2⟩ := S
  obtain ⟨rfl, h00, hR2⟩ := hw
  have h00 : ma2 0 0 = ma 0 0 := h00
  have hM2 : mW D (mA s.heap.size ob ad) u2 C2 ma2 H2 := by rw [← ht]; exact hB.1
  have hP : va_P D vwCl (zC ty g2 ad) H2 := zC_kept hP (fun k hk h => hk1 _ h (fun z => z.2.2 k hk rfl))
  have hO : va_at D vwCl (ob, eL tl f2) H2 := hO.kept (hk1 ob hO.lt (fun z => z.2.1 rfl))
  refine lv_istore (lv' := [(6, .int r), (5, .int (nI k)), (4, .int (nI j)), (3, .ref ob), (2, .ref (ma 0 0)), (1, .ref (ad 0)), (0, .ref b)]) hx hb dL_law_615 hl (by decide) rfl (fun ls hl => ?_)
  have hl5 : lv_has ls 9 [(4, .int (nI j)), (3, .ref ob), (2, .ref (ma 0 0)), (1, .ref (ad 0)), (0, .ref b)] := lv_sub hl [2, 3, 4, 5, 6] rfl
  have hl : lv_has ls 9 [(6, .int r), (5, .int (nI k)), (4, .int (nI j)), (3, .ref ob), (2, .ref (ma 0 0)), (1, .ref (ad 0)), (0, .ref b)] := hl
  rw [← h00] at hl
  exact law_tail hC0 hS hO hM2 hk4 hR2 hout hl ⟨by show _ ≤ 594050; omega, by show _ ≤ 7313955; omega⟩ dL_law_617 dL_law_618 dL_law_621 dL_law_623 dL_law_628 dL_law_630 dL_law_633 dL_law_634 dL_law_635 dL_law_636 dL_law_638 dL_law_639 dL_law_640 dL_law_645 (by decide) (K _ _ _ _ _ _ _ _ _ _ _ _ _ _ _ _ _ _ _ _ ⟨hP, ⟨hij, hob, hlo, hoo⟩, hO, hM2, hR2, hN1⟩ h00 hkk hS hl5)
set_option maxHeartbeats 2000000 in
set_option maxRecDepth 100000 in
theorem law_harm (p : Program) (l : Launch) (e : Env) (s : State) (m : MethodId) (below : List Frame) (meth : Method) (c : Code) (Q : State → Prop) (D : va_G) (ty : Nat → ClassId) (tl : ClassId) (t0 mi b L : Nat) (xs : Nat → Int32) (hC : lwC p l s m meth c D ty tl t0 mi b L xs) (ad : Nat → Nat) (ob : Nat) (g : Nat → Nat → Int32) (x y z : Nat → Int32) (f : Nat → Int64) (u : Nat → Nat → Prop) (C : Nat → Nat → va_E) (ma : Nat → Nat → Nat) (n1 n2 nL n4 n5 kk : Nat) (rep bro : Nat → Nat → Int32) (th : Int32) (H : Heap) (locs : List Loc) (cells slots : Nat) (hW : lwI D ty tl t0 s.heap.size ad ob g x y z f u C ma n1 n2 nL n4 n5 kk rep bro th H) (hS : va_S (fun q => s.heap.size ≤ q) s.heap H locs) (ls : Array Slot) (j : Nat) (hj : j + 7 ≤ L) (hl : lv_has ls 9 [(4, .int (nI j)), (3, .ref ob), (2, .ref (ma 0 0)), (1, .ref (ad 0)), (0, .ref b)]) (hc : cells + 1 + 57 ≤ 594050 ∧ slots + 6 + 344 ≤ 7313955) (K : lwK p l e s m below meth c Q D ty tl t0 b ad ob j (ma 0 0) n5 kk 57 (cells + 1 + 57) (slots + 6 + 344)) : W p l e room_1 s m #[Value.ref b] below meth c H locs cells slots Q (F0 m 648 ls []) := by
  obtain ⟨hP, ⟨hij, hob, hlo, hoo⟩, hO, hM, hR, hN⟩ := hW
  have hC0 := hC
  obtain ⟨⟨hx, hb, hr, hml, hlocks, hlt⟩, ⟨hown, hts, hX, hbl, hL⟩, ⟨hKz, hK, hKl⟩, hNz, hT, hQ, hMS, hNc⟩ := hC
  have hbA : ¬ s.heap.size ≤ b := Nat.not_le.mpr hbl
  refine lv_aload_n hx hb dL_law_648 rfl (lv_at hl 3 rfl) ?_
  refine lv_aload_n hx hb dL_law_649 rfl (lv_at hl 4 rfl) ?_
  refine lv_iload hx hb dL_law_650 (lv_at hl 0 rfl) ?_
  refine lv_iconst (v := nI 1) hx hb dL_law_652 (by decide) ?_
  refine lv_iadd hx hb dL_law_653 ?_
  refine zeq (nI_add j 1) ?_
  refine zsld hx hb hX hbl hbA hS (show j + 1 < L by omega) (by omega) dL_law_654 ?_
  refine lv_aload_n hx hb dL_law_655 rfl (lv_at hl 4 rfl) ?_
  refine lv_iload hx hb dL_law_656 (lv_at hl 0 rfl) ?_
  refine lv_iconst (v := nI 2) hx hb dL_law_658 (by decide) ?_
  refine lv_iadd hx hb dL_law_659 ?_
  refine zeq (nI_add j 2) ?_
  refine zsld hx hb hX hbl hbA hS (show j + 2 < L by omega) (by omega) dL_law_660 ?_
  refine lv_aload_n hx hb dL_law_661 rfl (lv_at hl 4 rfl) ?_
  refine lv_iload hx hb dL_law_662 (lv_at hl 0 rfl) ?_
  refine lv_iconst (v := nI 3) hx hb dL_law_664 (by decide) ?_
  refine lv_iadd hx hb dL_law_665 ?_
  refine zeq (nI_add j 3) ?_
  refine zsld hx hb hX hbl hbA hS (show j + 3 < L by omega) (by omega) dL_law_666 ?_
  refine lv_aload_n hx hb dL_law_667 rfl (lv_at hl 1 rfl) ?_
  obtain ⟨k, b9, g1, x1, y1, z1, n11, n21, nL1, n41, n51, kk1, rep1, bro1, hk4, hZ, hWr, hMo, hN1, hkk⟩ := b_harm l hlt D ty tl (mA s.heap.size ob ad) u C ma t0 mi g x y z ad hij ob f H.size hob n1 n2 nL n4 n5 kk th rep bro hR hN (xs (j + 1)) (xs (j + 2)) (xs (j + 3))
  have hWA := WC_hs hlo hoo hS.1
  refine va_calli (vx_runSW (As := [.ref (ad 0), .int (xs (j + 1)), .int (xs (j + 2)), .int (xs (j + 3)), .ref ob]) (rest := []) ⟨hx, hb, hml, hown, hts⟩ hWr (vx_cwSW 5 hts gL_law_L_harm rfl rfl rfl (by decide +kernel) ⟨Nat.le_of_ble_eq_true rfl, Nat.le_of_ble_eq_true rfl⟩) ⟨zBl wX_blind, fun U h1 h2 => ⟨rfl, wX_law hC0 hS hP hO U h1 h2⟩⟩ rfl rfl hl.1 rfl (lv_room (Nat.le_of_ble_eq_true rfl)) dL_law_668 ⟨by show _ ≤ 594050; omega, by show _ ≤ 7313955; omega⟩) hS (fun q _ h => hWA q h) (fun q h => hWA q h) (fun r S t H1 locs ht hvm hw hB hz1 hk1 hS => ?_)
  obtain ⟨g2, f2⟩ := S
  obtain ⟨rfl, hg, hout⟩ := hw
  obtain rfl : g2 = g1 := hg
  have hP : va_P D vwCl (zC ty g2 ad) H1 := by rw [← ht]; exact hB.1
  have hO : va_at D vwCl (ob, eL tl f2) H1 := by rw [← ht]; exact hB.2
  have hM : mW D (mA s.heap.size ob ad) u C ma H1 := hM.ext (fun q hq hA => hk1 q hq (mA_WC hA hq)) hz1
  clear hB ht hvm hz1 hk1 hWA
  clear t
  refine lv_istore (lv' := [(5, .int (nI k)), (4, .int (nI j)), (3, .ref ob), (2, .ref (ma 0 0)), (1, .ref (ad 0)), (0, .ref b)]) hx hb dL_law_671 hl (by decide) rfl (fun ls hl => ?_)
  refine lv_aload_n hx hb dL_law_673 rfl (lv_at hl 3 rfl) ?_
  refine lv_aload_n hx hb dL_law_674 rfl (lv_at hl 5 rfl) ?_
  refine lv_iload hx hb dL_law_675 (lv_at hl 1 rfl) ?_
  refine lv_iconst (v := nI 1) hx hb dL_law_677 (by decide) ?_
  refine lv_iadd hx hb dL_law_678 ?_
  refine zeq (nI_add j 1) ?_
  refine zsld hx hb hX hbl hbA hS (show j + 1 < L by omega) (by omega) dL_law_679 ?_
  refine lv_aload_n hx hb dL_law_680 rfl (lv_at hl 5 rfl) ?_
  refine lv_iload hx hb dL_law_681 (lv_at hl 1 rfl) ?_
  refine lv_iconst (v := nI 2) hx hb dL_law_683 (by decide) ?_
  refine lv_iadd hx hb dL_law_684 ?_
  refine zeq (nI_add j 2) ?_
  refine zsld hx hb hX hbl hbA hS (show j + 2 < L by omega) (by omega) dL_law_685 ?_
  refine lv_aload_n hx hb dL_law_686 rfl (lv_at hl 5 rfl) ?_
  refine lv_iload hx hb dL_law_687 (lv_at hl 1 rfl) ?_
  refine lv_iconst (v := nI 3) hx hb dL_law_689 (by decide) ?_
  refine lv_iadd hx hb dL_law_690 ?_
  refine zeq (nI_add j 3) ?_
  refine zsld hx hb hX hbl hbA hS (show j + 3 < L by omega) (by omega) dL_law_691 ?_
  refine va_calli (va_runV (As := [.int (xs (j + 1)), .int (xs (j + 2)), .int (xs (j + 3))]) (rest := []) ⟨hx, hb, hml, hown, hts⟩ hMo (cwV 3 hts gL_law_X12_harm rfl rfl rfl (by decide +kernel) ⟨Nat.le_of_ble_eq_true rfl, Nat.le_of_ble_eq_true rfl⟩) ⟨zBl mI_blind, va_recv hK (hM.Pa hR.o.1 rfl hR.o.2) (ci := 13) (q0 := 0) rfl rfl, fun U h1 h2 => ⟨rfl, mI_law hC0 hS hM U h1 h2⟩⟩ rfl rfl hl.1 rfl (lv_room (Nat.le_of_ble_eq_true rfl)) dL_law_692 ⟨by show _ ≤ 594050; omega, by show _ ≤ 7313955; omega⟩) hS (fun q _ h => h.1) (fun q h => h.1) (fun r S t H2 locs ht hvm hw hB hz1 hk1 hS => ?_)
  obtain ⟨u2, C2, ma2⟩ := S
  obtain ⟨rfl, h00, hR2⟩ := hw
  have h00 : ma2 0 0 = ma 0 0 := h00
  have hM2 : mW D (mA s.heap.size ob ad) u2 C2 ma2 H2 := by rw [← ht]; exact hB.1
  have hP : va_P D vwCl (zC ty g2 ad) H2 := zC_kept hP (fun k hk h => hk1 _ h (fun z => z.2.2 k hk rfl))
  have hO : va_at D vwCl (ob, eL tl f2) H2 := hO.kept (hk1 ob hO.lt (fun z => z.2.1 rfl))
  refine lv_istore (lv' := [(6, .int r), (5, .int (nI k)), (4, .int (nI j)), (3, .ref ob), (2, .ref (ma 0 0)), (1, .ref (ad 0)), (0, .ref b)]) hx hb dL_law_695 hl (by decide) rfl (fun ls hl => ?_)
  have hl5 : lv_has ls 9 [(4, .int (nI j)), (3, .ref ob), (2, .ref (ma 0 0)), (1, .ref (ad 0)), (0, .ref b)] := lv_sub hl [2, 3, 4, 5, 6] rfl
  have hl : lv_has ls 9 [(6, .int r), (5, .int (nI k)), (4, .int (nI j)), (3, .ref ob), (2, .ref (ma 0 0)), (1, .ref (ad 0)), (0, .ref b)] := hl
  rw [← h00] at hl
  exact law_tail hC0 hS hO hM2 hk4 hR2 hout hl ⟨by show _ ≤ 594050; omega, by show _ ≤ 7313955; omega⟩ dL_law_697 dL_law_698 dL_law_701 dL_law_703 dL_law_708 dL_law_710 dL_law_713 dL_law_714 dL_law_715 dL_law_716 dL_law_718 dL_law_719 dL_law_720 dL_law_725 (by decide) (K _ _ _ _ _ _ _ _ _ _ _ _ _ _ _ _ _ _ _ _ ⟨hP, ⟨hij, hob, hlo, hoo⟩, hO, hM2, hR2, hN1⟩ h00 hkk hS hl5)
set_option maxHeartbeats 2000000 in
set_option maxRecDepth 100000 in
theorem law_ofSet (p : Program) (l : Launch) (e : Env) (s : State) (m : MethodId) (below : List Frame) (meth : Method) (c : Code) (Q : State → Prop) (D : va_G) (ty : Nat → ClassId) (tl : ClassId) (t0 mi b L : Nat) (xs : Nat → Int32) (hC : lwC p l s m meth c D ty tl t0 mi b L xs) (ad : Nat → Nat) (ob : Nat) (g : Nat → Nat → Int32) (x y z : Nat → Int32) (f : Nat → Int64) (u : Nat → Nat → Prop) (C : Nat → Nat → va_E) (ma : Nat → Nat → Nat) (n1 n2 nL n4 n5 kk : Nat) (rep bro : Nat → Nat → Int32) (th : Int32) (H : Heap) (locs : List Loc) (cells slots : Nat) (hW : lwI D ty tl t0 s.heap.size ad ob g x y z f u C ma n1 n2 nL n4 n5 kk rep bro th H) (hS : va_S (fun q => s.heap.size ≤ q) s.heap H locs) (ls : Array Slot) (j : Nat) (hj : j + 7 ≤ L) (hl : lv_has ls 9 [(4, .int (nI j)), (3, .ref ob), (2, .ref (ma 0 0)), (1, .ref (ad 0)), (0, .ref b)]) (hc : cells + 1 + 57 ≤ 594050 ∧ slots + 6 + 344 ≤ 7313955) (K : lwK p l e s m below meth c Q D ty tl t0 b ad ob j (ma 0 0) n5 kk 57 (cells + 1 + 57) (slots + 6 + 344)) : W p l e room_1 s m #[Value.ref b] below meth c H locs cells slots Q (F0 m 728 ls []) := by
  obtain ⟨hP, ⟨hij, hob, hlo, hoo⟩, hO, hM, hR, hN⟩ := hW
  have hC0 := hC
  obtain ⟨⟨hx, hb, hr, hml, hlocks, hlt⟩, ⟨hown, hts, hX, hbl, hL⟩, ⟨hKz, hK, hKl⟩, hNz, hT, hQ, hMS, hNc⟩ := hC
  have hbA : ¬ s.heap.size ≤ b := Nat.not_le.mpr hbl
  refine lv_aload_n hx hb dL_law_728 rfl (lv_at hl 3 rfl) ?_
  refine lv_aload_n hx hb dL_law_729 rfl (lv_at hl 4 rfl) ?_
  refine lv_iload hx hb dL_law_730 (lv_at hl 0 rfl) ?_
  refine lv_iconst (v := nI 1) hx hb dL_law_732 (by decide) ?_
  refine lv_iadd hx hb dL_law_733 ?_
  refine zeq (nI_add j 1) ?_
  refine zsld hx hb hX hbl hbA hS (show j + 1 < L by omega) (by omega) dL_law_734 ?_
  refine lv_aload_n hx hb dL_law_735 rfl (lv_at hl 4 rfl) ?_
  refine lv_iload hx hb dL_law_736 (lv_at hl 0 rfl) ?_
  refine lv_iconst (v := nI 2) hx hb dL_law_738 (by decide) ?_
  refine lv_iadd hx hb dL_law_739 ?_
  refine zeq (nI_add j 2) ?_
  refine zsld hx hb hX hbl hbA hS (show j + 2 < L by omega) (by omega) dL_law_740 ?_
  refine lv_aload_n hx hb dL_law_741 rfl (lv_at hl 1 rfl) ?_
  obtain ⟨k, b9, g1, x1, y1, z1, n11, n21, nL1, n41, n51, kk1, rep1, bro1, hk4, hZ, hWr, hMo, hN1, hkk⟩ := b_ofSet l hlt D ty tl (mA s.heap.size ob ad) u C ma t0 mi g x y z ad hij ob f H.size hob n1 n2 nL n4 n5 kk th rep bro hR hN (xs (j + 1)) (xs (j + 2))
  have hWA := WC_hs hlo hoo hS.1
  refine va_calli (vx_runSW (As := [.ref (ad 0), .int (xs (j + 1)), .int (xs (j + 2)), .ref ob]) (rest := []) ⟨hx, hb, hml, hown, hts⟩ hWr (vx_cwSW 4 hts gL_law_L_ofSet rfl rfl rfl (by decide +kernel) ⟨Nat.le_of_ble_eq_true rfl, Nat.le_of_ble_eq_true rfl⟩) ⟨zBl wX_blind, fun U h1 h2 => ⟨rfl, wX_law hC0 hS hP hO U h1 h2⟩⟩ rfl rfl hl.1 rfl (lv_room (Nat.le_of_ble_eq_true rfl)) dL_law_742 ⟨by show _ ≤ 594050; omega, by show _ ≤ 7313955; omega⟩) hS (fun q _ h => hWA q h) (fun q h => hWA q h) (fun r S t H1 locs ht hvm hw hB hz1 hk1 hS => ?_)
  obtain ⟨g2, f2⟩ := S
  obtain ⟨rfl, hg, hout⟩ := hw
  obtain rfl : g2 = g1 := hg
  have hP : va_P D vwCl (zC ty g2 ad) H1 := by rw [← ht]; exact hB.1
  have hO : va_at D vwCl (ob, eL tl f2) H1 := by rw [← ht]; exact hB.2
  have hM : mW D (mA s.heap.size ob ad) u C ma H1 := hM.ext (fun q hq hA => hk1 q hq (mA_WC hA hq)) hz1
  clear hB ht hvm hz1 hk1 hWA
  clear t
  refine lv_istore (lv' := [(5, .int (nI k)), (4, .int (nI j)), (3, .ref ob), (2, .ref (ma 0 0)), (1, .ref (ad 0)), (0, .ref b)]) hx hb dL_law_745 hl (by decide) rfl (fun ls hl => ?_)
  refine lv_aload_n hx hb dL_law_747 rfl (lv_at hl 3 rfl) ?_
  refine lv_aload_n hx hb dL_law_748 rfl (lv_at hl 5 rfl) ?_
  refine lv_iload hx hb dL_law_749 (lv_at hl 1 rfl) ?_
  refine lv_iconst (v := nI 1) hx hb dL_law_751 (by decide) ?_
  refine lv_iadd hx hb dL_law_752 ?_
  refine zeq (nI_add j 1) ?_
  refine zsld hx hb hX hbl hbA hS (show j + 1 < L by omega) (by omega) dL_law_753 ?_
  refine lv_aload_n hx hb dL_law_754 rfl (lv_at hl 5 rfl) ?_
  refine lv_iload hx hb dL_law_755 (lv_at hl 1 rfl) ?_
  refine lv_iconst (v := nI 2) hx hb dL_law_757 (by decide) ?_
  refine lv_iadd hx hb dL_law_758 ?_
  refine zeq (nI_add j 2) ?_
  refine zsld hx hb hX hbl hbA hS (show j + 2 < L by omega) (by omega) dL_law_759 ?_
  refine va_calli (va_runV (As := [.int (xs (j + 1)), .int (xs (j + 2))]) (rest := []) ⟨hx, hb, hml, hown, hts⟩ hMo (cwV 2 hts gL_law_X12_ofSet rfl rfl rfl (by decide +kernel) ⟨Nat.le_of_ble_eq_true rfl, Nat.le_of_ble_eq_true rfl⟩) ⟨zBl mI_blind, va_recv hK (hM.Pa hR.o.1 rfl hR.o.2) (ci := 13) (q0 := 0) rfl rfl, fun U h1 h2 => ⟨rfl, mI_law hC0 hS hM U h1 h2⟩⟩ rfl rfl hl.1 rfl (lv_room (Nat.le_of_ble_eq_true rfl)) dL_law_760 ⟨by show _ ≤ 594050; omega, by show _ ≤ 7313955; omega⟩) hS (fun q _ h => h.1) (fun q h => h.1) (fun r S t H2 locs ht hvm hw hB hz1 hk1 hS => ?_)
  obtain ⟨u2, C2, ma2⟩ := S
  obtain ⟨rfl, h00, hR2⟩ := hw
  have h00 : ma2 0 0 = ma 0 0 := h00
  have hM2 : mW D (mA s.heap.size ob ad) u2 C2 ma2 H2 := by rw [← ht]; exact hB.1
  have hP : va_P D vwCl (zC ty g2 ad) H2 := zC_kept hP (fun k hk h => hk1 _ h (fun z => z.2.2 k hk rfl))
  have hO : va_at D vwCl (ob, eL tl f2) H2 := hO.kept (hk1 ob hO.lt (fun z => z.2.1 rfl))
  refine lv_istore (lv' := [(6, .int r), (5, .int (nI k)), (4, .int (nI j)), (3, .ref ob), (2, .ref (ma 0 0)), (1, .ref (ad 0)), (0, .ref b)]) hx hb dL_law_763 hl (by decide) rfl (fun ls hl => ?_)
  have hl5 : lv_has ls 9 [(4, .int (nI j)), (3, .ref ob), (2, .ref (ma 0 0)), (1, .ref (ad 0)), (0, .ref b)] := lv_sub hl [2, 3, 4, 5, 6] rfl
  have hl : lv_has ls 9 [(6, .int r), (5, .int (nI k)), (4, .int (nI j)), (3, .ref ob), (2, .ref (ma 0 0)), (1, .ref (ad 0)), (0, .ref b)] := hl
  rw [← h00] at hl
  exact law_tail hC0 hS hO hM2 hk4 hR2 hout hl ⟨by show _ ≤ 594050; omega, by show _ ≤ 7313955; omega⟩ dL_law_765 dL_law_766 dL_law_769 dL_law_771 dL_law_776 dL_law_778 dL_law_781 dL_law_782 dL_law_783 dL_law_784 dL_law_786 dL_law_787 dL_law_788 dL_law_793 (by decide) (K _ _ _ _ _ _ _ _ _ _ _ _ _ _ _ _ _ _ _ _ ⟨hP, ⟨hij, hob, hlo, hoo⟩, hO, hM2, hR2, hN1⟩ h00 hkk hS hl5)
