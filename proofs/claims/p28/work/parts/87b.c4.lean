set_option maxHeartbeats 4000000 in
set_option maxRecDepth 100000 in
/-- a report -/
theorem law_c4 (p : Program) (l : Launch) (e : Env) (s : State) (m : MethodId) (below : List Frame) (meth : Method) (c : Code) (Q : State → Prop) (D : va_G) (ty : Nat → ClassId) (b L : Nat) (xs : Nat → Int32) (hC : lwC p l s m meth c D ty b L xs) (ad : Nat → Nat) (hij : zIj ad) (hlo : ∀ k, k < 39 → s.heap.size ≤ ad k) (g : Nat → Nat → Int32) (n n4 n5 : Nat) (hp : pI g n n4 n5) (H : Heap) (locs : List Loc) (cells slots : Nat) (hP : va_P D vwCl (zC ty g ad) H) (hS : va_S (fun q => s.heap.size ≤ q) s.heap H locs) (hc1 : cells + 1 ≤ 149) (hs1 : slots + 6 ≤ 3616) (ls : Array Slot) (i I R cr dy A : Nat) (x : Int32) (hI : I < n) (hR : R < 3) (hA : A = 2 ^ nF g I - 1) (hdy : cn (g 0 0) = dy) (hcr : cr = CR g (hmN g n) n5) (hl : lv_has ls 25 [(9, .int (nI cr)), (8, .int (nI dy)), (7, .int (nI R)), (6, .int (nI A)), (5, .int (nI I)), (4, .int x), (3, .int (nI i)), (2, .int (nI n)), (1, .ref (ad 0)), (0, .ref b)]) (K : lwK p l e s m below meth c Q D ty b ad i n cr (cells + 1) (slots + 6)) : W p l e room_1 s m #[Value.ref b] below meth c H locs cells slots Q (F0 m 498 ls []) := by
  obtain ⟨⟨hx, hb, hr, hml, hlocks, hlt⟩, ⟨hown, hts, hX, hbl, hL⟩, hK, hN, hT, hQ⟩ := hC
  have hcc : cells ≤ room_1.cells := by show cells ≤ 149; omega
  have hss : slots ≤ room_1.slots := by show slots ≤ 3616; omega
  have hn2 := hp.n2
  have hn5 := hp.n5b
  have h4b := hp.b4
  have h5b := hp.b5
  have hcb := hp.CRb
  have hf1 := (hp.f hI).2.1
  have hf2 := (hp.f hI).2.2
  have hp64 := p2_64 hf2
  have hA2 : 2 ^ 1 ≤ 2 ^ nF g I := Nat.pow_le_pow_right (by decide) hf1
  have hdy1 := hp.day.1
  have hdy2 := hp.day.2
  rw [hdy] at hdy1 hdy2
  refine lv_iload hx hb dL_law_498 (lv_at hl 5 rfl) ?_
  refine lv_iconst (v := nI 4) hx hb dL_law_500 (by decide) ?_
  refine lv_ishr hx hb dL_law_501 ?_
  refine lv_aload_n hx hb dL_law_502 rfl (lv_at hl 8 rfl) ?_
  refine lv_iload hx hb dL_law_503 (lv_at hl 4 rfl) ?_
  refine lv_iconst (v := nI 1) hx hb dL_law_505 (by decide) ?_
  refine zcVi (As := [.int (nI I), .int (nI 1)]) (rest := [.int (x >>> ((nI 4) &&& 31))]) ⟨hx, hb, hml, hown, hts⟩ (c_X5_ofSet l D ty g ad n (n - 1) (n - 1) n4 n5 hp.d I 1 (by omega) (by decide)) (cwV 2 hts gL_law_X5_ofSet rfl rfl rfl (by decide +kernel) ⟨Nat.le_of_ble_eq_true rfl, Nat.le_of_ble_eq_true rfl⟩) zI_blind (zI_pre hP hK hN) (va_recv hK hP (ci := 5) (q0 := 0) rfl rfl) rfl hl.1 rfl (Nat.le_of_ble_eq_true rfl) dL_law_506 ⟨hcc, hss⟩ (fun r_1 hr_1 => ?_)
  subst hr_1
  refine zeq (show ofSetN g n5 I 1 = nI 1 from hp.v8 hI) ?_
  refine zcSi (As := [.int (x >>> ((nI 4) &&& 31)), .int (nI 1)]) (rest := []) ⟨hx, hb, hml, hown, hts⟩ (c_L_below l _ (x >>> ((nI 4) &&& 31)) 1 (by omega) (by omega)) (cwS 2 hts gL_law_L_below rfl rfl rfl (by decide +kernel) ⟨Nat.le_of_ble_eq_true rfl, Nat.le_of_ble_eq_true rfl⟩) (B := fun _ => True) (fun _ _ _ _ _ => trivial) (fun _ _ _ => trivial) rfl hl.1 rfl (Nat.le_of_ble_eq_true rfl) dL_law_509 ⟨hcc, hss⟩ (fun r hr => ?_)
  obtain ⟨j_1, hj_1, rfl⟩ := hr
  obtain rfl : j_1 = 0 := by omega
  refine lv_istore (lv' := [(14, .int (nI 0)), (9, .int (nI cr)), (8, .int (nI dy)), (7, .int (nI R)), (6, .int (nI A)), (5, .int (nI I)), (4, .int x), (3, .int (nI i)), (2, .int (nI n)), (1, .ref (ad 0)), (0, .ref b)]) hx hb dL_law_512 hl (by decide) rfl (fun ls hl => ?_)
  refine lv_iload hx hb dL_law_514 (lv_at hl 6 rfl) ?_
  refine lv_bipush (v := nI 6) hx hb dL_law_516 (by decide) ?_
  refine lv_ishr hx hb dL_law_518 ?_
  refine lv_aload_n hx hb dL_law_519 rfl (lv_at hl 9 rfl) ?_
  refine lv_iload hx hb dL_law_520 (lv_at hl 5 rfl) ?_
  refine lv_iconst (v := nI 0) hx hb dL_law_522 (by decide) ?_
  refine zcVi (As := [.int (nI I), .int (nI 0)]) (rest := [.int (x >>> ((nI 6) &&& 31))]) ⟨hx, hb, hml, hown, hts⟩ (c_X5_ofSet l D ty g ad n (n - 1) (n - 1) n4 n5 hp.d I 0 (by omega) (by decide)) (cwV 2 hts gL_law_X5_ofSet rfl rfl rfl (by decide +kernel) ⟨Nat.le_of_ble_eq_true rfl, Nat.le_of_ble_eq_true rfl⟩) zI_blind (zI_pre hP hK hN) (va_recv hK hP (ci := 5) (q0 := 0) rfl rfl) rfl hl.1 rfl (Nat.le_of_ble_eq_true rfl) dL_law_523 ⟨hcc, hss⟩ (fun r_2 hr_2 => ?_)
  subst hr_2
  refine zeq (show ofSetN g n5 I 0 = nI (nF g I) from (hp.f hI).1) ?_
  refine zcSi (As := [.int (x >>> ((nI 6) &&& 31)), .int (nI (nF g I))]) (rest := []) ⟨hx, hb, hml, hown, hts⟩ (c_L_below l _ (x >>> ((nI 6) &&& 31)) (nF g I) (by omega) (by omega)) (cwS 2 hts gL_law_L_below rfl rfl rfl (by decide +kernel) ⟨Nat.le_of_ble_eq_true rfl, Nat.le_of_ble_eq_true rfl⟩) (B := fun _ => True) (fun _ _ _ _ _ => trivial) (fun _ _ _ => trivial) rfl hl.1 rfl (Nat.le_of_ble_eq_true rfl) dL_law_526 ⟨hcc, hss⟩ (fun r hr => ?_)
  obtain ⟨j_2, hj_2, rfl⟩ := hr
  have ht9 : (I * 6 + 0) * 6 + j_2 < 288 := by omega
  have hh9 := (hp.hm ht9).2
  refine lv_istore (lv' := [(15, .int (nI j_2)), (14, .int (nI 0)), (9, .int (nI cr)), (8, .int (nI dy)), (7, .int (nI R)), (6, .int (nI A)), (5, .int (nI I)), (4, .int x), (3, .int (nI i)), (2, .int (nI n)), (1, .ref (ad 0)), (0, .ref b)]) hx hb dL_law_529 hl (by decide) rfl (fun ls hl => ?_)
  refine lv_aload_n hx hb dL_law_531 rfl (lv_at hl 10 rfl) ?_
  refine lv_iload hx hb dL_law_532 (lv_at hl 6 rfl) ?_
  refine lv_iload hx hb dL_law_534 (lv_at hl 1 rfl) ?_
  refine lv_iload hx hb dL_law_536 (lv_at hl 0 rfl) ?_
  refine zcVi (As := [.int (nI I), .int (nI 0), .int (nI j_2)]) (rest := []) ⟨hx, hb, hml, hown, hts⟩ (c_X5_harm l D ty g ad n (n - 1) (n - 1) n4 n5 hp.d I 0 j_2 hI (by rw [hp.v hI]; omega) hj_2) (cwV 3 hts gL_law_X5_harm rfl rfl rfl (by decide +kernel) ⟨Nat.le_of_ble_eq_true rfl, Nat.le_of_ble_eq_true rfl⟩) zI_blind (zI_pre hP hK hN) (va_recv hK hP (ci := 5) (q0 := 0) rfl rfl) rfl hl.1 rfl (Nat.le_of_ble_eq_true rfl) dL_law_538 ⟨hcc, hss⟩ (fun r_3 hr_3 => ?_)
  subst hr_3
  refine zeq (show g 21 (plc I 0 j_2) = nI (hmN g n ((I * 6 + 0) * 6 + j_2)) from (hp.hm ht9).1) ?_
  refine lv_istore (lv' := [(16, .int (nI (hmN g n ((I * 6 + 0) * 6 + j_2)))), (15, .int (nI j_2)), (14, .int (nI 0)), (9, .int (nI cr)), (8, .int (nI dy)), (7, .int (nI R)), (6, .int (nI A)), (5, .int (nI I)), (4, .int x), (3, .int (nI i)), (2, .int (nI n)), (1, .ref (ad 0)), (0, .ref b)]) hx hb dL_law_541 hl (by decide) rfl (fun ls hl => ?_)
  refine lv_iconst (v := nI 1) hx hb dL_law_543 (by decide) ?_
  refine lv_iload hx hb dL_law_544 (lv_at hl 8 rfl) ?_
  refine lv_iconst (v := nI 2) hx hb dL_law_546 (by decide) ?_
  refine lv_ishr hx hb dL_law_547 ?_
  refine lv_bipush (v := nI 100) hx hb dL_law_548 (by decide) ?_
  refine zcSi (As := [.int (x >>> ((nI 2) &&& 31)), .int (nI 100)]) (rest := [.int (nI 1)]) ⟨hx, hb, hml, hown, hts⟩ (c_L_below l _ (x >>> ((nI 2) &&& 31)) 100 (by omega) (by omega)) (cwS 2 hts gL_law_L_below rfl rfl rfl (by decide +kernel) ⟨Nat.le_of_ble_eq_true rfl, Nat.le_of_ble_eq_true rfl⟩) (B := fun _ => True) (fun _ _ _ _ _ => trivial) (fun _ _ _ => trivial) rfl hl.1 rfl (Nat.le_of_ble_eq_true rfl) dL_law_550 ⟨hcc, hss⟩ (fun r hr => ?_)
  obtain ⟨j_3, hj_3, rfl⟩ := hr
  refine lv_iadd hx hb dL_law_553 ?_
  refine zeq (nI_add 1 j_3) ?_
  refine lv_istore (lv' := [(17, .int (nI (1 + j_3))), (16, .int (nI (hmN g n ((I * 6 + 0) * 6 + j_2)))), (15, .int (nI j_2)), (14, .int (nI 0)), (9, .int (nI cr)), (8, .int (nI dy)), (7, .int (nI R)), (6, .int (nI A)), (5, .int (nI I)), (4, .int x), (3, .int (nI i)), (2, .int (nI n)), (1, .ref (ad 0)), (0, .ref b)]) hx hb dL_law_554 hl (by decide) rfl (fun ls hl => ?_)
  refine lv_aload_n hx hb dL_law_556 rfl (lv_at hl 12 rfl) ?_
  refine lv_iload hx hb dL_law_557 (lv_at hl 8 rfl) ?_
  refine lv_iload hx hb dL_law_559 (lv_at hl 3 rfl) ?_
  refine lv_iload hx hb dL_law_561 (lv_at hl 2 rfl) ?_
  refine lv_iload hx hb dL_law_563 (lv_at hl 0 rfl) ?_
  have hFc := AC_hs hlo hS.1
  refine va_calli (va_runV (As := [.int (nI I), .int (nI 0), .int (nI j_2), .int (nI (1 + j_3))]) (rest := []) ⟨hx, hb, hml, hown, hts⟩ (c_X5_creditBy l D ty g ad H.size hij n (n - 1) (n - 1) n4 n5 hp.d I 0 j_2 hI (by rw [hp.v hI]; omega) hj_2 (nI (1 + j_3)) (nI_nlt (by omega) (by omega)) (nI_nlt (by omega) (by omega))) (cwV 4 hts gL_law_X5_creditBy rfl rfl rfl (by decide +kernel) ⟨Nat.le_of_ble_eq_true rfl, Nat.le_of_ble_eq_true rfl⟩) ⟨zBl zW_blind, va_recv hK hP (ci := 5) (q0 := 0) rfl rfl, fun U h1 h2 => ⟨rfl, zI_pre hP hK hN U h1 h2, by rw [h1]⟩⟩ rfl rfl hl.1 rfl (lv_room (Nat.le_of_ble_eq_true rfl)) dL_law_565 ⟨hcc, hss⟩) hS (fun q _ h => hFc q h) (fun q h => hFc q h) (fun r_5 g_4 t H locs ht hvm hw hB _ _ hS => ?_)
  obtain ⟨hr_5, eg_4⟩ := hw
  subst hr_5
  have hP : va_P D vwCl (zC ty g_4 ad) H := by rw [← ht]; exact hB.1
  clear hFc ht hvm hB
  clear t
  have hx9 : 1 + j_3 ≤ 100 := by omega
  obtain ⟨dd, ed, hdd⟩ := gain_X hp ht9 hx9
  have hp_1 : pI g_4 n n4 n5 := by rw [eg_4]; exact pI_o (Or.inr (Or.inl rfl)) hp _
  have hR1 : CR g_4 (hmN g_4 n) n5 = CR g (hmN g n) n5 := by rw [eg_4, tri_CR, tri_hm]
  have hdb := (pI_rep hp ht9 hx9).CRb
  rw [rep_CR] at hdb
  refine zeq ed ?_
  refine lv_istore (lv' := [(18, .int (nI dd)), (17, .int (nI (1 + j_3))), (16, .int (nI (hmN g n ((I * 6 + 0) * 6 + j_2)))), (15, .int (nI j_2)), (14, .int (nI 0)), (9, .int (nI cr)), (8, .int (nI dy)), (7, .int (nI R)), (6, .int (nI A)), (5, .int (nI I)), (4, .int x), (3, .int (nI i)), (2, .int (nI n)), (1, .ref (ad 0)), (0, .ref b)]) hx hb dL_law_568 hl (by decide) rfl (fun ls hl => ?_)
  refine lv_iload hx hb dL_law_570 (lv_at hl 0 rfl) ?_
  refine lv_if_lt (tgt := 637) hx hb dL_law_572 (by decide) (fun c_6 => ?_) (fun c_6 => ?_)
  · have c_6 := zq_ltT (x := dd) (by omega) c_6
    exact c_6.elim
  · have c_6 := zq_ltF (x := dd) (by omega) c_6
    refine lv_aload_n hx hb dL_law_575 rfl (lv_at hl 13 rfl) ?_
    refine lv_bipush (v := nI 6) hx hb dL_law_576 (by decide) ?_
    refine zcVi (As := [.int (nI 6)]) (rest := []) ⟨hx, hb, hml, hown, hts⟩ (c_X5_many l D ty g_4 ad n (n - 1) (n - 1) n4 n5 hp_1.d 6 (by decide)) (cwV 1 hts gL_law_X5_many rfl rfl rfl (by decide +kernel) ⟨Nat.le_of_ble_eq_true rfl, Nat.le_of_ble_eq_true rfl⟩) zI_blind (zI_pre hP hK hN) (va_recv hK hP (ci := 5) (q0 := 0) rfl rfl) rfl hl.1 rfl (Nat.le_of_ble_eq_true rfl) dL_law_578 ⟨hcc, hss⟩ (fun r_7 hr_7 => ?_)
    subst hr_7
    refine zeq (show manyN g_4 n n5 6 = nI cr from by rw [hcr, ← hR1]; exact hp_1.m6) ?_
    refine lv_iload hx hb dL_law_581 (lv_at hl 5 rfl) ?_
    refine lv_icmp_ne (tgt := 637) hx hb dL_law_583 (by decide) (fun c_8 => ?_) (fun c_8 => ?_)
    · have c_8 := zn_neT (a := cr) (b := cr) (by omega) (by omega) c_8
      omega
    · have c_8 := zn_neF (a := cr) (b := cr) (by omega) (by omega) c_8
      refine lv_aload_n hx hb dL_law_586 rfl (lv_at hl 13 rfl) ?_
      refine lv_iload hx hb dL_law_587 (lv_at hl 9 rfl) ?_
      refine lv_iload hx hb dL_law_589 (lv_at hl 4 rfl) ?_
      refine lv_iload hx hb dL_law_591 (lv_at hl 3 rfl) ?_
      refine lv_iload hx hb dL_law_593 (lv_at hl 1 rfl) ?_
      have hFc := AC_hs hlo hS.1
      refine va_calli (va_runV (As := [.int (nI I), .int (nI 0), .int (nI j_2), .int (nI (1 + j_3))]) (rest := []) ⟨hx, hb, hml, hown, hts⟩ (c_X5_report l D ty g_4 ad H.size hij n (n - 1) (n - 1) n4 n5 hp_1.d I 0 j_2 hI (by show 0 < nV g_4 I; rw [hp_1.v hI]; omega) (by rw [eg_4]; exact hj_2) (nI (1 + j_3)) (nI_nlt (by omega) (by omega)) (nI_nlt (by omega) (by omega))) (cwV 4 hts gL_law_X5_report rfl rfl rfl (by decide +kernel) ⟨Nat.le_of_ble_eq_true rfl, Nat.le_of_ble_eq_true rfl⟩) ⟨zBl zW_blind, va_recv hK hP (ci := 5) (q0 := 0) rfl rfl, fun U h1 h2 => ⟨rfl, zI_pre hP hK hN U h1 h2, by rw [h1]⟩⟩ rfl rfl hl.1 rfl (lv_room (Nat.le_of_ble_eq_true rfl)) dL_law_595 ⟨hcc, hss⟩) hS (fun q _ h => hFc q h) (fun q h => hFc q h) (fun r_10 g_9 t H locs ht hvm hw hB _ _ hS => ?_)
      obtain ⟨hr_10, eg_9⟩ := hw
      subst hr_10
      have hP : va_P D vwCl (zC ty g_9 ad) H := by rw [← ht]; exact hB.1
      clear hFc ht hvm hB
      clear t
      obtain ⟨dd2, ed2, hdd2⟩ := gain_X hp_1 ht9 hx9
      have hq1 : CR g_4 (hmN (repG g_4 (n - 1) ((I * 6 + 0) * 6 + j_2) (nI (1 + j_3))) n) n5 = CR g (hmN (repG g (n - 1) ((I * 6 + 0) * 6 + j_2) (nI (1 + j_3))) n) n5 := by rw [eg_4, tri_CR, rep_tri]
      obtain rfl : dd2 = dd := by omega
      refine zeq ed2 ?_
      have hp_2 : pI g_9 n n4 n5 := by rw [eg_9]; exact pI_rep hp_1 ht9 hx9
      have hR2 : CR g_9 (hmN g_9 n) n5 = cr + dd2 := by rw [eg_9, rep_CR]; omega
      have hh2 : hmN g_9 n ((I * 6 + 0) * 6 + j_2) = max (hmN g n ((I * 6 + 0) * 6 + j_2)) (1 + j_3) := by rw [eg_9, (hN_rep hp_1 ht9 hx9).2, eg_4, tri_hm]
      have hh3 := (hp_2.hm ht9).1
      rw [hh2] at hh3
      refine lv_iload hx hb dL_law_598 (lv_at hl 0 rfl) ?_
      refine lv_icmp_ne (tgt := 637) hx hb dL_law_600 (by decide) (fun c_11 => ?_) (fun c_11 => ?_)
      · have c_11 := zn_neT (a := dd2) (b := dd2) (by omega) (by omega) c_11
        omega
      · have c_11 := zn_neF (a := dd2) (b := dd2) (by omega) (by omega) c_11
        refine lv_aload_n hx hb dL_law_603 rfl (lv_at hl 13 rfl) ?_
        refine lv_bipush (v := nI 6) hx hb dL_law_604 (by decide) ?_
        refine zcVi (As := [.int (nI 6)]) (rest := []) ⟨hx, hb, hml, hown, hts⟩ (c_X5_many l D ty g_9 ad n (n - 1) (n - 1) n4 n5 hp_2.d 6 (by decide)) (cwV 1 hts gL_law_X5_many rfl rfl rfl (by decide +kernel) ⟨Nat.le_of_ble_eq_true rfl, Nat.le_of_ble_eq_true rfl⟩) zI_blind (zI_pre hP hK hN) (va_recv hK hP (ci := 5) (q0 := 0) rfl rfl) rfl hl.1 rfl (Nat.le_of_ble_eq_true rfl) dL_law_606 ⟨hcc, hss⟩ (fun r_12 hr_12 => ?_)
        subst hr_12
        refine zeq (show manyN g_9 n n5 6 = nI (cr + dd2) from by rw [← hR2]; exact hp_2.m6) ?_
        refine lv_iload hx hb dL_law_609 (lv_at hl 5 rfl) ?_
        refine lv_iload hx hb dL_law_611 (lv_at hl 0 rfl) ?_
        refine lv_iadd hx hb dL_law_613 ?_
        refine zeq (nI_add cr dd2) ?_
        refine lv_icmp_ne (tgt := 637) hx hb dL_law_614 (by decide) (fun c_13 => ?_) (fun c_13 => ?_)
        · have c_13 := zn_neT (a := (cr + dd2)) (b := (cr + dd2)) (by omega) (by omega) c_13
          omega
        · have c_13 := zn_neF (a := (cr + dd2)) (b := (cr + dd2)) (by omega) (by omega) c_13
          refine lv_aload_n hx hb dL_law_617 rfl (lv_at hl 13 rfl) ?_
          refine lv_iload hx hb dL_law_618 (lv_at hl 9 rfl) ?_
          refine lv_iload hx hb dL_law_620 (lv_at hl 4 rfl) ?_
          refine lv_iload hx hb dL_law_622 (lv_at hl 3 rfl) ?_
          refine zcVi (As := [.int (nI I), .int (nI 0), .int (nI j_2)]) (rest := []) ⟨hx, hb, hml, hown, hts⟩ (c_X5_harm l D ty g_9 ad n (n - 1) (n - 1) n4 n5 hp_2.d I 0 j_2 hI (by rw [hp_2.v hI]; omega) (by rw [eg_9, eg_4]; exact hj_2)) (cwV 3 hts gL_law_X5_harm rfl rfl rfl (by decide +kernel) ⟨Nat.le_of_ble_eq_true rfl, Nat.le_of_ble_eq_true rfl⟩) zI_blind (zI_pre hP hK hN) (va_recv hK hP (ci := 5) (q0 := 0) rfl rfl) rfl hl.1 rfl (Nat.le_of_ble_eq_true rfl) dL_law_624 ⟨hcc, hss⟩ (fun r_14 hr_14 => ?_)
          subst hr_14
          refine zeq (show g_9 21 (plc I 0 j_2) = nI (max (hmN g n ((I * 6 + 0) * 6 + j_2)) (1 + j_3)) from hh3) ?_
          refine lv_iload hx hb dL_law_627 (lv_at hl 2 rfl) ?_
          refine lv_iload hx hb dL_law_629 (lv_at hl 1 rfl) ?_
          refine va_mmax hx hb (hml.trans hl.1.symm) hown (hts (.methodLink RL 74 Lib.Math.max.name) (by decide +kernel)) (hts (.static Lib.Math.max.name) (by decide +kernel)) (hts (.initialized "java/lang/Math") (by decide +kernel)) (hts (.code Lib.Math.max.name Lib.Math.max.code 2 (some .int)) (by decide +kernel)) (Nat.le_of_ble_eq_true rfl) (Nat.le_of_ble_eq_true rfl) (hcc) (hss) dL_law_631 ?_
          refine zeq (zmax_def (nI (hmN g n ((I * 6 + 0) * 6 + j_2))) (nI (1 + j_3))).symm ?_
          refine zeq (zmax_N (by omega) (by omega)) ?_
          refine lv_icmp_eq (tgt := 825) hx hb dL_law_634 (by decide) (fun c_15 => ?_) (fun c_15 => ?_)
          · have c_15 := zn_eqT (a := (max (hmN g n ((I * 6 + 0) * 6 + j_2)) (1 + j_3))) (b := (max (hmN g n ((I * 6 + 0) * 6 + j_2)) (1 + j_3))) (by omega) (by omega) c_15
            refine W.widen (k := cells + 1) (n := slots + 6) (by omega) (by omega) ?_
            exact K g_9 n4 n5 _ _ _ hp_2 (by omega) hP hS (lv_sub hl [5, 11, 12, 13, 14] rfl)
          · have c_15 := zn_eqF (a := (max (hmN g n ((I * 6 + 0) * 6 + j_2)) (1 + j_3))) (b := (max (hmN g n ((I * 6 + 0) * 6 + j_2)) (1 + j_3))) (by omega) (by omega) c_15
            omega
