set_option maxHeartbeats 4000000 in
set_option maxRecDepth 100000 in
theorem c_X5_digestSet (l : Launch) (D : va_G) (ty : Nat → ClassId) (g : Nat → Nat → Int32) (ad : Nat → Nat) (n1 n2 nL n4 n5 : Nat) (hI : dI g n1 n2 nL n4 n5) (d : Int64) (i : Nat) (hi : i < n1) : Met l yX5_digestSet wsX5_digestSet ({ frames := 5, cells := 0, slots := 0, locals := 110 }) (va_Pc [.ref (ad 0), .long d, .int (nI i)] (zI D ty g ad)) (vp_Sl (fun v_ => v_ = dgS g n5 i d)) 0 0 (fun _ => False) := by
  refine zMet (cc := cX5_digestSet) (maxL := 8) (ret := (some .long)) (by decide) rfl (Nat.le_of_ble_eq_true rfl) ?_
  intro p e s m below meth c hx hb hr hts hown hlocks hml hB ls hl
  obtain ⟨hP, hK, hN⟩ := hB
  obtain ⟨⟨hn1, hn1b⟩, h78, ⟨hn2, hn2b⟩, h12, ⟨hnL, hnLb⟩, h15, ⟨hn4, hn4b⟩, ⟨hn5, hn5b⟩, hrd5, hd0⟩ := id hI
  have hq7 : nF g i < 7 := (h78 i hi).1.2
  have hq8 : nV g i < 7 := (h78 i hi).2.1.2
  have hl : lv_has ls 8 [(0, .ref (ad 0)), (1, .long d), (3, .int (nI i))] := hl
  have hk0 := hts (.fieldLink RX5 12 "DatamarketDesk" "shelf" "LDatamarketDesk$Shelf;") (by decide +kernel)
  have hinX5 : ∀ w ∈ wsX50, w ∈ wsX5_digestSet := by decide +kernel
  have hinX4 : ∀ w ∈ wsX40, w ∈ wsX5_digestSet := by decide +kernel
  refine lv_lload_n hx hb dX5_digestSet_0 rfl (lv_at hl 1 rfl) ?_
  refine lv_lstore (lv' := [(4, .long d), (0, .ref (ad 0)), (1, .long d), (3, .int (nI i))]) hx hb dX5_digestSet_1 hl (by decide) rfl (fun ls hl => ?_)
  refine lv_iconst (v := nI 0) hx hb dX5_digestSet_3 (by decide) ?_
  refine lv_istore (lv' := [(6, .int (nI 0)), (4, .long d), (0, .ref (ad 0)), (1, .long d), (3, .int (nI i))]) hx hb dX5_digestSet_4 hl (by decide) rfl (fun ls hl => ?_)
  refine zloopP (τ := Unit) (fun w1 _ ls => lv_has ls 8 [(4, .long (dgF (ofSetN g n5 i) d w1)), (6, .int (nI w1)), (0, .ref (ad 0)), (3, .int (nI i))]) 7 ?_ 0 () ls (Nat.zero_le _) (lv_sub hl [1, 0, 2, 4] rfl)
  intro w1 _ ls hi_w1 hl ih_w1
  have hl : lv_has ls 8 [(4, .long (dgF (ofSetN g n5 i) d w1)), (6, .int (nI w1)), (0, .ref (ad 0)), (3, .int (nI i))] := hl
  refine lv_iload hx hb dX5_digestSet_6 (lv_at hl 1 rfl) ?_
  refine lv_bipush (v := nI 6) hx hb dX5_digestSet_8 (by decide) ?_
  refine lv_icmp_gt (tgt := 36) hx hb dX5_digestSet_10 (by decide) (fun c_1 => ?_) (fun c_1 => ?_)
  · have c_1 := zn_gtT (a := w1) (b := 6) (by omega) (by omega) c_1
    obtain rfl : w1 = 7 := by omega
    refine lv_iconst (v := nI 0) hx hb dX5_digestSet_36 (by decide) ?_
    refine lv_istore (lv' := [(6, .int (nI 0)), (4, .long (dgF (ofSetN g n5 i) d 7)), (0, .ref (ad 0)), (3, .int (nI i))]) hx hb dX5_digestSet_37 hl (by decide) rfl (fun ls hl => ?_)
    refine zloopP (τ := Unit) (fun v1 _ ls => lv_has ls 8 [(4, .long (dgG (dgV g i) (dgF (ofSetN g n5 i) d 7) v1)), (6, .int (nI v1)), (0, .ref (ad 0)), (3, .int (nI i))]) (nV g i) ?_ 0 () ls (Nat.zero_le _) (lv_sub hl [1, 0, 2, 3] rfl)
    intro v1 _ ls hi_v1 hl ih_v1
    have hl : lv_has ls 8 [(4, .long (dgG (dgV g i) (dgF (ofSetN g n5 i) d 7) v1)), (6, .int (nI v1)), (0, .ref (ad 0)), (3, .int (nI i))] := hl
    refine lv_iload hx hb dX5_digestSet_39 (lv_at hl 1 rfl) ?_
    refine lv_aload_n hx hb dX5_digestSet_41 rfl (lv_at hl 2 rfl) ?_
    refine va_get hx hb hts hinX5 hown hK hP 0 rfl rfl 0 (by decide) (hk0) (fun _ h9 => h9) rfl dX5_digestSet_42 ?_
    refine va_getN hx hb hts hinX4 hown hK hP 1 rfl rfl 2 (by decide) (zN.use hN (List.mem_of_getElem? (i := 3) rfl)) (fun _ h9 => h9) rfl dX5_digestSet_45 ?_
    refine lv_iload_n hx hb dX5_digestSet_48 rfl (lv_at hl 3 rfl) ?_
    refine zald hx hb hK hP 8 0 rfl rfl (i := i) (by omega) (by decide) dX5_digestSet_49 ?_
    have b_2 : nV g i < 7 := (h78 _ (by omega)).2.1.2
    refine zeq (show g 8 i = nI (nV g i) from (h78 _ (by omega)).2.1.1) ?_
    refine lv_icmp_ge (tgt := 101) hx hb dX5_digestSet_50 (by decide) (fun c_3 => ?_) (fun c_3 => ?_)
    · have c_3 := zn_geT (a := v1) (b := (nV g i)) (by omega) (by omega) c_3
      obtain e9 : v1 = nV g i := by omega
      subst e9
      refine lv_lload hx hb dX5_digestSet_101 (lv_at hl 0 rfl) ?_
      exact W.lret (v := dgG (dgV g i) (dgF (ofSetN g n5 i) d 7) (nV g i)) hx hb hr (fun t ht hW => ⟨_, rfl, rfl, ht⟩) (fun _ h => nomatch h) dX5_digestSet_103
    · have c_3 := zn_geF (a := v1) (b := (nV g i)) (by omega) (by omega) c_3
      refine lv_iconst (v := nI 0) hx hb dX5_digestSet_53 (by decide) ?_
      refine lv_istore (lv' := [(7, .int (nI 0)), (4, .long (dgG (dgV g i) (dgF (ofSetN g n5 i) d 7) v1)), (6, .int (nI v1)), (0, .ref (ad 0)), (3, .int (nI i))]) hx hb dX5_digestSet_54 hl (by decide) rfl (fun ls hl => ?_)
      refine zloopP (τ := Unit) (fun f1 _ ls => lv_has ls 8 [(4, .long (dgF (fun f => g 21 (plc i v1 f)) (dgG (dgV g i) (dgF (ofSetN g n5 i) d 7) v1) f1)), (7, .int (nI f1)), (6, .int (nI v1)), (0, .ref (ad 0)), (3, .int (nI i))]) (nF g i) ?_ 0 () ls (Nat.zero_le _) (lv_sub hl [1, 0, 2, 3, 4] rfl)
      intro f1 _ ls hi_f1 hl ih_f1
      have hl : lv_has ls 8 [(4, .long (dgF (fun f => g 21 (plc i v1 f)) (dgG (dgV g i) (dgF (ofSetN g n5 i) d 7) v1) f1)), (7, .int (nI f1)), (6, .int (nI v1)), (0, .ref (ad 0)), (3, .int (nI i))] := hl
      refine lv_iload hx hb dX5_digestSet_56 (lv_at hl 1 rfl) ?_
      refine lv_aload_n hx hb dX5_digestSet_58 rfl (lv_at hl 3 rfl) ?_
      refine va_get hx hb hts hinX5 hown hK hP 0 rfl rfl 0 (by decide) (hk0) (fun _ h9 => h9) rfl dX5_digestSet_59 ?_
      refine va_getN hx hb hts hinX4 hown hK hP 1 rfl rfl 1 (by decide) (zN.use hN (List.mem_of_getElem? (i := 2) rfl)) (fun _ h9 => h9) rfl dX5_digestSet_62 ?_
      refine lv_iload_n hx hb dX5_digestSet_65 rfl (lv_at hl 4 rfl) ?_
      refine zald hx hb hK hP 7 0 rfl rfl (i := i) (by omega) (by decide) dX5_digestSet_66 ?_
      have b_4 : nF g i < 7 := (h78 _ (by omega)).1.2
      refine zeq (show g 7 i = nI (nF g i) from (h78 _ (by omega)).1.1) ?_
      refine lv_icmp_ge (tgt := 95) hx hb dX5_digestSet_67 (by decide) (fun c_5 => ?_) (fun c_5 => ?_)
      · have c_5 := zn_geT (a := f1) (b := (nF g i)) (by omega) (by omega) c_5
        obtain e9 : f1 = nF g i := by omega
        subst e9
        refine lv_iinc (v := nI (v1 + 1)) (lv' := [(6, .int (nI (v1 + 1))), (4, .long (dgF (fun f => g 21 (plc i v1 f)) (dgG (dgV g i) (dgF (ofSetN g n5 i) d 7) v1) (nF g i))), (7, .int (nI (nF g i))), (0, .ref (ad 0)), (3, .int (nI i))]) hx hb dX5_digestSet_95 hl (k := 2) rfl (nI_add v1 1) (by decide) rfl (fun ls hl => ?_)
        refine lv_goto (tgt := 39) hx hb dX5_digestSet_98 (by decide) ?_
        exact ih_v1 () ls (by omega) (show lv_has ls 8 [(4, .long (dgG (dgV g i) (dgF (ofSetN g n5 i) d 7) (v1 + 1))), (6, .int (nI (v1 + 1))), (0, .ref (ad 0)), (3, .int (nI i))] from lv_sub hl [1, 0, 3, 4] rfl)
      · have c_5 := zn_geF (a := f1) (b := (nF g i)) (by omega) (by omega) c_5
        refine lv_lload hx hb dX5_digestSet_70 (lv_at hl 0 rfl) ?_
        refine lv_ldc2 (v := 31) hx hb hown (hts (.constantLong RX5 339 (31)) (by decide +kernel)) dX5_digestSet_72 ?_
        refine lv_lmul hx hb dX5_digestSet_75 ?_
        refine lv_aload_n hx hb dX5_digestSet_76 rfl (lv_at hl 3 rfl) ?_
        refine lv_iload_n hx hb dX5_digestSet_77 rfl (lv_at hl 4 rfl) ?_
        refine lv_iload hx hb dX5_digestSet_78 (lv_at hl 2 rfl) ?_
        refine lv_iload hx hb dX5_digestSet_80 (lv_at hl 1 rfl) ?_
        refine zcVi (As := [.int (nI i), .int (nI v1), .int (nI f1)]) (rest := [.long ((dgF (fun f => g 21 (plc i v1 f)) (dgG (dgV g i) (dgF (ofSetN g n5 i) d 7) v1) f1) * 31)]) ⟨hx, hb, hml, hown, hts⟩ (c_X5_harm l D ty g ad n1 n2 nL n4 n5 hI i v1 f1 (by omega) (by omega) (by omega)) (cwV 3 hts gX5_digestSet_X5_harm rfl rfl rfl (by decide +kernel) ⟨Nat.le_of_ble_eq_true rfl, Nat.le_of_ble_eq_true rfl⟩) zI_blind (zI_pre hP hK hN) (va_recv hK hP (ci := 5) (q0 := 0) rfl rfl) rfl hl.1 rfl (Nat.le_of_ble_eq_true rfl) dX5_digestSet_82 ⟨Nat.le_of_ble_eq_true rfl, Nat.le_of_ble_eq_true rfl⟩ (fun r_6 hr_6 => ?_)
        subst hr_6
        refine lv_i2l hx hb dX5_digestSet_85 rfl ?_
        refine lv_ladd hx hb dX5_digestSet_86 ?_
        refine lv_lstore (lv' := [(4, .long (((dgF (fun f => g 21 (plc i v1 f)) (dgG (dgV g i) (dgF (ofSetN g n5 i) d 7) v1) f1) * 31) + ((g 21 (plc i v1 f1)).toInt64))), (7, .int (nI f1)), (6, .int (nI v1)), (0, .ref (ad 0)), (3, .int (nI i))]) hx hb dX5_digestSet_87 hl (by decide) rfl (fun ls hl => ?_)
        refine lv_iinc (v := nI (f1 + 1)) (lv' := [(7, .int (nI (f1 + 1))), (4, .long (((dgF (fun f => g 21 (plc i v1 f)) (dgG (dgV g i) (dgF (ofSetN g n5 i) d 7) v1) f1) * 31) + ((g 21 (plc i v1 f1)).toInt64))), (6, .int (nI v1)), (0, .ref (ad 0)), (3, .int (nI i))]) hx hb dX5_digestSet_89 hl (k := 1) rfl (nI_add f1 1) (by decide) rfl (fun ls hl => ?_)
        refine lv_goto (tgt := 56) hx hb dX5_digestSet_92 (by decide) ?_
        exact ih_f1 () ls (by omega) (show lv_has ls 8 [(4, .long (dgF (fun f => g 21 (plc i v1 f)) (dgG (dgV g i) (dgF (ofSetN g n5 i) d 7) v1) (f1 + 1))), (7, .int (nI (f1 + 1))), (6, .int (nI v1)), (0, .ref (ad 0)), (3, .int (nI i))] from lv_sub hl [1, 0, 2, 3, 4] rfl)
  · have c_1 := zn_gtF (a := w1) (b := 6) (by omega) (by omega) c_1
    refine lv_lload hx hb dX5_digestSet_13 (lv_at hl 0 rfl) ?_
    refine lv_ldc2 (v := 31) hx hb hown (hts (.constantLong RX5 339 (31)) (by decide +kernel)) dX5_digestSet_15 ?_
    refine lv_lmul hx hb dX5_digestSet_18 ?_
    refine lv_aload_n hx hb dX5_digestSet_19 rfl (lv_at hl 2 rfl) ?_
    refine lv_iload_n hx hb dX5_digestSet_20 rfl (lv_at hl 3 rfl) ?_
    refine lv_iload hx hb dX5_digestSet_21 (lv_at hl 1 rfl) ?_
    refine zcVi (As := [.int (nI i), .int (nI w1)]) (rest := [.long ((dgF (ofSetN g n5 i) d w1) * 31)]) ⟨hx, hb, hml, hown, hts⟩ (c_X5_ofSet l D ty g ad n1 n2 nL n4 n5 hI i w1 (by omega) (by omega)) (cwV 2 hts gX5_digestSet_X5_ofSet rfl rfl rfl (by decide +kernel) ⟨Nat.le_of_ble_eq_true rfl, Nat.le_of_ble_eq_true rfl⟩) zI_blind (zI_pre hP hK hN) (va_recv hK hP (ci := 5) (q0 := 0) rfl rfl) rfl hl.1 rfl (Nat.le_of_ble_eq_true rfl) dX5_digestSet_23 ⟨Nat.le_of_ble_eq_true rfl, Nat.le_of_ble_eq_true rfl⟩ (fun r_7 hr_7 => ?_)
    subst hr_7
    refine lv_i2l hx hb dX5_digestSet_26 rfl ?_
    refine lv_ladd hx hb dX5_digestSet_27 ?_
    refine lv_lstore (lv' := [(4, .long (((dgF (ofSetN g n5 i) d w1) * 31) + ((ofSetN g n5 i w1).toInt64))), (6, .int (nI w1)), (0, .ref (ad 0)), (3, .int (nI i))]) hx hb dX5_digestSet_28 hl (by decide) rfl (fun ls hl => ?_)
    refine lv_iinc (v := nI (w1 + 1)) (lv' := [(6, .int (nI (w1 + 1))), (4, .long (((dgF (ofSetN g n5 i) d w1) * 31) + ((ofSetN g n5 i w1).toInt64))), (0, .ref (ad 0)), (3, .int (nI i))]) hx hb dX5_digestSet_30 hl (k := 1) rfl (nI_add w1 1) (by decide) rfl (fun ls hl => ?_)
    refine lv_goto (tgt := 6) hx hb dX5_digestSet_33 (by decide) ?_
    exact ih_w1 () ls (by omega) (show lv_has ls 8 [(4, .long (dgF (ofSetN g n5 i) d (w1 + 1))), (6, .int (nI (w1 + 1))), (0, .ref (ad 0)), (3, .int (nI i))] from lv_sub hl [1, 0, 2, 3] rfl)
set_option maxHeartbeats 4000000 in
set_option maxRecDepth 100000 in
theorem c_X5_digestReader (l : Launch) (D : va_G) (ty : Nat → ClassId) (g : Nat → Nat → Int32) (ad : Nat → Nat) (n1 n2 nL n4 n5 : Nat) (hI : dI g n1 n2 nL n4 n5) (d : Int64) (R : Nat) (hR : R < 6) : Met l yX5_digestReader wsX5_digestReader ({ frames := 5, cells := 0, slots := 0, locals := 123 }) (va_Pc [.ref (ad 0), .long d, .int (nI R)] (zI D ty g ad)) (vp_Sl (fun v_ => v_ = dgR g n1 n4 n5 R d)) 0 0 (fun _ => False) := by
  refine zMet (cc := cX5_digestReader) (maxL := 7) (ret := (some .long)) (by decide) rfl (Nat.le_of_ble_eq_true rfl) ?_
  intro p e s m below meth c hx hb hr hts hown hlocks hml hB ls hl
  obtain ⟨hP, hK, hN⟩ := hB
  obtain ⟨⟨hn1, hn1b⟩, h78, ⟨hn2, hn2b⟩, h12, ⟨hnL, hnLb⟩, h15, ⟨hn4, hn4b⟩, ⟨hn5, hn5b⟩, hrd5, hd0⟩ := id hI
  have hd1 : ¬ g 0 0 < 0 := by rw [hd0.1]; exact nI_pos (by have q9 := hd0.2; omega)
  have hd2 : ¬ nI 359 < g 0 0 := by rw [hd0.1]; exact nI_nlt (by have q9 := hd0.2; omega) (by decide)
  have hl : lv_has ls 7 [(0, .ref (ad 0)), (1, .long d), (3, .int (nI R))] := hl
  have hk0 := hts (.fieldLink RX5 12 "DatamarketDesk" "shelf" "LDatamarketDesk$Shelf;") (by decide +kernel)
  have hinX5 : ∀ w ∈ wsX50, w ∈ wsX5_digestReader := by decide +kernel
  have hinX4 : ∀ w ∈ wsX40, w ∈ wsX5_digestReader := by decide +kernel
  have hk3 := hts (.fieldLink RX5 48 "DatamarketDesk" "today" "I") (by decide +kernel)
  refine lv_lload_n hx hb dX5_digestReader_0 rfl (lv_at hl 1 rfl) ?_
  refine lv_lstore (lv' := [(4, .long d), (0, .ref (ad 0)), (1, .long d), (3, .int (nI R))]) hx hb dX5_digestReader_1 hl (by decide) rfl (fun ls hl => ?_)
  refine lv_iconst (v := nI 0) hx hb dX5_digestReader_3 (by decide) ?_
  refine lv_istore (lv' := [(6, .int (nI 0)), (4, .long d), (0, .ref (ad 0)), (1, .long d), (3, .int (nI R))]) hx hb dX5_digestReader_4 hl (by decide) rfl (fun ls hl => ?_)
  refine zloopP (τ := Unit) (fun w1 _ ls => lv_has ls 7 [(4, .long (dgF (ofReaderN g n4 n5 R) d w1)), (6, .int (nI w1)), (0, .ref (ad 0)), (3, .int (nI R))]) 7 ?_ 0 () ls (Nat.zero_le _) (lv_sub hl [1, 0, 2, 4] rfl)
  intro w1 _ ls hi_w1 hl ih_w1
  have hl : lv_has ls 7 [(4, .long (dgF (ofReaderN g n4 n5 R) d w1)), (6, .int (nI w1)), (0, .ref (ad 0)), (3, .int (nI R))] := hl
  refine lv_iload hx hb dX5_digestReader_6 (lv_at hl 1 rfl) ?_
  refine lv_bipush (v := nI 6) hx hb dX5_digestReader_8 (by decide) ?_
  refine lv_icmp_gt (tgt := 36) hx hb dX5_digestReader_10 (by decide) (fun c_1 => ?_) (fun c_1 => ?_)
  · have c_1 := zn_gtT (a := w1) (b := 6) (by omega) (by omega) c_1
    obtain rfl : w1 = 7 := by omega
    refine lv_iconst (v := nI 0) hx hb dX5_digestReader_36 (by decide) ?_
    refine lv_istore (lv' := [(6, .int (nI 0)), (4, .long (dgF (ofReaderN g n4 n5 R) d 7)), (0, .ref (ad 0)), (3, .int (nI R))]) hx hb dX5_digestReader_37 hl (by decide) rfl (fun ls hl => ?_)
    refine zloopP (τ := Unit) (fun i1 _ ls => lv_has ls 7 [(4, .long (dgG (dgC g n4 R) (dgF (ofReaderN g n4 n5 R) d 7) i1)), (6, .int (nI i1)), (0, .ref (ad 0)), (3, .int (nI R))]) n1 ?_ 0 () ls (Nat.zero_le _) (lv_sub hl [1, 0, 2, 3] rfl)
    intro i1 _ ls hi_i1 hl ih_i1
    have hl : lv_has ls 7 [(4, .long (dgG (dgC g n4 R) (dgF (ofReaderN g n4 n5 R) d 7) i1)), (6, .int (nI i1)), (0, .ref (ad 0)), (3, .int (nI R))] := hl
    refine lv_iload hx hb dX5_digestReader_39 (lv_at hl 1 rfl) ?_
    refine lv_aload_n hx hb dX5_digestReader_41 rfl (lv_at hl 2 rfl) ?_
    refine va_get hx hb hts hinX5 hown hK hP 0 rfl rfl 0 (by decide) (hk0) (fun _ h9 => h9) rfl dX5_digestReader_42 ?_
    refine va_getN hx hb hts hinX4 hown hK hP 1 rfl rfl 0 (by decide) (zN.use hN (List.mem_of_getElem? (i := 1) rfl)) (fun _ h9 => h9) rfl dX5_digestReader_45 ?_
    refine zeq hn1 ?_
    refine lv_icmp_ge (tgt := 96) hx hb dX5_digestReader_48 (by decide) (fun c_2 => ?_) (fun c_2 => ?_)
    · have c_2 := zn_geT (a := i1) (b := n1) (by omega) (by omega) c_2
      obtain rfl : i1 = n1 := by omega
      refine lv_lload hx hb dX5_digestReader_96 (lv_at hl 0 rfl) ?_
      exact W.lret (v := dgG (dgC g n4 R) (dgF (ofReaderN g n4 n5 R) d 7) i1) hx hb hr (fun t ht hW => ⟨_, rfl, rfl, ht⟩) (fun _ h => nomatch h) dX5_digestReader_98
    · have c_2 := zn_geF (a := i1) (b := n1) (by omega) (by omega) c_2
      refine lv_lload hx hb dX5_digestReader_51 (lv_at hl 0 rfl) ?_
      refine lv_ldc2 (v := 31) hx hb hown (hts (.constantLong RX5 339 (31)) (by decide +kernel)) dX5_digestReader_53 ?_
      refine lv_lmul hx hb dX5_digestReader_56 ?_
      refine lv_aload_n hx hb dX5_digestReader_57 rfl (lv_at hl 2 rfl) ?_
      refine lv_iload_n hx hb dX5_digestReader_58 rfl (lv_at hl 3 rfl) ?_
      refine lv_iload hx hb dX5_digestReader_59 (lv_at hl 1 rfl) ?_
      refine lv_iconst (v := nI 0) hx hb dX5_digestReader_61 (by decide) ?_
      refine lv_aload_n hx hb dX5_digestReader_62 rfl (lv_at hl 2 rfl) ?_
      refine va_get hx hb hts hinX5 hown hK hP 0 rfl rfl 6 (by decide) (hk3) (fun _ h9 => h9) rfl dX5_digestReader_63 ?_
      refine zcVi (As := [.int (nI R), .int (nI i1), .int (nI 0), .int (g 0 0)]) (rest := [.long ((dgG (dgC g n4 R) (dgF (ofReaderN g n4 n5 R) d 7) i1) * 31)]) ⟨hx, hb, hml, hown, hts⟩ (c_X5_covered l D ty g ad n1 n2 nL n4 n5 hI R i1 0 (by omega) (by omega) (by omega) (g 0 0) hd1 hd2) (cwV 4 hts gX5_digestReader_X5_covered rfl rfl rfl (by decide +kernel) ⟨Nat.le_of_ble_eq_true rfl, Nat.le_of_ble_eq_true rfl⟩) zI_blind (zI_pre hP hK hN) (va_recv hK hP (ci := 5) (q0 := 0) rfl rfl) rfl hl.1 rfl (Nat.le_of_ble_eq_true rfl) dX5_digestReader_66 ⟨Nat.le_of_ble_eq_true rfl, Nat.le_of_ble_eq_true rfl⟩ (fun r_3 hr_3 => ?_)
      subst hr_3
      refine lv_i2l hx hb dX5_digestReader_69 rfl ?_
      refine lv_ladd hx hb dX5_digestReader_70 ?_
      refine lv_lstore (lv' := [(4, .long (((dgG (dgC g n4 R) (dgF (ofReaderN g n4 n5 R) d 7) i1) * 31) + ((orN (fOpen g (nI R) (nI i1) (nI 1 <<< (nI 0 &&& 31)) (g 0 0) (-1)) n4).toInt64))), (6, .int (nI i1)), (0, .ref (ad 0)), (3, .int (nI R))]) hx hb dX5_digestReader_71 hl (by decide) rfl (fun ls hl => ?_)
      refine lv_lload hx hb dX5_digestReader_73 (lv_at hl 0 rfl) ?_
      refine lv_ldc2 (v := 31) hx hb hown (hts (.constantLong RX5 339 (31)) (by decide +kernel)) dX5_digestReader_75 ?_
      refine lv_lmul hx hb dX5_digestReader_78 ?_
      refine lv_aload_n hx hb dX5_digestReader_79 rfl (lv_at hl 2 rfl) ?_
      refine lv_iload_n hx hb dX5_digestReader_80 rfl (lv_at hl 3 rfl) ?_
      refine lv_iload hx hb dX5_digestReader_81 (lv_at hl 1 rfl) ?_
      refine zcVi (As := [.int (nI R), .int (nI i1)]) (rest := [.long ((((dgG (dgC g n4 R) (dgF (ofReaderN g n4 n5 R) d 7) i1) * 31) + ((orN (fOpen g (nI R) (nI i1) (nI 1 <<< (nI 0 &&& 31)) (g 0 0) (-1)) n4).toInt64)) * 31)]) ⟨hx, hb, hml, hown, hts⟩ (c_X5_previews l D ty g ad n1 n2 nL n4 n5 hI R i1 (by omega) (by omega)) (cwV 2 hts gX5_digestReader_X5_previews rfl rfl rfl (by decide +kernel) ⟨Nat.le_of_ble_eq_true rfl, Nat.le_of_ble_eq_true rfl⟩) zI_blind (zI_pre hP hK hN) (va_recv hK hP (ci := 5) (q0 := 0) rfl rfl) rfl hl.1 rfl (Nat.le_of_ble_eq_true rfl) dX5_digestReader_83 ⟨Nat.le_of_ble_eq_true rfl, Nat.le_of_ble_eq_true rfl⟩ (fun r_4 hr_4 => ?_)
      subst hr_4
      refine lv_i2l hx hb dX5_digestReader_86 rfl ?_
      refine lv_ladd hx hb dX5_digestReader_87 ?_
      refine lv_lstore (lv' := [(4, .long (((((dgG (dgC g n4 R) (dgF (ofReaderN g n4 n5 R) d 7) i1) * 31) + ((orN (fOpen g (nI R) (nI i1) (nI 1 <<< (nI 0 &&& 31)) (g 0 0) (-1)) n4).toInt64)) * 31) + ((prevN g n4 R i1).toInt64))), (6, .int (nI i1)), (0, .ref (ad 0)), (3, .int (nI R))]) hx hb dX5_digestReader_88 hl (by decide) rfl (fun ls hl => ?_)
      refine lv_iinc (v := nI (i1 + 1)) (lv' := [(6, .int (nI (i1 + 1))), (4, .long (((((dgG (dgC g n4 R) (dgF (ofReaderN g n4 n5 R) d 7) i1) * 31) + ((orN (fOpen g (nI R) (nI i1) (nI 1 <<< (nI 0 &&& 31)) (g 0 0) (-1)) n4).toInt64)) * 31) + ((prevN g n4 R i1).toInt64))), (0, .ref (ad 0)), (3, .int (nI R))]) hx hb dX5_digestReader_90 hl (k := 1) rfl (nI_add i1 1) (by decide) rfl (fun ls hl => ?_)
      refine lv_goto (tgt := 39) hx hb dX5_digestReader_93 (by decide) ?_
      exact ih_i1 () ls (by omega) (show lv_has ls 7 [(4, .long (dgG (dgC g n4 R) (dgF (ofReaderN g n4 n5 R) d 7) (i1 + 1))), (6, .int (nI (i1 + 1))), (0, .ref (ad 0)), (3, .int (nI R))] from lv_sub hl [1, 0, 2, 3] rfl)
  · have c_1 := zn_gtF (a := w1) (b := 6) (by omega) (by omega) c_1
    refine lv_lload hx hb dX5_digestReader_13 (lv_at hl 0 rfl) ?_
    refine lv_ldc2 (v := 31) hx hb hown (hts (.constantLong RX5 339 (31)) (by decide +kernel)) dX5_digestReader_15 ?_
    refine lv_lmul hx hb dX5_digestReader_18 ?_
    refine lv_aload_n hx hb dX5_digestReader_19 rfl (lv_at hl 2 rfl) ?_
    refine lv_iload_n hx hb dX5_digestReader_20 rfl (lv_at hl 3 rfl) ?_
    refine lv_iload hx hb dX5_digestReader_21 (lv_at hl 1 rfl) ?_
    refine zcVi (As := [.int (nI R), .int (nI w1)]) (rest := [.long ((dgF (ofReaderN g n4 n5 R) d w1) * 31)]) ⟨hx, hb, hml, hown, hts⟩ (c_X5_ofReader l D ty g ad n1 n2 nL n4 n5 hI R w1 (by omega) (by omega)) (cwV 2 hts gX5_digestReader_X5_ofReader rfl rfl rfl (by decide +kernel) ⟨Nat.le_of_ble_eq_true rfl, Nat.le_of_ble_eq_true rfl⟩) zI_blind (zI_pre hP hK hN) (va_recv hK hP (ci := 5) (q0 := 0) rfl rfl) rfl hl.1 rfl (Nat.le_of_ble_eq_true rfl) dX5_digestReader_23 ⟨Nat.le_of_ble_eq_true rfl, Nat.le_of_ble_eq_true rfl⟩ (fun r_5 hr_5 => ?_)
    subst hr_5
    refine lv_i2l hx hb dX5_digestReader_26 rfl ?_
    refine lv_ladd hx hb dX5_digestReader_27 ?_
    refine lv_lstore (lv' := [(4, .long (((dgF (ofReaderN g n4 n5 R) d w1) * 31) + ((ofReaderN g n4 n5 R w1).toInt64))), (6, .int (nI w1)), (0, .ref (ad 0)), (3, .int (nI R))]) hx hb dX5_digestReader_28 hl (by decide) rfl (fun ls hl => ?_)
    refine lv_iinc (v := nI (w1 + 1)) (lv' := [(6, .int (nI (w1 + 1))), (4, .long (((dgF (ofReaderN g n4 n5 R) d w1) * 31) + ((ofReaderN g n4 n5 R w1).toInt64))), (0, .ref (ad 0)), (3, .int (nI R))]) hx hb dX5_digestReader_30 hl (k := 1) rfl (nI_add w1 1) (by decide) rfl (fun ls hl => ?_)
    refine lv_goto (tgt := 6) hx hb dX5_digestReader_33 (by decide) ?_
    exact ih_w1 () ls (by omega) (show lv_has ls 7 [(4, .long (dgF (ofReaderN g n4 n5 R) d (w1 + 1))), (6, .int (nI (w1 + 1))), (0, .ref (ad 0)), (3, .int (nI R))] from lv_sub hl [1, 0, 2, 3] rfl)
set_option maxHeartbeats 4000000 in
set_option maxRecDepth 100000 in
theorem c_X5_digest (l : Launch) (D : va_G) (ty : Nat → ClassId) (g : Nat → Nat → Int32) (ad : Nat → Nat) (n1 n2 nL n4 n5 : Nat) (hI : dI g n1 n2 nL n4 n5) : Met l yX5_digest wsX5_digest ({ frames := 6, cells := 0, slots := 0, locals := 149 }) (va_Pc [.ref (ad 0)] (zI D ty g ad)) (vp_Sl (fun v_ => v_ = digN g n1 n4 n5)) 0 0 (fun _ => False) := by
  refine zMet (cc := cX5_digest) (maxL := 5) (ret := (some .long)) (by decide) rfl (Nat.le_of_ble_eq_true rfl) ?_
  intro p e s m below meth c hx hb hr hts hown hlocks hml hB ls hl
  obtain ⟨hP, hK, hN⟩ := hB
  obtain ⟨⟨hn1, hn1b⟩, h78, ⟨hn2, hn2b⟩, h12, ⟨hnL, hnLb⟩, h15, ⟨hn4, hn4b⟩, ⟨hn5, hn5b⟩, hrd5, hd0⟩ := id hI
  have hl : lv_has ls 5 [(0, .ref (ad 0))] := hl
  have hk0 := hts (.fieldLink RX5 12 "DatamarketDesk" "shelf" "LDatamarketDesk$Shelf;") (by decide +kernel)
  have hinX5 : ∀ w ∈ wsX50, w ∈ wsX5_digest := by decide +kernel
  have hinX4 : ∀ w ∈ wsX40, w ∈ wsX5_digest := by decide +kernel
  have hk3 := hts (.fieldLink RX5 40 "DatamarketDesk" "reads" "LDatamarketDesk$Reads;") (by decide +kernel)
  have hinX3 : ∀ w ∈ wsX30, w ∈ wsX5_digest := by decide +kernel
  have hk5 := hts (.fieldLink RX5 33 "DatamarketDesk" "contracts" "LDatamarketDesk$Contracts;") (by decide +kernel)
  have hinX0 : ∀ w ∈ wsX00, w ∈ wsX5_digest := by decide +kernel
  refine lv_ldc2 (v := 58124) hx hb hown (hts (.constantLong RX5 337 (58124)) (by decide +kernel)) dX5_digest_0 ?_
  refine lv_lstore_n (lv' := [(1, .long 58124), (0, .ref (ad 0))]) hx hb dX5_digest_3 rfl hl (by decide) rfl (fun ls hl => ?_)
  refine lv_iconst (v := nI 0) hx hb dX5_digest_4 (by decide) ?_
  refine lv_istore_n (lv' := [(3, .int (nI 0)), (1, .long 58124), (0, .ref (ad 0))]) hx hb dX5_digest_5 rfl hl (by decide) rfl (fun ls hl => ?_)
  refine zloopP (τ := Unit) (fun w1 _ ls => lv_has ls 5 [(1, .long (dgF (manyN g n1 n5) 58124 w1)), (3, .int (nI w1)), (0, .ref (ad 0))]) 9 ?_ 0 () ls (Nat.zero_le _) (lv_sub hl [1, 0, 2] rfl)
  intro w1 _ ls hi_w1 hl ih_w1
  have hl : lv_has ls 5 [(1, .long (dgF (manyN g n1 n5) 58124 w1)), (3, .int (nI w1)), (0, .ref (ad 0))] := hl
  refine lv_iload_n hx hb dX5_digest_6 rfl (lv_at hl 1 rfl) ?_
  refine lv_bipush (v := nI 8) hx hb dX5_digest_7 (by decide) ?_
  refine lv_icmp_gt (tgt := 31) hx hb dX5_digest_9 (by decide) (fun c_1 => ?_) (fun c_1 => ?_)
  · have c_1 := zn_gtT (a := w1) (b := 8) (by omega) (by omega) c_1
    obtain rfl : w1 = 9 := by omega
    refine lv_iconst (v := nI 0) hx hb dX5_digest_31 (by decide) ?_
    refine lv_istore_n (lv' := [(3, .int (nI 0)), (1, .long (dgF (manyN g n1 n5) 58124 9)), (0, .ref (ad 0))]) hx hb dX5_digest_32 rfl hl (by decide) rfl (fun ls hl => ?_)
    refine zloopP (τ := Unit) (fun i1 _ ls => lv_has ls 5 [(1, .long (dgG (dgS g n5) (dgF (manyN g n1 n5) 58124 9) i1)), (3, .int (nI i1)), (0, .ref (ad 0))]) n1 ?_ 0 () ls (Nat.zero_le _) (lv_sub hl [1, 0, 2] rfl)
    intro i1 _ ls hi_i1 hl ih_i1
    have hl : lv_has ls 5 [(1, .long (dgG (dgS g n5) (dgF (manyN g n1 n5) 58124 9) i1)), (3, .int (nI i1)), (0, .ref (ad 0))] := hl
    refine lv_iload_n hx hb dX5_digest_33 rfl (lv_at hl 1 rfl) ?_
    refine lv_aload_n hx hb dX5_digest_34 rfl (lv_at hl 2 rfl) ?_
    refine va_get hx hb hts hinX5 hown hK hP 0 rfl rfl 0 (by decide) (hk0) (fun _ h9 => h9) rfl dX5_digest_35 ?_
    refine va_getN hx hb hts hinX4 hown hK hP 1 rfl rfl 0 (by decide) (zN.use hN (List.mem_of_getElem? (i := 1) rfl)) (fun _ h9 => h9) rfl dX5_digest_38 ?_
    refine zeq hn1 ?_
    refine lv_icmp_ge (tgt := 57) hx hb dX5_digest_41 (by decide) (fun c_2 => ?_) (fun c_2 => ?_)
    · have c_2 := zn_geT (a := i1) (b := n1) (by omega) (by omega) c_2
      obtain rfl : n1 = i1 := by omega
      refine lv_iconst (v := nI 0) hx hb dX5_digest_57 (by decide) ?_
      refine lv_istore_n (lv' := [(3, .int (nI 0)), (1, .long (dgG (dgS g n5) (dgF (manyN g n1 n5) 58124 9) n1)), (0, .ref (ad 0))]) hx hb dX5_digest_58 rfl hl (by decide) rfl (fun ls hl => ?_)
      refine zloopP (τ := Unit) (fun r1 _ ls => lv_has ls 5 [(1, .long (dgG (dgR g n1 n4 n5) (dgG (dgS g n5) (dgF (manyN g n1 n5) 58124 9) n1) r1)), (3, .int (nI r1)), (0, .ref (ad 0))]) 6 ?_ 0 () ls (Nat.zero_le _) (lv_sub hl [1, 0, 2] rfl)
      intro r1 _ ls hi_r1 hl ih_r1
      have hl : lv_has ls 5 [(1, .long (dgG (dgR g n1 n4 n5) (dgG (dgS g n5) (dgF (manyN g n1 n5) 58124 9) n1) r1)), (3, .int (nI r1)), (0, .ref (ad 0))] := hl
      refine lv_iload_n hx hb dX5_digest_59 rfl (lv_at hl 1 rfl) ?_
      refine lv_bipush (v := nI 6) hx hb dX5_digest_60 (by decide) ?_
      refine lv_icmp_ge (tgt := 78) hx hb dX5_digest_62 (by decide) (fun c_3 => ?_) (fun c_3 => ?_)
      · have c_3 := zn_geT (a := r1) (b := 6) (by omega) (by omega) c_3
        obtain rfl : r1 = 6 := by omega
        refine lv_iconst (v := nI 0) hx hb dX5_digest_78 (by decide) ?_
        refine lv_istore_n (lv' := [(3, .int (nI 0)), (1, .long (dgG (dgR g n1 n4 n5) (dgG (dgS g n5) (dgF (manyN g n1 n5) 58124 9) n1) 6)), (0, .ref (ad 0))]) hx hb dX5_digest_79 rfl hl (by decide) rfl (fun ls hl => ?_)
        refine zloopP (τ := Unit) (fun q1 _ ls => lv_has ls 5 [(1, .long (dgG (dgD g) (dgG (dgR g n1 n4 n5) (dgG (dgS g n5) (dgF (manyN g n1 n5) 58124 9) n1) 6) q1)), (3, .int (nI q1)), (0, .ref (ad 0))]) n5 ?_ 0 () ls (Nat.zero_le _) (lv_sub hl [1, 0, 2] rfl)
        intro q1 _ ls hi_q1 hl ih_q1
        have hl : lv_has ls 5 [(1, .long (dgG (dgD g) (dgG (dgR g n1 n4 n5) (dgG (dgS g n5) (dgF (manyN g n1 n5) 58124 9) n1) 6) q1)), (3, .int (nI q1)), (0, .ref (ad 0))] := hl
        refine lv_iload_n hx hb dX5_digest_80 rfl (lv_at hl 1 rfl) ?_
        refine lv_aload_n hx hb dX5_digest_81 rfl (lv_at hl 2 rfl) ?_
        refine va_get hx hb hts hinX5 hown hK hP 0 rfl rfl 4 (by decide) (hk3) (fun _ h9 => h9) rfl dX5_digest_82 ?_
        refine va_getN hx hb hts hinX3 hown hK hP 5 rfl rfl 0 (by decide) (zN.use hN (List.mem_of_getElem? (i := 15) rfl)) (fun _ h9 => h9) rfl dX5_digest_85 ?_
        refine zeq hn5 ?_
        refine lv_icmp_ge (tgt := 128) hx hb dX5_digest_88 (by decide) (fun c_4 => ?_) (fun c_4 => ?_)
        · have c_4 := zn_geT (a := q1) (b := n5) (by omega) (by omega) c_4
          obtain rfl : n5 = q1 := by omega
          refine lv_iconst (v := nI 0) hx hb dX5_digest_128 (by decide) ?_
          refine lv_istore_n (lv' := [(3, .int (nI 0)), (1, .long (dgG (dgD g) (dgG (dgR g n1 n4 n5) (dgG (dgS g n5) (dgF (manyN g n1 n5) 58124 9) n1) 6) n5)), (0, .ref (ad 0))]) hx hb dX5_digest_129 rfl hl (by decide) rfl (fun ls hl => ?_)
          refine zloopP (τ := Unit) (fun k1 _ ls => lv_has ls 5 [(1, .long (dgF (fun c => sumN (fNeed g n4 c) n5) (dgG (dgD g) (dgG (dgR g n1 n4 n5) (dgG (dgS g n5) (dgF (manyN g n1 n5) 58124 9) n1) 6) n5) k1)), (3, .int (nI k1)), (0, .ref (ad 0))]) n4 ?_ 0 () ls (Nat.zero_le _) (lv_sub hl [1, 0, 2] rfl)
          intro k1 _ ls hi_k1 hl ih_k1
          have hl : lv_has ls 5 [(1, .long (dgF (fun c => sumN (fNeed g n4 c) n5) (dgG (dgD g) (dgG (dgR g n1 n4 n5) (dgG (dgS g n5) (dgF (manyN g n1 n5) 58124 9) n1) 6) n5) k1)), (3, .int (nI k1)), (0, .ref (ad 0))] := hl
          refine lv_iload_n hx hb dX5_digest_130 rfl (lv_at hl 1 rfl) ?_
          refine lv_aload_n hx hb dX5_digest_131 rfl (lv_at hl 2 rfl) ?_
          refine va_get hx hb hts hinX5 hown hK hP 0 rfl rfl 3 (by decide) (hk5) (fun _ h9 => h9) rfl dX5_digest_132 ?_
          refine va_getN hx hb hts hinX0 hown hK hP 4 rfl rfl 0 (by decide) (zN.use hN (List.mem_of_getElem? (i := 12) rfl)) (fun _ h9 => h9) rfl dX5_digest_135 ?_
          refine zeq hn4 ?_
          refine lv_icmp_ge (tgt := 160) hx hb dX5_digest_138 (by decide) (fun c_5 => ?_) (fun c_5 => ?_)
          · have c_5 := zn_geT (a := k1) (b := n4) (by omega) (by omega) c_5
            obtain rfl : n4 = k1 := by omega
            refine lv_lload_n hx hb dX5_digest_160 rfl (lv_at hl 0 rfl) ?_
            exact W.lret (v := dgF (fun c => sumN (fNeed g n4 c) n5) (dgG (dgD g) (dgG (dgR g n1 n4 n5) (dgG (dgS g n5) (dgF (manyN g n1 n5) 58124 9) n1) 6) n5) n4) hx hb hr (fun t ht hW => ⟨_, rfl, rfl, ht⟩) (fun _ h => nomatch h) dX5_digest_161
          · have c_5 := zn_geF (a := k1) (b := n4) (by omega) (by omega) c_5
            refine lv_lload_n hx hb dX5_digest_141 rfl (lv_at hl 0 rfl) ?_
            refine lv_ldc2 (v := 31) hx hb hown (hts (.constantLong RX5 339 (31)) (by decide +kernel)) dX5_digest_142 ?_
            refine lv_lmul hx hb dX5_digest_145 ?_
            refine lv_aload_n hx hb dX5_digest_146 rfl (lv_at hl 2 rfl) ?_
            refine lv_iload_n hx hb dX5_digest_147 rfl (lv_at hl 1 rfl) ?_
            refine zcVi (As := [.int (nI k1)]) (rest := [.long ((dgF (fun c => sumN (fNeed g n4 c) n5) (dgG (dgD g) (dgG (dgR g n1 n4 n5) (dgG (dgS g n5) (dgF (manyN g n1 n5) 58124 9) n1) 6) n5) k1) * 31)]) ⟨hx, hb, hml, hown, hts⟩ (c_X5_neededBy l D ty g ad n1 n2 nL n4 n5 hI k1 (by omega)) (cwV 1 hts gX5_digest_X5_neededBy rfl rfl rfl (by decide +kernel) ⟨Nat.le_of_ble_eq_true rfl, Nat.le_of_ble_eq_true rfl⟩) zI_blind (zI_pre hP hK hN) (va_recv hK hP (ci := 5) (q0 := 0) rfl rfl) rfl hl.1 rfl (Nat.le_of_ble_eq_true rfl) dX5_digest_148 ⟨Nat.le_of_ble_eq_true rfl, Nat.le_of_ble_eq_true rfl⟩ (fun r_6 hr_6 => ?_)
            subst hr_6
            refine lv_i2l hx hb dX5_digest_151 rfl ?_
            refine lv_ladd hx hb dX5_digest_152 ?_
            refine lv_lstore_n (lv' := [(1, .long (((dgF (fun c => sumN (fNeed g n4 c) n5) (dgG (dgD g) (dgG (dgR g n1 n4 n5) (dgG (dgS g n5) (dgF (manyN g n1 n5) 58124 9) n1) 6) n5) k1) * 31) + ((sumN (fNeed g n4 k1) n5).toInt64))), (3, .int (nI k1)), (0, .ref (ad 0))]) hx hb dX5_digest_153 rfl hl (by decide) rfl (fun ls hl => ?_)
            refine lv_iinc (v := nI (k1 + 1)) (lv' := [(3, .int (nI (k1 + 1))), (1, .long (((dgF (fun c => sumN (fNeed g n4 c) n5) (dgG (dgD g) (dgG (dgR g n1 n4 n5) (dgG (dgS g n5) (dgF (manyN g n1 n5) 58124 9) n1) 6) n5) k1) * 31) + ((sumN (fNeed g n4 k1) n5).toInt64))), (0, .ref (ad 0))]) hx hb dX5_digest_154 hl (k := 1) rfl (nI_add k1 1) (by decide) rfl (fun ls hl => ?_)
            refine lv_goto (tgt := 130) hx hb dX5_digest_157 (by decide) ?_
            exact ih_k1 () ls (by omega) (show lv_has ls 5 [(1, .long (dgF (fun c => sumN (fNeed g n4 c) n5) (dgG (dgD g) (dgG (dgR g n1 n4 n5) (dgG (dgS g n5) (dgF (manyN g n1 n5) 58124 9) n1) 6) n5) (k1 + 1))), (3, .int (nI (k1 + 1))), (0, .ref (ad 0))] from lv_sub hl [1, 0, 2] rfl)
        · have c_4 := zn_geF (a := q1) (b := n5) (by omega) (by omega) c_4
          refine lv_iconst (v := nI 0) hx hb dX5_digest_91 (by decide) ?_
          refine lv_istore (lv' := [(4, .int (nI 0)), (1, .long (dgG (dgD g) (dgG (dgR g n1 n4 n5) (dgG (dgS g n5) (dgF (manyN g n1 n5) 58124 9) n1) 6) q1)), (3, .int (nI q1)), (0, .ref (ad 0))]) hx hb dX5_digest_92 hl (by decide) rfl (fun ls hl => ?_)
          refine zloopP (τ := Unit) (fun w2 _ ls => lv_has ls 5 [(1, .long (dgF (ofReadN g q1) (dgG (dgD g) (dgG (dgR g n1 n4 n5) (dgG (dgS g n5) (dgF (manyN g n1 n5) 58124 9) n1) 6) q1) w2)), (4, .int (nI w2)), (3, .int (nI q1)), (0, .ref (ad 0))]) 12 ?_ 0 () ls (Nat.zero_le _) (lv_sub hl [1, 0, 2, 3] rfl)
          intro w2 _ ls hi_w2 hl ih_w2
          have hl : lv_has ls 5 [(1, .long (dgF (ofReadN g q1) (dgG (dgD g) (dgG (dgR g n1 n4 n5) (dgG (dgS g n5) (dgF (manyN g n1 n5) 58124 9) n1) 6) q1) w2)), (4, .int (nI w2)), (3, .int (nI q1)), (0, .ref (ad 0))] := hl
          refine lv_iload hx hb dX5_digest_94 (lv_at hl 1 rfl) ?_
          refine lv_bipush (v := nI 11) hx hb dX5_digest_96 (by decide) ?_
          refine lv_icmp_gt (tgt := 122) hx hb dX5_digest_98 (by decide) (fun c_7 => ?_) (fun c_7 => ?_)
          · have c_7 := zn_gtT (a := w2) (b := 11) (by omega) (by omega) c_7
            obtain rfl : w2 = 12 := by omega
            refine lv_iinc (v := nI (q1 + 1)) (lv' := [(3, .int (nI (q1 + 1))), (1, .long (dgF (ofReadN g q1) (dgG (dgD g) (dgG (dgR g n1 n4 n5) (dgG (dgS g n5) (dgF (manyN g n1 n5) 58124 9) n1) 6) q1) 12)), (4, .int (nI 12)), (0, .ref (ad 0))]) hx hb dX5_digest_122 hl (k := 2) rfl (nI_add q1 1) (by decide) rfl (fun ls hl => ?_)
            refine lv_goto (tgt := 80) hx hb dX5_digest_125 (by decide) ?_
            exact ih_q1 () ls (by omega) (show lv_has ls 5 [(1, .long (dgG (dgD g) (dgG (dgR g n1 n4 n5) (dgG (dgS g n5) (dgF (manyN g n1 n5) 58124 9) n1) 6) (q1 + 1))), (3, .int (nI (q1 + 1))), (0, .ref (ad 0))] from lv_sub hl [1, 0, 3] rfl)
          · have c_7 := zn_gtF (a := w2) (b := 11) (by omega) (by omega) c_7
            refine lv_lload_n hx hb dX5_digest_101 rfl (lv_at hl 0 rfl) ?_
            refine lv_ldc2 (v := 31) hx hb hown (hts (.constantLong RX5 339 (31)) (by decide +kernel)) dX5_digest_102 ?_
            refine lv_lmul hx hb dX5_digest_105 ?_
            refine lv_aload_n hx hb dX5_digest_106 rfl (lv_at hl 3 rfl) ?_
            refine lv_iload_n hx hb dX5_digest_107 rfl (lv_at hl 2 rfl) ?_
            refine lv_iload hx hb dX5_digest_108 (lv_at hl 1 rfl) ?_
            refine zcVi (As := [.int (nI q1), .int (nI w2)]) (rest := [.long ((dgF (ofReadN g q1) (dgG (dgD g) (dgG (dgR g n1 n4 n5) (dgG (dgS g n5) (dgF (manyN g n1 n5) 58124 9) n1) 6) q1) w2) * 31)]) ⟨hx, hb, hml, hown, hts⟩ (c_X5_ofRead l D ty g ad n1 n2 nL n4 n5 hI q1 w2 (by omega) (by omega)) (cwV 2 hts gX5_digest_X5_ofRead rfl rfl rfl (by decide +kernel) ⟨Nat.le_of_ble_eq_true rfl, Nat.le_of_ble_eq_true rfl⟩) zI_blind (zI_pre hP hK hN) (va_recv hK hP (ci := 5) (q0 := 0) rfl rfl) rfl hl.1 rfl (Nat.le_of_ble_eq_true rfl) dX5_digest_110 ⟨Nat.le_of_ble_eq_true rfl, Nat.le_of_ble_eq_true rfl⟩ (fun r_8 hr_8 => ?_)
            subst hr_8
            refine lv_i2l hx hb dX5_digest_113 rfl ?_
            refine lv_ladd hx hb dX5_digest_114 ?_
            refine lv_lstore_n (lv' := [(1, .long (((dgF (ofReadN g q1) (dgG (dgD g) (dgG (dgR g n1 n4 n5) (dgG (dgS g n5) (dgF (manyN g n1 n5) 58124 9) n1) 6) q1) w2) * 31) + ((ofReadN g q1 w2).toInt64))), (4, .int (nI w2)), (3, .int (nI q1)), (0, .ref (ad 0))]) hx hb dX5_digest_115 rfl hl (by decide) rfl (fun ls hl => ?_)
            refine lv_iinc (v := nI (w2 + 1)) (lv' := [(4, .int (nI (w2 + 1))), (1, .long (((dgF (ofReadN g q1) (dgG (dgD g) (dgG (dgR g n1 n4 n5) (dgG (dgS g n5) (dgF (manyN g n1 n5) 58124 9) n1) 6) q1) w2) * 31) + ((ofReadN g q1 w2).toInt64))), (3, .int (nI q1)), (0, .ref (ad 0))]) hx hb dX5_digest_116 hl (k := 1) rfl (nI_add w2 1) (by decide) rfl (fun ls hl => ?_)
            refine lv_goto (tgt := 94) hx hb dX5_digest_119 (by decide) ?_
            exact ih_w2 () ls (by omega) (show lv_has ls 5 [(1, .long (dgF (ofReadN g q1) (dgG (dgD g) (dgG (dgR g n1 n4 n5) (dgG (dgS g n5) (dgF (manyN g n1 n5) 58124 9) n1) 6) q1) (w2 + 1))), (4, .int (nI (w2 + 1))), (3, .int (nI q1)), (0, .ref (ad 0))] from lv_sub hl [1, 0, 2, 3] rfl)
      · have c_3 := zn_geF (a := r1) (b := 6) (by omega) (by omega) c_3
        refine lv_aload_n hx hb dX5_digest_65 rfl (lv_at hl 2 rfl) ?_
        refine lv_lload_n hx hb dX5_digest_66 rfl (lv_at hl 0 rfl) ?_
        refine lv_iload_n hx hb dX5_digest_67 rfl (lv_at hl 1 rfl) ?_
        refine zcVl (As := [.long (dgG (dgR g n1 n4 n5) (dgG (dgS g n5) (dgF (manyN g n1 n5) 58124 9) n1) r1), .int (nI r1)]) (rest := []) ⟨hx, hb, hml, hown, hts⟩ (c_X5_digestReader l D ty g ad n1 n2 nL n4 n5 hI (dgG (dgR g n1 n4 n5) (dgG (dgS g n5) (dgF (manyN g n1 n5) 58124 9) n1) r1) r1 (by omega)) (cwV 2 hts gX5_digest_X5_digestReader rfl rfl rfl (by decide +kernel) ⟨Nat.le_of_ble_eq_true rfl, Nat.le_of_ble_eq_true rfl⟩) zI_blind (zI_pre hP hK hN) (va_recv hK hP (ci := 5) (q0 := 0) rfl rfl) rfl hl.1 rfl (Nat.le_of_ble_eq_true rfl) dX5_digest_68 ⟨Nat.le_of_ble_eq_true rfl, Nat.le_of_ble_eq_true rfl⟩ (fun r_9 hr_9 => ?_)
        subst hr_9
        refine lv_lstore_n (lv' := [(1, .long (dgR g n1 n4 n5 r1 (dgG (dgR g n1 n4 n5) (dgG (dgS g n5) (dgF (manyN g n1 n5) 58124 9) n1) r1))), (3, .int (nI r1)), (0, .ref (ad 0))]) hx hb dX5_digest_71 rfl hl (by decide) rfl (fun ls hl => ?_)
        refine lv_iinc (v := nI (r1 + 1)) (lv' := [(3, .int (nI (r1 + 1))), (1, .long (dgR g n1 n4 n5 r1 (dgG (dgR g n1 n4 n5) (dgG (dgS g n5) (dgF (manyN g n1 n5) 58124 9) n1) r1))), (0, .ref (ad 0))]) hx hb dX5_digest_72 hl (k := 1) rfl (nI_add r1 1) (by decide) rfl (fun ls hl => ?_)
        refine lv_goto (tgt := 59) hx hb dX5_digest_75 (by decide) ?_
        exact ih_r1 () ls (by omega) (show lv_has ls 5 [(1, .long (dgG (dgR g n1 n4 n5) (dgG (dgS g n5) (dgF (manyN g n1 n5) 58124 9) n1) (r1 + 1))), (3, .int (nI (r1 + 1))), (0, .ref (ad 0))] from lv_sub hl [1, 0, 2] rfl)
    · have c_2 := zn_geF (a := i1) (b := n1) (by omega) (by omega) c_2
      refine lv_aload_n hx hb dX5_digest_44 rfl (lv_at hl 2 rfl) ?_
      refine lv_lload_n hx hb dX5_digest_45 rfl (lv_at hl 0 rfl) ?_
      refine lv_iload_n hx hb dX5_digest_46 rfl (lv_at hl 1 rfl) ?_
      refine zcVl (As := [.long (dgG (dgS g n5) (dgF (manyN g n1 n5) 58124 9) i1), .int (nI i1)]) (rest := []) ⟨hx, hb, hml, hown, hts⟩ (c_X5_digestSet l D ty g ad n1 n2 nL n4 n5 hI (dgG (dgS g n5) (dgF (manyN g n1 n5) 58124 9) i1) i1 (by omega)) (cwV 2 hts gX5_digest_X5_digestSet rfl rfl rfl (by decide +kernel) ⟨Nat.le_of_ble_eq_true rfl, Nat.le_of_ble_eq_true rfl⟩) zI_blind (zI_pre hP hK hN) (va_recv hK hP (ci := 5) (q0 := 0) rfl rfl) rfl hl.1 rfl (Nat.le_of_ble_eq_true rfl) dX5_digest_47 ⟨Nat.le_of_ble_eq_true rfl, Nat.le_of_ble_eq_true rfl⟩ (fun r_10 hr_10 => ?_)
      subst hr_10
      refine lv_lstore_n (lv' := [(1, .long (dgS g n5 i1 (dgG (dgS g n5) (dgF (manyN g n1 n5) 58124 9) i1))), (3, .int (nI i1)), (0, .ref (ad 0))]) hx hb dX5_digest_50 rfl hl (by decide) rfl (fun ls hl => ?_)
      refine lv_iinc (v := nI (i1 + 1)) (lv' := [(3, .int (nI (i1 + 1))), (1, .long (dgS g n5 i1 (dgG (dgS g n5) (dgF (manyN g n1 n5) 58124 9) i1))), (0, .ref (ad 0))]) hx hb dX5_digest_51 hl (k := 1) rfl (nI_add i1 1) (by decide) rfl (fun ls hl => ?_)
      refine lv_goto (tgt := 33) hx hb dX5_digest_54 (by decide) ?_
      exact ih_i1 () ls (by omega) (show lv_has ls 5 [(1, .long (dgG (dgS g n5) (dgF (manyN g n1 n5) 58124 9) (i1 + 1))), (3, .int (nI (i1 + 1))), (0, .ref (ad 0))] from lv_sub hl [1, 0, 2] rfl)
  · have c_1 := zn_gtF (a := w1) (b := 8) (by omega) (by omega) c_1
    refine lv_lload_n hx hb dX5_digest_12 rfl (lv_at hl 0 rfl) ?_
    refine lv_ldc2 (v := 31) hx hb hown (hts (.constantLong RX5 339 (31)) (by decide +kernel)) dX5_digest_13 ?_
    refine lv_lmul hx hb dX5_digest_16 ?_
    refine lv_aload_n hx hb dX5_digest_17 rfl (lv_at hl 2 rfl) ?_
    refine lv_iload_n hx hb dX5_digest_18 rfl (lv_at hl 1 rfl) ?_
    refine zcVi (As := [.int (nI w1)]) (rest := [.long ((dgF (manyN g n1 n5) 58124 w1) * 31)]) ⟨hx, hb, hml, hown, hts⟩ (c_X5_many l D ty g ad n1 n2 nL n4 n5 hI w1 (by omega)) (cwV 1 hts gX5_digest_X5_many rfl rfl rfl (by decide +kernel) ⟨Nat.le_of_ble_eq_true rfl, Nat.le_of_ble_eq_true rfl⟩) zI_blind (zI_pre hP hK hN) (va_recv hK hP (ci := 5) (q0 := 0) rfl rfl) rfl hl.1 rfl (Nat.le_of_ble_eq_true rfl) dX5_digest_19 ⟨Nat.le_of_ble_eq_true rfl, Nat.le_of_ble_eq_true rfl⟩ (fun r_11 hr_11 => ?_)
    subst hr_11
    refine lv_i2l hx hb dX5_digest_22 rfl ?_
    refine lv_ladd hx hb dX5_digest_23 ?_
    refine lv_lstore_n (lv' := [(1, .long (((dgF (manyN g n1 n5) 58124 w1) * 31) + ((manyN g n1 n5 w1).toInt64))), (3, .int (nI w1)), (0, .ref (ad 0))]) hx hb dX5_digest_24 rfl hl (by decide) rfl (fun ls hl => ?_)
    refine lv_iinc (v := nI (w1 + 1)) (lv' := [(3, .int (nI (w1 + 1))), (1, .long (((dgF (manyN g n1 n5) 58124 w1) * 31) + ((manyN g n1 n5 w1).toInt64))), (0, .ref (ad 0))]) hx hb dX5_digest_25 hl (k := 1) rfl (nI_add w1 1) (by decide) rfl (fun ls hl => ?_)
    refine lv_goto (tgt := 6) hx hb dX5_digest_28 (by decide) ?_
    exact ih_w1 () ls (by omega) (show lv_has ls 5 [(1, .long (dgF (manyN g n1 n5) 58124 (w1 + 1))), (3, .int (nI (w1 + 1))), (0, .ref (ad 0))] from lv_sub hl [1, 0, 2] rfl)
