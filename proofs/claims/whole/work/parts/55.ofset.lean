set_option maxHeartbeats 400000 in
set_option maxRecDepth 100000 in
theorem c_X12_ofSetNow_0 (l : Launch) (D : va_G) (ty : Nat → ClassId) (A : Nat → Prop) (u : Nat → Nat → Prop) (C : Nat → Nat → va_E) (ma : Nat → Nat → Nat) (t0 mi : Nat) (g : Nat → Nat → Int32) (n1 n2 nL n4 n5 : Nat) (th : Int32) (rep bro : Nat → Nat → Int32) (hR : mR ty t0 g n1 n2 nL n4 n5 th rep bro u C ma) (ah : Nat) (i : Nat) (hi : i < n1) : Met l yX12_ofSetNow wsX12_ofSetNow ({ frames := 6, cells := 0, slots := 0, locals := 200 }) (va_Pc [.ref (ma 0 0), .ref ah, .int (nI i), .int (nI 0)] (mIh D ty A u C ma t0 mi ah (g 21))) (vp_Si (fun v_ => v_ = ofSetN g n5 i 0)) 0 0 (fun _ => False) := by
  refine zMet (cc := cX12_ofSetNow) (maxL := 8) (ret := (some .int)) (by decide) rfl (Nat.le_of_ble_eq_true rfl) ?_
  intro p e s m below meth c hx hb hr hts hown hlocks hml hB ls hl
  obtain ⟨⟨hM, hK, hMS⟩, ⟨hmb, hmd, hA⟩⟩ := hB
  have hS : va_S A s.heap s.heap [] := va_S.rf
  have hbn := hR.I.b1
  have hbs := hR.I.b2
  have hbl := hR.I.bL
  have hbc := hR.I.b4
  have hbr := hR.I.b5
  have hl : lv_has ls 8 [(0, .ref (ma 0 0)), (1, .ref ah), (2, .int (nI i)), (3, .int (nI 0))] := hl
  have hinX12 : ∀ w ∈ wsX120, w ∈ wsX12_ofSetNow := by decide +kernel
  have hk1 := hts (.fieldLink RX12 10 "DatamarketDeskModel" "sets" "Ljava/util/ArrayList;") (by decide +kernel)
  have hk2 := hts (.classLink RX12 49 "DatamarketDeskModel$DataSet") (by decide +kernel)
  have hinX7 : ∀ w ∈ wsX70, w ∈ wsX12_ofSetNow := by decide +kernel
  have hk4 := hts (.fieldLink RX12 51 "DatamarketDeskModel$DataSet" "fields" "I") (by decide +kernel)
  refine lv_aload_n hx hb dX12_ofSetNow_0 rfl (lv_at hl 0 rfl) ?_
  refine va_get hx hb hts hinX12 hown hK (hM.Pa hR.o.1 rfl hR.o.2) 0 rfl rfl 1 (by decide) (hk1) (fun _ h9 => h9) rfl dX12_ofSetNow_1 ?_
  refine lv_iload_n hx hb dX12_ofSetNow_4 rfl (lv_at hl 2 rfl) ?_
  obtain ⟨huz_1, hnz_1, mz_1, bz_1, hCz_1⟩ := isL.hd hR.l1
  refine zcVr (x := .ref (ma 9 i)) (As := [.int (nI i)]) (rest := []) ⟨hx, hb, hml, hown, hts⟩ (c_get l D ty A u C ma t0 mi 1 0 n1 (ma 9) hR.l1 i (by omega)) (cwV 1 hts gX12_ofSetNow_Jx4a65c_get_915e3 rfl rfl rfl (by decide +kernel) ⟨Nat.le_of_ble_eq_true rfl, Nat.le_of_ble_eq_true rfl⟩) mI_blind (mI_pre hM hK hMS hS) (va_recv hK (hM.Pa huz_1 rfl hCz_1) (ci := 0) (q0 := 0) rfl rfl) rfl hl.1 rfl (Nat.le_of_ble_eq_true rfl) dX12_ofSetNow_5 ⟨Nat.le_of_ble_eq_true rfl, Nat.le_of_ble_eq_true rfl⟩ ?_
  refine va_castS hx hb hown (hk2) ((hK.1 8 _ rfl).2) (va_recv hK (hM.Pa (hR.s9 (i := i) (by omega)).1 rfl (hR.s9 (i := i) (by omega)).2) (ci := 8) (q0 := 0) rfl rfl) dX12_ofSetNow_8 ?_
  refine lv_astore (lv' := [(4, .ref (ma 9 i)), (0, .ref (ma 0 0)), (1, .ref ah), (2, .int (nI i)), (3, .int (nI 0))]) hx hb dX12_ofSetNow_11 hl (by decide) rfl (fun ls hl => ?_)
  refine lv_iload_n hx hb dX12_ofSetNow_13 rfl (lv_at hl 4 rfl) ?_
  refine lv_if_ne (tgt := 23) hx hb dX12_ofSetNow_14 (by decide) (fun c_3 => ?_) (fun c_3 => ?_)
  · have c_3 := zq_neT (x := 0) (by omega) c_3
    omega
  · have c_3 := zq_neF (x := 0) (by omega) c_3
    refine lv_aload hx hb dX12_ofSetNow_17 (lv_at hl 0 rfl) ?_
    refine va_get hx hb hts hinX7 hown hK (hM.Pa (hR.s9 (i := i) (by omega)).1 rfl (hR.s9 (i := i) (by omega)).2) 0 rfl rfl 0 (by decide) (hk4) (fun _ h9 => h9) rfl dX12_ofSetNow_19 ?_
    exact W.iret (v := g 7 i) hx hb hr (fun t ht hW => ⟨_, rfl, rfl, ht⟩) (fun _ h => nomatch h) dX12_ofSetNow_22
set_option maxHeartbeats 400000 in
set_option maxRecDepth 100000 in
theorem c_X12_ofSetNow_1 (l : Launch) (D : va_G) (ty : Nat → ClassId) (A : Nat → Prop) (u : Nat → Nat → Prop) (C : Nat → Nat → va_E) (ma : Nat → Nat → Nat) (t0 mi : Nat) (g : Nat → Nat → Int32) (n1 n2 nL n4 n5 : Nat) (th : Int32) (rep bro : Nat → Nat → Int32) (hR : mR ty t0 g n1 n2 nL n4 n5 th rep bro u C ma) (ah : Nat) (i : Nat) (hi : i < n1) : Met l yX12_ofSetNow wsX12_ofSetNow ({ frames := 6, cells := 0, slots := 0, locals := 200 }) (va_Pc [.ref (ma 0 0), .ref ah, .int (nI i), .int (nI 1)] (mIh D ty A u C ma t0 mi ah (g 21))) (vp_Si (fun v_ => v_ = ofSetN g n5 i 1)) 0 0 (fun _ => False) := by
  refine zMet (cc := cX12_ofSetNow) (maxL := 8) (ret := (some .int)) (by decide) rfl (Nat.le_of_ble_eq_true rfl) ?_
  intro p e s m below meth c hx hb hr hts hown hlocks hml hB ls hl
  obtain ⟨⟨hM, hK, hMS⟩, ⟨hmb, hmd, hA⟩⟩ := hB
  have hS : va_S A s.heap s.heap [] := va_S.rf
  have hbn := hR.I.b1
  have hbs := hR.I.b2
  have hbl := hR.I.bL
  have hbc := hR.I.b4
  have hbr := hR.I.b5
  have hl : lv_has ls 8 [(0, .ref (ma 0 0)), (1, .ref ah), (2, .int (nI i)), (3, .int (nI 1))] := hl
  have hinX12 : ∀ w ∈ wsX120, w ∈ wsX12_ofSetNow := by decide +kernel
  have hk1 := hts (.fieldLink RX12 10 "DatamarketDeskModel" "sets" "Ljava/util/ArrayList;") (by decide +kernel)
  have hk2 := hts (.classLink RX12 49 "DatamarketDeskModel$DataSet") (by decide +kernel)
  have hinX7 : ∀ w ∈ wsX70, w ∈ wsX12_ofSetNow := by decide +kernel
  have hk4 := hts (.fieldLink RX12 69 "DatamarketDeskModel$DataSet" "versions" "Ljava/util/ArrayList;") (by decide +kernel)
  refine lv_aload_n hx hb dX12_ofSetNow_0 rfl (lv_at hl 0 rfl) ?_
  refine va_get hx hb hts hinX12 hown hK (hM.Pa hR.o.1 rfl hR.o.2) 0 rfl rfl 1 (by decide) (hk1) (fun _ h9 => h9) rfl dX12_ofSetNow_1 ?_
  refine lv_iload_n hx hb dX12_ofSetNow_4 rfl (lv_at hl 2 rfl) ?_
  obtain ⟨huz_1, hnz_1, mz_1, bz_1, hCz_1⟩ := isL.hd hR.l1
  refine zcVr (x := .ref (ma 9 i)) (As := [.int (nI i)]) (rest := []) ⟨hx, hb, hml, hown, hts⟩ (c_get l D ty A u C ma t0 mi 1 0 n1 (ma 9) hR.l1 i (by omega)) (cwV 1 hts gX12_ofSetNow_Jx4a65c_get_915e3 rfl rfl rfl (by decide +kernel) ⟨Nat.le_of_ble_eq_true rfl, Nat.le_of_ble_eq_true rfl⟩) mI_blind (mI_pre hM hK hMS hS) (va_recv hK (hM.Pa huz_1 rfl hCz_1) (ci := 0) (q0 := 0) rfl rfl) rfl hl.1 rfl (Nat.le_of_ble_eq_true rfl) dX12_ofSetNow_5 ⟨Nat.le_of_ble_eq_true rfl, Nat.le_of_ble_eq_true rfl⟩ ?_
  refine va_castS hx hb hown (hk2) ((hK.1 8 _ rfl).2) (va_recv hK (hM.Pa (hR.s9 (i := i) (by omega)).1 rfl (hR.s9 (i := i) (by omega)).2) (ci := 8) (q0 := 0) rfl rfl) dX12_ofSetNow_8 ?_
  refine lv_astore (lv' := [(4, .ref (ma 9 i)), (0, .ref (ma 0 0)), (1, .ref ah), (2, .int (nI i)), (3, .int (nI 1))]) hx hb dX12_ofSetNow_11 hl (by decide) rfl (fun ls hl => ?_)
  refine lv_iload_n hx hb dX12_ofSetNow_13 rfl (lv_at hl 4 rfl) ?_
  refine lv_if_ne (tgt := 23) hx hb dX12_ofSetNow_14 (by decide) (fun c_3 => ?_) (fun c_3 => ?_)
  · have c_3 := zq_neT (x := 1) (by omega) c_3
    refine lv_iload_n hx hb dX12_ofSetNow_23 rfl (lv_at hl 4 rfl) ?_
    refine lv_iconst (v := nI 1) hx hb dX12_ofSetNow_24 (by decide) ?_
    refine lv_icmp_ne (tgt := 37) hx hb dX12_ofSetNow_25 (by decide) (fun c_4 => ?_) (fun c_4 => ?_)
    · have c_4 := zn_neT (a := 1) (b := 1) (by omega) (by omega) c_4
      omega
    · have c_4 := zn_neF (a := 1) (b := 1) (by omega) (by omega) c_4
      refine lv_aload hx hb dX12_ofSetNow_28 (lv_at hl 0 rfl) ?_
      refine va_get hx hb hts hinX7 hown hK (hM.Pa (hR.s9 (i := i) (by omega)).1 rfl (hR.s9 (i := i) (by omega)).2) 0 rfl rfl 3 (by decide) (hk4) (fun _ h9 => h9) rfl dX12_ofSetNow_30 ?_
      obtain ⟨huz_5, hnz_5, mz_5, bz_5, hCz_5⟩ := isL.hd (hR.s12 (i := i) (by omega))
      refine zcVi (As := []) (rest := []) ⟨hx, hb, hml, hown, hts⟩ (c_size l D ty A u C ma t0 mi 12 i (nV g i) (fun v => ma 15 (i * 6 + v)) (hR.s12 (i := i) (by omega))) (cwV 0 hts gX12_ofSetNow_Jx4a65c_size_8abf5 rfl rfl rfl (by decide +kernel) ⟨Nat.le_of_ble_eq_true rfl, Nat.le_of_ble_eq_true rfl⟩) mI_blind (mI_pre hM hK hMS hS) (va_recv hK (hM.Pa huz_5 rfl hCz_5) (ci := 0) (q0 := 0) rfl rfl) rfl hl.1 rfl (Nat.le_of_ble_eq_true rfl) dX12_ofSetNow_33 ⟨Nat.le_of_ble_eq_true rfl, Nat.le_of_ble_eq_true rfl⟩ (fun r_6 hr_6 => ?_)
      subst hr_6
      exact W.iret (v := nI (nV g i)) hx hb hr (fun t ht hW => ⟨_, rfl, (hR.I.v7 hi).1.symm, ht⟩) (fun _ h => nomatch h) dX12_ofSetNow_36
  · have c_3 := zq_neF (x := 1) (by omega) c_3
    omega
set_option maxHeartbeats 400000 in
set_option maxRecDepth 100000 in
theorem c_X12_ofSetNow_2 (l : Launch) (D : va_G) (ty : Nat → ClassId) (A : Nat → Prop) (u : Nat → Nat → Prop) (C : Nat → Nat → va_E) (ma : Nat → Nat → Nat) (t0 mi : Nat) (g : Nat → Nat → Int32) (n1 n2 nL n4 n5 : Nat) (th : Int32) (rep bro : Nat → Nat → Int32) (hR : mR ty t0 g n1 n2 nL n4 n5 th rep bro u C ma) (ah : Nat) (i : Nat) (hi : i < n1) : Met l yX12_ofSetNow wsX12_ofSetNow ({ frames := 6, cells := 0, slots := 0, locals := 200 }) (va_Pc [.ref (ma 0 0), .ref ah, .int (nI i), .int (nI 2)] (mIh D ty A u C ma t0 mi ah (g 21))) (vp_Si (fun v_ => v_ = ofSetN g n5 i 2)) 0 0 (fun _ => False) := by
  refine zMet (cc := cX12_ofSetNow) (maxL := 8) (ret := (some .int)) (by decide) rfl (Nat.le_of_ble_eq_true rfl) ?_
  intro p e s m below meth c hx hb hr hts hown hlocks hml hB ls hl
  obtain ⟨⟨hM, hK, hMS⟩, ⟨hmb, hmd, hA⟩⟩ := hB
  have hS : va_S A s.heap s.heap [] := va_S.rf
  have hbn := hR.I.b1
  have hbs := hR.I.b2
  have hbl := hR.I.bL
  have hbc := hR.I.b4
  have hbr := hR.I.b5
  have hl : lv_has ls 8 [(0, .ref (ma 0 0)), (1, .ref ah), (2, .int (nI i)), (3, .int (nI 2))] := hl
  have hinX12 : ∀ w ∈ wsX120, w ∈ wsX12_ofSetNow := by decide +kernel
  have hk1 := hts (.fieldLink RX12 10 "DatamarketDeskModel" "sets" "Ljava/util/ArrayList;") (by decide +kernel)
  have hk2 := hts (.classLink RX12 49 "DatamarketDeskModel$DataSet") (by decide +kernel)
  refine lv_aload_n hx hb dX12_ofSetNow_0 rfl (lv_at hl 0 rfl) ?_
  refine va_get hx hb hts hinX12 hown hK (hM.Pa hR.o.1 rfl hR.o.2) 0 rfl rfl 1 (by decide) (hk1) (fun _ h9 => h9) rfl dX12_ofSetNow_1 ?_
  refine lv_iload_n hx hb dX12_ofSetNow_4 rfl (lv_at hl 2 rfl) ?_
  obtain ⟨huz_1, hnz_1, mz_1, bz_1, hCz_1⟩ := isL.hd hR.l1
  refine zcVr (x := .ref (ma 9 i)) (As := [.int (nI i)]) (rest := []) ⟨hx, hb, hml, hown, hts⟩ (c_get l D ty A u C ma t0 mi 1 0 n1 (ma 9) hR.l1 i (by omega)) (cwV 1 hts gX12_ofSetNow_Jx4a65c_get_915e3 rfl rfl rfl (by decide +kernel) ⟨Nat.le_of_ble_eq_true rfl, Nat.le_of_ble_eq_true rfl⟩) mI_blind (mI_pre hM hK hMS hS) (va_recv hK (hM.Pa huz_1 rfl hCz_1) (ci := 0) (q0 := 0) rfl rfl) rfl hl.1 rfl (Nat.le_of_ble_eq_true rfl) dX12_ofSetNow_5 ⟨Nat.le_of_ble_eq_true rfl, Nat.le_of_ble_eq_true rfl⟩ ?_
  refine va_castS hx hb hown (hk2) ((hK.1 8 _ rfl).2) (va_recv hK (hM.Pa (hR.s9 (i := i) (by omega)).1 rfl (hR.s9 (i := i) (by omega)).2) (ci := 8) (q0 := 0) rfl rfl) dX12_ofSetNow_8 ?_
  refine lv_astore (lv' := [(4, .ref (ma 9 i)), (0, .ref (ma 0 0)), (1, .ref ah), (2, .int (nI i)), (3, .int (nI 2))]) hx hb dX12_ofSetNow_11 hl (by decide) rfl (fun ls hl => ?_)
  refine lv_iload_n hx hb dX12_ofSetNow_13 rfl (lv_at hl 4 rfl) ?_
  refine lv_if_ne (tgt := 23) hx hb dX12_ofSetNow_14 (by decide) (fun c_3 => ?_) (fun c_3 => ?_)
  · have c_3 := zq_neT (x := 2) (by omega) c_3
    refine lv_iload_n hx hb dX12_ofSetNow_23 rfl (lv_at hl 4 rfl) ?_
    refine lv_iconst (v := nI 1) hx hb dX12_ofSetNow_24 (by decide) ?_
    refine lv_icmp_ne (tgt := 37) hx hb dX12_ofSetNow_25 (by decide) (fun c_4 => ?_) (fun c_4 => ?_)
    · have c_4 := zn_neT (a := 2) (b := 1) (by omega) (by omega) c_4
      refine lv_iload_n hx hb dX12_ofSetNow_37 rfl (lv_at hl 4 rfl) ?_
      refine lv_iconst (v := nI 2) hx hb dX12_ofSetNow_38 (by decide) ?_
      refine lv_icmp_ne (tgt := 48) hx hb dX12_ofSetNow_39 (by decide) (fun c_5 => ?_) (fun c_5 => ?_)
      · have c_5 := zn_neT (a := 2) (b := 2) (by omega) (by omega) c_5
        omega
      · have c_5 := zn_neF (a := 2) (b := 2) (by omega) (by omega) c_5
        refine lv_aload hx hb dX12_ofSetNow_42 (lv_at hl 0 rfl) ?_
        refine zcVi (As := []) (rest := []) ⟨hx, hb, hml, hown, hts⟩ (c_X7_rows l D ty A u C ma t0 mi g n1 n2 nL n4 n5 th rep bro hR i (by omega)) (cwV 0 hts gX12_ofSetNow_X7_rows rfl rfl rfl (by decide +kernel) ⟨Nat.le_of_ble_eq_true rfl, Nat.le_of_ble_eq_true rfl⟩) mI_blind (mI_pre hM hK hMS hS) (va_recv hK (hM.Pa (hR.s9 (i := i) (by omega)).1 rfl (hR.s9 (i := i) (by omega)).2) (ci := 8) (q0 := 0) rfl rfl) rfl hl.1 rfl (Nat.le_of_ble_eq_true rfl) dX12_ofSetNow_44 ⟨Nat.le_of_ble_eq_true rfl, Nat.le_of_ble_eq_true rfl⟩ (fun r_6 hr_6 => ?_)
        subst hr_6
        exact W.iret (v := rowsL g i) hx hb hr (fun t ht hW => ⟨_, rfl, rfl, ht⟩) (fun _ h => nomatch h) dX12_ofSetNow_47
    · have c_4 := zn_neF (a := 2) (b := 1) (by omega) (by omega) c_4
      omega
  · have c_3 := zq_neF (x := 2) (by omega) c_3
    omega
set_option maxHeartbeats 400000 in
set_option maxRecDepth 100000 in
theorem c_X12_ofSetNow_3 (l : Launch) (D : va_G) (ty : Nat → ClassId) (A : Nat → Prop) (u : Nat → Nat → Prop) (C : Nat → Nat → va_E) (ma : Nat → Nat → Nat) (t0 mi : Nat) (g : Nat → Nat → Int32) (n1 n2 nL n4 n5 : Nat) (th : Int32) (rep bro : Nat → Nat → Int32) (hR : mR ty t0 g n1 n2 nL n4 n5 th rep bro u C ma) (ah : Nat) (i : Nat) (hi : i < n1) : Met l yX12_ofSetNow wsX12_ofSetNow ({ frames := 6, cells := 0, slots := 0, locals := 200 }) (va_Pc [.ref (ma 0 0), .ref ah, .int (nI i), .int (nI 3)] (mIh D ty A u C ma t0 mi ah (g 21))) (vp_Si (fun v_ => v_ = ofSetN g n5 i 3)) 0 0 (fun _ => False) := by
  refine zMet (cc := cX12_ofSetNow) (maxL := 8) (ret := (some .int)) (by decide) rfl (Nat.le_of_ble_eq_true rfl) ?_
  intro p e s m below meth c hx hb hr hts hown hlocks hml hB ls hl
  obtain ⟨⟨hM, hK, hMS⟩, ⟨hmb, hmd, hA⟩⟩ := hB
  have hS : va_S A s.heap s.heap [] := va_S.rf
  have hbn := hR.I.b1
  have hbs := hR.I.b2
  have hbl := hR.I.bL
  have hbc := hR.I.b4
  have hbr := hR.I.b5
  have hf7 := (hR.I.f7 hi).2.2
  have hv7 := (hR.I.v7 hi).2
  have hl : lv_has ls 8 [(0, .ref (ma 0 0)), (1, .ref ah), (2, .int (nI i)), (3, .int (nI 3))] := hl
  have hinX12 : ∀ w ∈ wsX120, w ∈ wsX12_ofSetNow := by decide +kernel
  have hk1 := hts (.fieldLink RX12 10 "DatamarketDeskModel" "sets" "Ljava/util/ArrayList;") (by decide +kernel)
  have hk2 := hts (.classLink RX12 49 "DatamarketDeskModel$DataSet") (by decide +kernel)
  have hinX7 : ∀ w ∈ wsX70, w ∈ wsX12_ofSetNow := by decide +kernel
  have hk4 := hts (.fieldLink RX12 69 "DatamarketDeskModel$DataSet" "versions" "Ljava/util/ArrayList;") (by decide +kernel)
  have hk5 := hts (.fieldLink RX12 51 "DatamarketDeskModel$DataSet" "fields" "I") (by decide +kernel)
  rcases Nat.eq_zero_or_pos (nV g i) with hv0 | hv0
  · refine lv_aload_n hx hb dX12_ofSetNow_0 rfl (lv_at hl 0 rfl) ?_
    refine va_get hx hb hts hinX12 hown hK (hM.Pa hR.o.1 rfl hR.o.2) 0 rfl rfl 1 (by decide) (hk1) (fun _ h9 => h9) rfl dX12_ofSetNow_1 ?_
    refine lv_iload_n hx hb dX12_ofSetNow_4 rfl (lv_at hl 2 rfl) ?_
    obtain ⟨huz_1, hnz_1, mz_1, bz_1, hCz_1⟩ := isL.hd hR.l1
    refine zcVr (x := .ref (ma 9 i)) (As := [.int (nI i)]) (rest := []) ⟨hx, hb, hml, hown, hts⟩ (c_get l D ty A u C ma t0 mi 1 0 n1 (ma 9) hR.l1 i (by omega)) (cwV 1 hts gX12_ofSetNow_Jx4a65c_get_915e3 rfl rfl rfl (by decide +kernel) ⟨Nat.le_of_ble_eq_true rfl, Nat.le_of_ble_eq_true rfl⟩) mI_blind (mI_pre hM hK hMS hS) (va_recv hK (hM.Pa huz_1 rfl hCz_1) (ci := 0) (q0 := 0) rfl rfl) rfl hl.1 rfl (Nat.le_of_ble_eq_true rfl) dX12_ofSetNow_5 ⟨Nat.le_of_ble_eq_true rfl, Nat.le_of_ble_eq_true rfl⟩ ?_
    refine va_castS hx hb hown (hk2) ((hK.1 8 _ rfl).2) (va_recv hK (hM.Pa (hR.s9 (i := i) (by omega)).1 rfl (hR.s9 (i := i) (by omega)).2) (ci := 8) (q0 := 0) rfl rfl) dX12_ofSetNow_8 ?_
    refine lv_astore (lv' := [(4, .ref (ma 9 i)), (0, .ref (ma 0 0)), (1, .ref ah), (2, .int (nI i)), (3, .int (nI 3))]) hx hb dX12_ofSetNow_11 hl (by decide) rfl (fun ls hl => ?_)
    refine lv_iload_n hx hb dX12_ofSetNow_13 rfl (lv_at hl 4 rfl) ?_
    refine lv_if_ne (tgt := 23) hx hb dX12_ofSetNow_14 (by decide) (fun c_3 => ?_) (fun c_3 => ?_)
    · have c_3 := zq_neT (x := 3) (by omega) c_3
      refine lv_iload_n hx hb dX12_ofSetNow_23 rfl (lv_at hl 4 rfl) ?_
      refine lv_iconst (v := nI 1) hx hb dX12_ofSetNow_24 (by decide) ?_
      refine lv_icmp_ne (tgt := 37) hx hb dX12_ofSetNow_25 (by decide) (fun c_4 => ?_) (fun c_4 => ?_)
      · have c_4 := zn_neT (a := 3) (b := 1) (by omega) (by omega) c_4
        refine lv_iload_n hx hb dX12_ofSetNow_37 rfl (lv_at hl 4 rfl) ?_
        refine lv_iconst (v := nI 2) hx hb dX12_ofSetNow_38 (by decide) ?_
        refine lv_icmp_ne (tgt := 48) hx hb dX12_ofSetNow_39 (by decide) (fun c_5 => ?_) (fun c_5 => ?_)
        · have c_5 := zn_neT (a := 3) (b := 2) (by omega) (by omega) c_5
          refine lv_iconst (v := nI 0) hx hb dX12_ofSetNow_48 (by decide) ?_
          refine lv_istore (lv' := [(5, .int (nI 0)), (4, .ref (ma 9 i)), (0, .ref (ma 0 0)), (1, .ref ah), (2, .int (nI i)), (3, .int (nI 3))]) hx hb dX12_ofSetNow_49 hl (by decide) rfl (fun ls hl => ?_)
          refine lv_iload_n hx hb dX12_ofSetNow_51 rfl (lv_at hl 5 rfl) ?_
          refine lv_iconst (v := nI 3) hx hb dX12_ofSetNow_52 (by decide) ?_
          refine lv_icmp_ne (tgt := 114) hx hb dX12_ofSetNow_53 (by decide) (fun c_6 => ?_) (fun c_6 => ?_)
          · have c_6 := zn_neT (a := 3) (b := 3) (by omega) (by omega) c_6
            omega
          · have c_6 := zn_neF (a := 3) (b := 3) (by omega) (by omega) c_6
            refine lv_iconst (v := nI 0) hx hb dX12_ofSetNow_56 (by decide) ?_
            refine lv_istore (lv' := [(6, .int (nI 0)), (5, .int (nI 0)), (4, .ref (ma 9 i)), (0, .ref (ma 0 0)), (1, .ref ah), (2, .int (nI i)), (3, .int (nI 3))]) hx hb dX12_ofSetNow_57 hl (by decide) rfl (fun ls hl => ?_)
            refine zloopP (τ := Unit) (fun k _ ls => lv_has ls 8 [(5, .int (sumN (hfF g i) k)), (6, .int (nI k)), (4, .ref (ma 9 i)), (0, .ref (ma 0 0)), (1, .ref ah), (2, .int (nI i)), (3, .int (nI 3))]) 0 ?_ 0 () ls (Nat.zero_le _) (lv_sub hl [1, 0, 2, 3, 4, 5, 6] rfl)
            intro k _ ls hi_k hl ih_k
            have hl : lv_has ls 8 [(5, .int (sumN (hfF g i) k)), (6, .int (nI k)), (4, .ref (ma 9 i)), (0, .ref (ma 0 0)), (1, .ref ah), (2, .int (nI i)), (3, .int (nI 3))] := hl
            refine lv_aload hx hb dX12_ofSetNow_59 (lv_at hl 2 rfl) ?_
            refine va_get hx hb hts hinX7 hown hK (hM.Pa (hR.s9 (i := i) (by omega)).1 rfl (hR.s9 (i := i) (by omega)).2) 0 rfl rfl 3 (by decide) (hk4) (fun _ h9 => h9) rfl dX12_ofSetNow_61 ?_
            obtain ⟨huz_7, hnz_7, mz_7, bz_7, hCz_7⟩ := isL.hd (hR.s12 (i := i) (by omega))
            refine zcVi (As := []) (rest := []) ⟨hx, hb, hml, hown, hts⟩ (c_isEmpty l D ty A u C ma t0 mi 12 i (nV g i) (fun v => ma 15 (i * 6 + v)) (hR.s12 (i := i) (by omega))) (cwV 0 hts gX12_ofSetNow_Jx4a65c_isEmpty_aae02 rfl rfl rfl (by decide +kernel) ⟨Nat.le_of_ble_eq_true rfl, Nat.le_of_ble_eq_true rfl⟩) mI_blind (mI_pre hM hK hMS hS) (va_recv hK (hM.Pa huz_7 rfl hCz_7) (ci := 0) (q0 := 0) rfl rfl) rfl hl.1 rfl (Nat.le_of_ble_eq_true rfl) dX12_ofSetNow_64 ⟨Nat.le_of_ble_eq_true rfl, Nat.le_of_ble_eq_true rfl⟩ (fun r_8 hr_8 => ?_)
            subst hr_8
            refine lv_if_ne (tgt := 111) hx hb dX12_ofSetNow_67 (by decide) (fun c_9 => ?_) (fun c_9 => ?_)
            · have c_9 := bI_t c_9
              obtain rfl : k = 0 := by omega
              refine lv_iload hx hb dX12_ofSetNow_111 (lv_at hl 0 rfl) ?_
              exact W.iret (v := sumN (hfF g i) 0) hx hb hr (fun t ht hW => ⟨_, rfl, (by show _ = harmedN g i; unfold harmedN; rw [if_pos hv0]; rfl), ht⟩) (fun _ h => nomatch h) dX12_ofSetNow_113
            · have c_9 := bI_f c_9
              exact absurd hv0 (of_decide_eq_false c_9)
        · have c_5 := zn_neF (a := 3) (b := 2) (by omega) (by omega) c_5
          omega
      · have c_4 := zn_neF (a := 3) (b := 1) (by omega) (by omega) c_4
        omega
    · have c_3 := zq_neF (x := 3) (by omega) c_3
      omega
  · refine lv_aload_n hx hb dX12_ofSetNow_0 rfl (lv_at hl 0 rfl) ?_
    refine va_get hx hb hts hinX12 hown hK (hM.Pa hR.o.1 rfl hR.o.2) 0 rfl rfl 1 (by decide) (hk1) (fun _ h9 => h9) rfl dX12_ofSetNow_1 ?_
    refine lv_iload_n hx hb dX12_ofSetNow_4 rfl (lv_at hl 2 rfl) ?_
    obtain ⟨huz_10, hnz_10, mz_10, bz_10, hCz_10⟩ := isL.hd hR.l1
    refine zcVr (x := .ref (ma 9 i)) (As := [.int (nI i)]) (rest := []) ⟨hx, hb, hml, hown, hts⟩ (c_get l D ty A u C ma t0 mi 1 0 n1 (ma 9) hR.l1 i (by omega)) (cwV 1 hts gX12_ofSetNow_Jx4a65c_get_915e3 rfl rfl rfl (by decide +kernel) ⟨Nat.le_of_ble_eq_true rfl, Nat.le_of_ble_eq_true rfl⟩) mI_blind (mI_pre hM hK hMS hS) (va_recv hK (hM.Pa huz_10 rfl hCz_10) (ci := 0) (q0 := 0) rfl rfl) rfl hl.1 rfl (Nat.le_of_ble_eq_true rfl) dX12_ofSetNow_5 ⟨Nat.le_of_ble_eq_true rfl, Nat.le_of_ble_eq_true rfl⟩ ?_
    refine va_castS hx hb hown (hk2) ((hK.1 8 _ rfl).2) (va_recv hK (hM.Pa (hR.s9 (i := i) (by omega)).1 rfl (hR.s9 (i := i) (by omega)).2) (ci := 8) (q0 := 0) rfl rfl) dX12_ofSetNow_8 ?_
    refine lv_astore (lv' := [(4, .ref (ma 9 i)), (0, .ref (ma 0 0)), (1, .ref ah), (2, .int (nI i)), (3, .int (nI 3))]) hx hb dX12_ofSetNow_11 hl (by decide) rfl (fun ls hl => ?_)
    refine lv_iload_n hx hb dX12_ofSetNow_13 rfl (lv_at hl 4 rfl) ?_
    refine lv_if_ne (tgt := 23) hx hb dX12_ofSetNow_14 (by decide) (fun c_12 => ?_) (fun c_12 => ?_)
    · have c_12 := zq_neT (x := 3) (by omega) c_12
      refine lv_iload_n hx hb dX12_ofSetNow_23 rfl (lv_at hl 4 rfl) ?_
      refine lv_iconst (v := nI 1) hx hb dX12_ofSetNow_24 (by decide) ?_
      refine lv_icmp_ne (tgt := 37) hx hb dX12_ofSetNow_25 (by decide) (fun c_13 => ?_) (fun c_13 => ?_)
      · have c_13 := zn_neT (a := 3) (b := 1) (by omega) (by omega) c_13
        refine lv_iload_n hx hb dX12_ofSetNow_37 rfl (lv_at hl 4 rfl) ?_
        refine lv_iconst (v := nI 2) hx hb dX12_ofSetNow_38 (by decide) ?_
        refine lv_icmp_ne (tgt := 48) hx hb dX12_ofSetNow_39 (by decide) (fun c_14 => ?_) (fun c_14 => ?_)
        · have c_14 := zn_neT (a := 3) (b := 2) (by omega) (by omega) c_14
          refine lv_iconst (v := nI 0) hx hb dX12_ofSetNow_48 (by decide) ?_
          refine lv_istore (lv' := [(5, .int (nI 0)), (4, .ref (ma 9 i)), (0, .ref (ma 0 0)), (1, .ref ah), (2, .int (nI i)), (3, .int (nI 3))]) hx hb dX12_ofSetNow_49 hl (by decide) rfl (fun ls hl => ?_)
          refine lv_iload_n hx hb dX12_ofSetNow_51 rfl (lv_at hl 5 rfl) ?_
          refine lv_iconst (v := nI 3) hx hb dX12_ofSetNow_52 (by decide) ?_
          refine lv_icmp_ne (tgt := 114) hx hb dX12_ofSetNow_53 (by decide) (fun c_15 => ?_) (fun c_15 => ?_)
          · have c_15 := zn_neT (a := 3) (b := 3) (by omega) (by omega) c_15
            omega
          · have c_15 := zn_neF (a := 3) (b := 3) (by omega) (by omega) c_15
            refine lv_iconst (v := nI 0) hx hb dX12_ofSetNow_56 (by decide) ?_
            refine lv_istore (lv' := [(6, .int (nI 0)), (5, .int (nI 0)), (4, .ref (ma 9 i)), (0, .ref (ma 0 0)), (1, .ref ah), (2, .int (nI i)), (3, .int (nI 3))]) hx hb dX12_ofSetNow_57 hl (by decide) rfl (fun ls hl => ?_)
            refine zloopP (τ := Unit) (fun k _ ls => lv_has ls 8 [(5, .int (sumN (hfF g i) k)), (6, .int (nI k)), (4, .ref (ma 9 i)), (0, .ref (ma 0 0)), (1, .ref ah), (2, .int (nI i)), (3, .int (nI 3))]) (nF g i) ?_ 0 () ls (Nat.zero_le _) (lv_sub hl [1, 0, 2, 3, 4, 5, 6] rfl)
            intro k _ ls hi_k hl ih_k
            have hl : lv_has ls 8 [(5, .int (sumN (hfF g i) k)), (6, .int (nI k)), (4, .ref (ma 9 i)), (0, .ref (ma 0 0)), (1, .ref ah), (2, .int (nI i)), (3, .int (nI 3))] := hl
            refine lv_aload hx hb dX12_ofSetNow_59 (lv_at hl 2 rfl) ?_
            refine va_get hx hb hts hinX7 hown hK (hM.Pa (hR.s9 (i := i) (by omega)).1 rfl (hR.s9 (i := i) (by omega)).2) 0 rfl rfl 3 (by decide) (hk4) (fun _ h9 => h9) rfl dX12_ofSetNow_61 ?_
            obtain ⟨huz_16, hnz_16, mz_16, bz_16, hCz_16⟩ := isL.hd (hR.s12 (i := i) (by omega))
            refine zcVi (As := []) (rest := []) ⟨hx, hb, hml, hown, hts⟩ (c_isEmpty l D ty A u C ma t0 mi 12 i (nV g i) (fun v => ma 15 (i * 6 + v)) (hR.s12 (i := i) (by omega))) (cwV 0 hts gX12_ofSetNow_Jx4a65c_isEmpty_aae02 rfl rfl rfl (by decide +kernel) ⟨Nat.le_of_ble_eq_true rfl, Nat.le_of_ble_eq_true rfl⟩) mI_blind (mI_pre hM hK hMS hS) (va_recv hK (hM.Pa huz_16 rfl hCz_16) (ci := 0) (q0 := 0) rfl rfl) rfl hl.1 rfl (Nat.le_of_ble_eq_true rfl) dX12_ofSetNow_64 ⟨Nat.le_of_ble_eq_true rfl, Nat.le_of_ble_eq_true rfl⟩ (fun r_17 hr_17 => ?_)
            subst hr_17
            refine lv_if_ne (tgt := 111) hx hb dX12_ofSetNow_67 (by decide) (fun c_18 => ?_) (fun c_18 => ?_)
            · have c_18 := bI_t c_18
              exact absurd (of_decide_eq_true c_18) (by omega)
            · have c_18 := bI_f c_18
              refine lv_iload hx hb dX12_ofSetNow_70 (lv_at hl 1 rfl) ?_
              refine lv_aload hx hb dX12_ofSetNow_72 (lv_at hl 2 rfl) ?_
              refine va_get hx hb hts hinX7 hown hK (hM.Pa (hR.s9 (i := i) (by omega)).1 rfl (hR.s9 (i := i) (by omega)).2) 0 rfl rfl 0 (by decide) (hk5) (fun _ h9 => h9) rfl dX12_ofSetNow_74 ?_
              refine zeq ((hR.I.f7 (i := i) (by omega)).1) ?_
              refine lv_icmp_ge (tgt := 111) hx hb dX12_ofSetNow_77 (by decide) (fun c_19 => ?_) (fun c_19 => ?_)
              · have c_19 := zn_geT (a := k) (b := (nF g i)) (by omega) (by omega) c_19
                obtain e9 : k = nF g i := by omega
                subst e9
                refine lv_iload hx hb dX12_ofSetNow_111 (lv_at hl 0 rfl) ?_
                exact W.iret (v := sumN (hfF g i) (nF g i)) hx hb hr (fun t ht hW => ⟨_, rfl, (by show _ = harmedN g i; unfold harmedN; rw [if_neg (Nat.pos_iff_ne_zero.mp hv0)]), ht⟩) (fun _ h => nomatch h) dX12_ofSetNow_113
              · have c_19 := zn_geF (a := k) (b := (nF g i)) (by omega) (by omega) c_19
                refine lv_iload hx hb dX12_ofSetNow_80 (lv_at hl 0 rfl) ?_
                refine lv_aload_n hx hb dX12_ofSetNow_82 rfl (lv_at hl 4 rfl) ?_
                refine lv_iload_n hx hb dX12_ofSetNow_83 rfl (lv_at hl 5 rfl) ?_
                refine maldq hx hb hK (va_P1 hA.1) 0 4 rfl rfl (vp_in_nI (by omega) (by omega)) dX12_ofSetNow_84 ?_
                refine zeqv (y := .ref (hmb i)) (by rw [nI_clamp (by omega)]; rfl) ?_
                refine lv_aload hx hb dX12_ofSetNow_85 (lv_at hl 2 rfl) ?_
                refine zcVi (As := []) (rest := [.ref (hmb i), .int (sumN (hfF g i) k)]) ⟨hx, hb, hml, hown, hts⟩ (c_X7_latest l D ty A u C ma t0 mi g n1 n2 nL n4 n5 th rep bro hR i (by omega)) (cwV 0 hts gX12_ofSetNow_X7_latest rfl rfl rfl (by decide +kernel) ⟨Nat.le_of_ble_eq_true rfl, Nat.le_of_ble_eq_true rfl⟩) mI_blind (mI_pre hM hK hMS hS) (va_recv hK (hM.Pa (hR.s9 (i := i) (by omega)).1 rfl (hR.s9 (i := i) (by omega)).2) (ci := 8) (q0 := 0) rfl rfl) rfl hl.1 rfl (Nat.le_of_ble_eq_true rfl) dX12_ofSetNow_87 ⟨Nat.le_of_ble_eq_true rfl, Nat.le_of_ble_eq_true rfl⟩ (fun r_20 hr_20 => ?_)
                subst hr_20
                refine zeq (pk_sub (a := nV g i) (b := 1) (by omega)) ?_
                refine maldq hx hb hK (va_P1 (hA.2.1 (i) (by omega))) 0 3 rfl rfl (vp_in_nI (by omega) (by omega)) dX12_ofSetNow_90 ?_
                refine zeqv (y := .ref (hmd (i * 6 + (nV g i - 1)))) (by rw [nI_clamp (by omega)]; rfl) ?_
                refine lv_iload hx hb dX12_ofSetNow_91 (lv_at hl 1 rfl) ?_
                refine zald hx hb hK (va_P1 (hA.2.2 (i * 6 + (nV g i - 1)) (by omega))) 0 0 rfl rfl (i := k) (by omega) (by omega) dX12_ofSetNow_93 ?_
                refine zeq (row6_at (by omega)) ?_
                refine lv_if_le (tgt := 101) hx hb dX12_ofSetNow_94 (by decide) (fun c_21 => ?_) (fun c_21 => ?_)
                · refine lv_iconst (v := nI 0) hx hb dX12_ofSetNow_101 (by decide) ?_
                  refine lv_iadd hx hb dX12_ofSetNow_102 ?_
                  refine lv_istore (lv' := [(5, .int ((sumN (hfF g i) k) + (nI 0))), (6, .int (nI k)), (4, .ref (ma 9 i)), (0, .ref (ma 0 0)), (1, .ref ah), (2, .int (nI i)), (3, .int (nI 3))]) hx hb dX12_ofSetNow_103 hl (by decide) rfl (fun ls hl => ?_)
                  refine lv_iinc (v := nI (k + 1)) (lv' := [(6, .int (nI (k + 1))), (5, .int ((sumN (hfF g i) k) + (nI 0))), (4, .ref (ma 9 i)), (0, .ref (ma 0 0)), (1, .ref ah), (2, .int (nI i)), (3, .int (nI 3))]) hx hb dX12_ofSetNow_105 hl (k := 1) rfl (nI_add k 1) (by decide) rfl (fun ls hl => ?_)
                  refine lv_goto (tgt := 59) hx hb dX12_ofSetNow_108 (by decide) ?_
                  refine ih_k () ls (by omega) (show lv_has ls 8 [(5, .int (sumN (hfF g i) (k + 1))), (6, .int (nI (k + 1))), (4, .ref (ma 9 i)), (0, .ref (ma 0 0)), (1, .ref ah), (2, .int (nI i)), (3, .int (nI 3))] from ?_)
                  rw [show sumN (hfF g i) (k + 1) = (sumN (hfF g i) k) + (nI 0) from congrArg (fun z => (sumN (hfF g i) k) +  z) (show (hfF g i) k = (nI 0) from by unfold hfF; simp only [c_18, decide_eq_true c_21, c_21, Bool.not_true, Bool.not_false, Bool.and_true, Bool.true_and, Bool.and_false, Bool.false_and, Bool.or_true, Bool.true_or, Bool.or_false, Bool.false_or, Bool.and_self, Bool.or_self, if_true, Bool.false_eq_true, if_false] <;> rfl)]
                  exact lv_sub hl [1, 0, 2, 3, 4, 5, 6] rfl
                · refine lv_iconst (v := nI 1) hx hb dX12_ofSetNow_97 (by decide) ?_
                  refine lv_goto (tgt := 102) hx hb dX12_ofSetNow_98 (by decide) ?_
                  refine lv_iadd hx hb dX12_ofSetNow_102 ?_
                  refine lv_istore (lv' := [(5, .int ((sumN (hfF g i) k) + (nI 1))), (6, .int (nI k)), (4, .ref (ma 9 i)), (0, .ref (ma 0 0)), (1, .ref ah), (2, .int (nI i)), (3, .int (nI 3))]) hx hb dX12_ofSetNow_103 hl (by decide) rfl (fun ls hl => ?_)
                  refine lv_iinc (v := nI (k + 1)) (lv' := [(6, .int (nI (k + 1))), (5, .int ((sumN (hfF g i) k) + (nI 1))), (4, .ref (ma 9 i)), (0, .ref (ma 0 0)), (1, .ref ah), (2, .int (nI i)), (3, .int (nI 3))]) hx hb dX12_ofSetNow_105 hl (k := 1) rfl (nI_add k 1) (by decide) rfl (fun ls hl => ?_)
                  refine lv_goto (tgt := 59) hx hb dX12_ofSetNow_108 (by decide) ?_
                  refine ih_k () ls (by omega) (show lv_has ls 8 [(5, .int (sumN (hfF g i) (k + 1))), (6, .int (nI (k + 1))), (4, .ref (ma 9 i)), (0, .ref (ma 0 0)), (1, .ref ah), (2, .int (nI i)), (3, .int (nI 3))] from ?_)
                  rw [show sumN (hfF g i) (k + 1) = (sumN (hfF g i) k) + (nI 1) from congrArg (fun z => (sumN (hfF g i) k) +  z) (show (hfF g i) k = (nI 1) from by unfold hfF; simp only [c_18, decide_eq_false c_21, c_21, Bool.not_true, Bool.not_false, Bool.and_true, Bool.true_and, Bool.and_false, Bool.false_and, Bool.or_true, Bool.true_or, Bool.or_false, Bool.false_or, Bool.and_self, Bool.or_self, if_true, Bool.false_eq_true, if_false] <;> rfl)]
                  exact lv_sub hl [1, 0, 2, 3, 4, 5, 6] rfl
        · have c_14 := zn_neF (a := 3) (b := 2) (by omega) (by omega) c_14
          omega
      · have c_13 := zn_neF (a := 3) (b := 1) (by omega) (by omega) c_13
        omega
    · have c_12 := zq_neF (x := 3) (by omega) c_12
      omega
set_option maxHeartbeats 400000 in
set_option maxRecDepth 100000 in
theorem c_X12_ofSetNow_4 (l : Launch) (D : va_G) (ty : Nat → ClassId) (A : Nat → Prop) (u : Nat → Nat → Prop) (C : Nat → Nat → va_E) (ma : Nat → Nat → Nat) (t0 mi : Nat) (g : Nat → Nat → Int32) (n1 n2 nL n4 n5 : Nat) (th : Int32) (rep bro : Nat → Nat → Int32) (hR : mR ty t0 g n1 n2 nL n4 n5 th rep bro u C ma) (ah : Nat) (i : Nat) (hi : i < n1) : Met l yX12_ofSetNow wsX12_ofSetNow ({ frames := 6, cells := 0, slots := 0, locals := 200 }) (va_Pc [.ref (ma 0 0), .ref ah, .int (nI i), .int (nI 4)] (mIh D ty A u C ma t0 mi ah (g 21))) (vp_Si (fun v_ => v_ = ofSetN g n5 i 4)) 0 0 (fun _ => False) := by
  refine zMet (cc := cX12_ofSetNow) (maxL := 8) (ret := (some .int)) (by decide) rfl (Nat.le_of_ble_eq_true rfl) ?_
  intro p e s m below meth c hx hb hr hts hown hlocks hml hB ls hl
  obtain ⟨⟨hM, hK, hMS⟩, ⟨hmb, hmd, hA⟩⟩ := hB
  have hS : va_S A s.heap s.heap [] := va_S.rf
  have hbn := hR.I.b1
  have hbs := hR.I.b2
  have hbl := hR.I.bL
  have hbc := hR.I.b4
  have hbr := hR.I.b5
  have hl : lv_has ls 8 [(0, .ref (ma 0 0)), (1, .ref ah), (2, .int (nI i)), (3, .int (nI 4))] := hl
  have hinX12 : ∀ w ∈ wsX120, w ∈ wsX12_ofSetNow := by decide +kernel
  have hk1 := hts (.fieldLink RX12 10 "DatamarketDeskModel" "sets" "Ljava/util/ArrayList;") (by decide +kernel)
  have hk2 := hts (.classLink RX12 49 "DatamarketDeskModel$DataSet") (by decide +kernel)
  have hk3 := hts (.fieldLink RX12 22 "DatamarketDeskModel" "reads" "Ljava/util/ArrayList;") (by decide +kernel)
  have hk4 := hts (.classLink RX12 152 "DatamarketDeskModel$Read") (by decide +kernel)
  have hinX9 : ∀ w ∈ wsX90, w ∈ wsX12_ofSetNow := by decide +kernel
  have hk6 := hts (.fieldLink RX12 175 "DatamarketDeskModel$Read" "set" "I") (by decide +kernel)
  refine lv_aload_n hx hb dX12_ofSetNow_0 rfl (lv_at hl 0 rfl) ?_
  refine va_get hx hb hts hinX12 hown hK (hM.Pa hR.o.1 rfl hR.o.2) 0 rfl rfl 1 (by decide) (hk1) (fun _ h9 => h9) rfl dX12_ofSetNow_1 ?_
  refine lv_iload_n hx hb dX12_ofSetNow_4 rfl (lv_at hl 2 rfl) ?_
  obtain ⟨huz_1, hnz_1, mz_1, bz_1, hCz_1⟩ := isL.hd hR.l1
  refine zcVr (x := .ref (ma 9 i)) (As := [.int (nI i)]) (rest := []) ⟨hx, hb, hml, hown, hts⟩ (c_get l D ty A u C ma t0 mi 1 0 n1 (ma 9) hR.l1 i (by omega)) (cwV 1 hts gX12_ofSetNow_Jx4a65c_get_915e3 rfl rfl rfl (by decide +kernel) ⟨Nat.le_of_ble_eq_true rfl, Nat.le_of_ble_eq_true rfl⟩) mI_blind (mI_pre hM hK hMS hS) (va_recv hK (hM.Pa huz_1 rfl hCz_1) (ci := 0) (q0 := 0) rfl rfl) rfl hl.1 rfl (Nat.le_of_ble_eq_true rfl) dX12_ofSetNow_5 ⟨Nat.le_of_ble_eq_true rfl, Nat.le_of_ble_eq_true rfl⟩ ?_
  refine va_castS hx hb hown (hk2) ((hK.1 8 _ rfl).2) (va_recv hK (hM.Pa (hR.s9 (i := i) (by omega)).1 rfl (hR.s9 (i := i) (by omega)).2) (ci := 8) (q0 := 0) rfl rfl) dX12_ofSetNow_8 ?_
  refine lv_astore (lv' := [(4, .ref (ma 9 i)), (0, .ref (ma 0 0)), (1, .ref ah), (2, .int (nI i)), (3, .int (nI 4))]) hx hb dX12_ofSetNow_11 hl (by decide) rfl (fun ls hl => ?_)
  refine lv_iload_n hx hb dX12_ofSetNow_13 rfl (lv_at hl 4 rfl) ?_
  refine lv_if_ne (tgt := 23) hx hb dX12_ofSetNow_14 (by decide) (fun c_3 => ?_) (fun c_3 => ?_)
  · have c_3 := zq_neT (x := 4) (by omega) c_3
    refine lv_iload_n hx hb dX12_ofSetNow_23 rfl (lv_at hl 4 rfl) ?_
    refine lv_iconst (v := nI 1) hx hb dX12_ofSetNow_24 (by decide) ?_
    refine lv_icmp_ne (tgt := 37) hx hb dX12_ofSetNow_25 (by decide) (fun c_4 => ?_) (fun c_4 => ?_)
    · have c_4 := zn_neT (a := 4) (b := 1) (by omega) (by omega) c_4
      refine lv_iload_n hx hb dX12_ofSetNow_37 rfl (lv_at hl 4 rfl) ?_
      refine lv_iconst (v := nI 2) hx hb dX12_ofSetNow_38 (by decide) ?_
      refine lv_icmp_ne (tgt := 48) hx hb dX12_ofSetNow_39 (by decide) (fun c_5 => ?_) (fun c_5 => ?_)
      · have c_5 := zn_neT (a := 4) (b := 2) (by omega) (by omega) c_5
        refine lv_iconst (v := nI 0) hx hb dX12_ofSetNow_48 (by decide) ?_
        refine lv_istore (lv' := [(5, .int (nI 0)), (4, .ref (ma 9 i)), (0, .ref (ma 0 0)), (1, .ref ah), (2, .int (nI i)), (3, .int (nI 4))]) hx hb dX12_ofSetNow_49 hl (by decide) rfl (fun ls hl => ?_)
        refine lv_iload_n hx hb dX12_ofSetNow_51 rfl (lv_at hl 5 rfl) ?_
        refine lv_iconst (v := nI 3) hx hb dX12_ofSetNow_52 (by decide) ?_
        refine lv_icmp_ne (tgt := 114) hx hb dX12_ofSetNow_53 (by decide) (fun c_6 => ?_) (fun c_6 => ?_)
        · have c_6 := zn_neT (a := 4) (b := 3) (by omega) (by omega) c_6
          refine lv_iconst (v := nI 0) hx hb dX12_ofSetNow_114 (by decide) ?_
          refine lv_istore (lv' := [(6, .int (nI 0)), (5, .int (nI 0)), (4, .ref (ma 9 i)), (0, .ref (ma 0 0)), (1, .ref ah), (2, .int (nI i)), (3, .int (nI 4))]) hx hb dX12_ofSetNow_115 hl (by decide) rfl (fun ls hl => ?_)
          refine zloopP (τ := Unit) (fun j _ ls => lv_has ls 8 [(5, .int (sumN (fCnt g (-1) (nI i)) j)), (6, .int (nI j)), (4, .ref (ma 9 i)), (0, .ref (ma 0 0)), (1, .ref ah), (2, .int (nI i)), (3, .int (nI 4))]) n5 ?_ 0 () ls (Nat.zero_le _) (lv_sub hl [1, 0, 2, 3, 4, 5, 6] rfl)
          intro j _ ls hi_j hl ih_j
          have hl : lv_has ls 8 [(5, .int (sumN (fCnt g (-1) (nI i)) j)), (6, .int (nI j)), (4, .ref (ma 9 i)), (0, .ref (ma 0 0)), (1, .ref ah), (2, .int (nI i)), (3, .int (nI 4))] := hl
          refine lv_iload hx hb dX12_ofSetNow_117 (lv_at hl 1 rfl) ?_
          refine lv_aload_n hx hb dX12_ofSetNow_119 rfl (lv_at hl 3 rfl) ?_
          refine va_get hx hb hts hinX12 hown hK (hM.Pa hR.o.1 rfl hR.o.2) 0 rfl rfl 4 (by decide) (hk3) (fun _ h9 => h9) rfl dX12_ofSetNow_120 ?_
          obtain ⟨huz_7, hnz_7, mz_7, bz_7, hCz_7⟩ := isL.hd hR.l7
          refine zcVi (As := []) (rest := [.int (nI j)]) ⟨hx, hb, hml, hown, hts⟩ (c_size l D ty A u C ma t0 mi 7 0 n5 (ma 26) hR.l7) (cwV 0 hts gX12_ofSetNow_Jx4a65c_size_8abf5 rfl rfl rfl (by decide +kernel) ⟨Nat.le_of_ble_eq_true rfl, Nat.le_of_ble_eq_true rfl⟩) mI_blind (mI_pre hM hK hMS hS) (va_recv hK (hM.Pa huz_7 rfl hCz_7) (ci := 0) (q0 := 0) rfl rfl) rfl hl.1 rfl (Nat.le_of_ble_eq_true rfl) dX12_ofSetNow_123 ⟨Nat.le_of_ble_eq_true rfl, Nat.le_of_ble_eq_true rfl⟩ (fun r_8 hr_8 => ?_)
          subst hr_8
          refine lv_icmp_ge (tgt := 191) hx hb dX12_ofSetNow_126 (by decide) (fun c_9 => ?_) (fun c_9 => ?_)
          · have c_9 := zn_geT (a := j) (b := n5) (by omega) (by omega) c_9
            obtain rfl : j = n5 := by omega
            refine lv_iload hx hb dX12_ofSetNow_191 (lv_at hl 0 rfl) ?_
            exact W.iret (v := sumN (fCnt g (-1) (nI i)) j) hx hb hr (fun t ht hW => ⟨_, rfl, rfl, ht⟩) (fun _ h => nomatch h) dX12_ofSetNow_193
          · have c_9 := zn_geF (a := j) (b := n5) (by omega) (by omega) c_9
            refine lv_aload_n hx hb dX12_ofSetNow_129 rfl (lv_at hl 3 rfl) ?_
            refine va_get hx hb hts hinX12 hown hK (hM.Pa hR.o.1 rfl hR.o.2) 0 rfl rfl 4 (by decide) (hk3) (fun _ h9 => h9) rfl dX12_ofSetNow_130 ?_
            refine lv_iload hx hb dX12_ofSetNow_133 (lv_at hl 1 rfl) ?_
            obtain ⟨huz_10, hnz_10, mz_10, bz_10, hCz_10⟩ := isL.hd hR.l7
            refine zcVr (x := .ref (ma 26 j)) (As := [.int (nI j)]) (rest := []) ⟨hx, hb, hml, hown, hts⟩ (c_get l D ty A u C ma t0 mi 7 0 n5 (ma 26) hR.l7 j (by omega)) (cwV 1 hts gX12_ofSetNow_Jx4a65c_get_915e3 rfl rfl rfl (by decide +kernel) ⟨Nat.le_of_ble_eq_true rfl, Nat.le_of_ble_eq_true rfl⟩) mI_blind (mI_pre hM hK hMS hS) (va_recv hK (hM.Pa huz_10 rfl hCz_10) (ci := 0) (q0 := 0) rfl rfl) rfl hl.1 rfl (Nat.le_of_ble_eq_true rfl) dX12_ofSetNow_135 ⟨Nat.le_of_ble_eq_true rfl, Nat.le_of_ble_eq_true rfl⟩ ?_
            refine va_castS hx hb hown (hk4) ((hK.1 10 _ rfl).2) (va_recv hK (hM.Pa (hR.r26 (r := j) (by omega)).1 rfl (hR.r26 (r := j) (by omega)).2) (ci := 10) (q0 := 0) rfl rfl) dX12_ofSetNow_138 ?_
            refine lv_astore (lv' := [(7, .ref (ma 26 j)), (5, .int (sumN (fCnt g (-1) (nI i)) j)), (6, .int (nI j)), (4, .ref (ma 9 i)), (0, .ref (ma 0 0)), (1, .ref ah), (2, .int (nI i)), (3, .int (nI 4))]) hx hb dX12_ofSetNow_141 hl (by decide) rfl (fun ls hl => ?_)
            refine lv_aload hx hb dX12_ofSetNow_143 (lv_at hl 0 rfl) ?_
            refine va_get hx hb hts hinX9 hown hK (hM.Pa (hR.r26 (r := j) (by omega)).1 rfl (hR.r26 (r := j) (by omega)).2) 0 rfl rfl 1 (by decide) (hk6) (fun _ h9 => h9) rfl dX12_ofSetNow_145 ?_
            refine lv_iload_n hx hb dX12_ofSetNow_148 rfl (lv_at hl 6 rfl) ?_
            refine lv_icmp_ne (tgt := 185) hx hb dX12_ofSetNow_149 (by decide) (fun c_12 => ?_) (fun c_12 => ?_)
            · refine lv_iinc (v := nI (j + 1)) (lv' := [(6, .int (nI (j + 1))), (7, .ref (ma 26 j)), (5, .int (sumN (fCnt g (-1) (nI i)) j)), (4, .ref (ma 9 i)), (0, .ref (ma 0 0)), (1, .ref ah), (2, .int (nI i)), (3, .int (nI 4))]) hx hb dX12_ofSetNow_185 hl (k := 2) rfl (nI_add j 1) (by decide) rfl (fun ls hl => ?_)
              refine lv_goto (tgt := 117) hx hb dX12_ofSetNow_188 (by decide) ?_
              refine ih_j () ls (by omega) (show lv_has ls 8 [(5, .int (sumN (fCnt g (-1) (nI i)) (j + 1))), (6, .int (nI (j + 1))), (4, .ref (ma 9 i)), (0, .ref (ma 0 0)), (1, .ref ah), (2, .int (nI i)), (3, .int (nI 4))] from ?_)
              rw [show sumN (fCnt g (-1) (nI i)) (j + 1) = sumN (fCnt g (-1) (nI i)) j from (congrArg (fun z => (sumN (fCnt g (-1) (nI i)) j) +  z) (show (fCnt g (-1) (nI i)) j = 0 from by unfold fCnt; rw [ofB_s (by omega)]; simp only [decide_eq_false c_12, Bool.not_true, Bool.not_false, Bool.and_true, Bool.true_and, Bool.and_false, Bool.false_and, Bool.or_true, Bool.true_or, Bool.or_false, Bool.false_or, Bool.and_self, Bool.or_self, if_true, Bool.false_eq_true, if_false] <;> rfl)).trans (Int32.add_zero _)]
              exact lv_sub hl [2, 0, 3, 4, 5, 6, 7] rfl
            · refine lv_iload hx hb dX12_ofSetNow_152 (lv_at hl 1 rfl) ?_
              refine lv_iload_n hx hb dX12_ofSetNow_154 rfl (lv_at hl 7 rfl) ?_
              refine lv_iconst (v := nI 4) hx hb dX12_ofSetNow_155 (by decide) ?_
              refine lv_icmp_ne (tgt := 163) hx hb dX12_ofSetNow_156 (by decide) (fun c_13 => ?_) (fun c_13 => ?_)
              · have c_13 := zn_neT (a := 4) (b := 4) (by omega) (by omega) c_13
                omega
              · have c_13 := zn_neF (a := 4) (b := 4) (by omega) (by omega) c_13
                refine lv_iconst (v := nI 1) hx hb dX12_ofSetNow_159 (by decide) ?_
                refine lv_goto (tgt := 182) hx hb dX12_ofSetNow_160 (by decide) ?_
                refine lv_iadd hx hb dX12_ofSetNow_182 ?_
                refine lv_istore (lv' := [(5, .int ((sumN (fCnt g (-1) (nI i)) j) + (nI 1))), (7, .ref (ma 26 j)), (6, .int (nI j)), (4, .ref (ma 9 i)), (0, .ref (ma 0 0)), (1, .ref ah), (2, .int (nI i)), (3, .int (nI 4))]) hx hb dX12_ofSetNow_183 hl (by decide) rfl (fun ls hl => ?_)
                refine lv_iinc (v := nI (j + 1)) (lv' := [(6, .int (nI (j + 1))), (5, .int ((sumN (fCnt g (-1) (nI i)) j) + (nI 1))), (7, .ref (ma 26 j)), (4, .ref (ma 9 i)), (0, .ref (ma 0 0)), (1, .ref ah), (2, .int (nI i)), (3, .int (nI 4))]) hx hb dX12_ofSetNow_185 hl (k := 2) rfl (nI_add j 1) (by decide) rfl (fun ls hl => ?_)
                refine lv_goto (tgt := 117) hx hb dX12_ofSetNow_188 (by decide) ?_
                refine ih_j () ls (by omega) (show lv_has ls 8 [(5, .int (sumN (fCnt g (-1) (nI i)) (j + 1))), (6, .int (nI (j + 1))), (4, .ref (ma 9 i)), (0, .ref (ma 0 0)), (1, .ref ah), (2, .int (nI i)), (3, .int (nI 4))] from ?_)
                rw [show sumN (fCnt g (-1) (nI i)) (j + 1) = (sumN (fCnt g (-1) (nI i)) j) + (nI 1) from congrArg (fun z => (sumN (fCnt g (-1) (nI i)) j) +  z) (show (fCnt g (-1) (nI i)) j = (nI 1) from by unfold fCnt; rw [ofB_s (by omega)]; simp only [decide_eq_true c_12, Bool.not_true, Bool.not_false, Bool.and_true, Bool.true_and, Bool.and_false, Bool.false_and, Bool.or_true, Bool.true_or, Bool.or_false, Bool.false_or, Bool.and_self, Bool.or_self, if_true, Bool.false_eq_true, if_false] <;> rfl)]
                exact lv_sub hl [1, 0, 3, 4, 5, 6, 7] rfl
        · have c_6 := zn_neF (a := 4) (b := 3) (by omega) (by omega) c_6
          omega
      · have c_5 := zn_neF (a := 4) (b := 2) (by omega) (by omega) c_5
        omega
    · have c_4 := zn_neF (a := 4) (b := 1) (by omega) (by omega) c_4
      omega
  · have c_3 := zq_neF (x := 4) (by omega) c_3
    omega
set_option maxHeartbeats 400000 in
set_option maxRecDepth 100000 in
theorem c_X12_ofSetNow_5 (l : Launch) (D : va_G) (ty : Nat → ClassId) (A : Nat → Prop) (u : Nat → Nat → Prop) (C : Nat → Nat → va_E) (ma : Nat → Nat → Nat) (t0 mi : Nat) (g : Nat → Nat → Int32) (n1 n2 nL n4 n5 : Nat) (th : Int32) (rep bro : Nat → Nat → Int32) (hR : mR ty t0 g n1 n2 nL n4 n5 th rep bro u C ma) (ah : Nat) (i : Nat) (hi : i < n1) : Met l yX12_ofSetNow wsX12_ofSetNow ({ frames := 6, cells := 0, slots := 0, locals := 200 }) (va_Pc [.ref (ma 0 0), .ref ah, .int (nI i), .int (nI 5)] (mIh D ty A u C ma t0 mi ah (g 21))) (vp_Si (fun v_ => v_ = ofSetN g n5 i 5)) 0 0 (fun _ => False) := by
  refine zMet (cc := cX12_ofSetNow) (maxL := 8) (ret := (some .int)) (by decide) rfl (Nat.le_of_ble_eq_true rfl) ?_
  intro p e s m below meth c hx hb hr hts hown hlocks hml hB ls hl
  obtain ⟨⟨hM, hK, hMS⟩, ⟨hmb, hmd, hA⟩⟩ := hB
  have hS : va_S A s.heap s.heap [] := va_S.rf
  have hbn := hR.I.b1
  have hbs := hR.I.b2
  have hbl := hR.I.bL
  have hbc := hR.I.b4
  have hbr := hR.I.b5
  have hl : lv_has ls 8 [(0, .ref (ma 0 0)), (1, .ref ah), (2, .int (nI i)), (3, .int (nI 5))] := hl
  have hinX12 : ∀ w ∈ wsX120, w ∈ wsX12_ofSetNow := by decide +kernel
  have hk1 := hts (.fieldLink RX12 10 "DatamarketDeskModel" "sets" "Ljava/util/ArrayList;") (by decide +kernel)
  have hk2 := hts (.classLink RX12 49 "DatamarketDeskModel$DataSet") (by decide +kernel)
  have hk3 := hts (.fieldLink RX12 22 "DatamarketDeskModel" "reads" "Ljava/util/ArrayList;") (by decide +kernel)
  have hk4 := hts (.classLink RX12 152 "DatamarketDeskModel$Read") (by decide +kernel)
  have hinX9 : ∀ w ∈ wsX90, w ∈ wsX12_ofSetNow := by decide +kernel
  have hk6 := hts (.fieldLink RX12 175 "DatamarketDeskModel$Read" "set" "I") (by decide +kernel)
  refine lv_aload_n hx hb dX12_ofSetNow_0 rfl (lv_at hl 0 rfl) ?_
  refine va_get hx hb hts hinX12 hown hK (hM.Pa hR.o.1 rfl hR.o.2) 0 rfl rfl 1 (by decide) (hk1) (fun _ h9 => h9) rfl dX12_ofSetNow_1 ?_
  refine lv_iload_n hx hb dX12_ofSetNow_4 rfl (lv_at hl 2 rfl) ?_
  obtain ⟨huz_1, hnz_1, mz_1, bz_1, hCz_1⟩ := isL.hd hR.l1
  refine zcVr (x := .ref (ma 9 i)) (As := [.int (nI i)]) (rest := []) ⟨hx, hb, hml, hown, hts⟩ (c_get l D ty A u C ma t0 mi 1 0 n1 (ma 9) hR.l1 i (by omega)) (cwV 1 hts gX12_ofSetNow_Jx4a65c_get_915e3 rfl rfl rfl (by decide +kernel) ⟨Nat.le_of_ble_eq_true rfl, Nat.le_of_ble_eq_true rfl⟩) mI_blind (mI_pre hM hK hMS hS) (va_recv hK (hM.Pa huz_1 rfl hCz_1) (ci := 0) (q0 := 0) rfl rfl) rfl hl.1 rfl (Nat.le_of_ble_eq_true rfl) dX12_ofSetNow_5 ⟨Nat.le_of_ble_eq_true rfl, Nat.le_of_ble_eq_true rfl⟩ ?_
  refine va_castS hx hb hown (hk2) ((hK.1 8 _ rfl).2) (va_recv hK (hM.Pa (hR.s9 (i := i) (by omega)).1 rfl (hR.s9 (i := i) (by omega)).2) (ci := 8) (q0 := 0) rfl rfl) dX12_ofSetNow_8 ?_
  refine lv_astore (lv' := [(4, .ref (ma 9 i)), (0, .ref (ma 0 0)), (1, .ref ah), (2, .int (nI i)), (3, .int (nI 5))]) hx hb dX12_ofSetNow_11 hl (by decide) rfl (fun ls hl => ?_)
  refine lv_iload_n hx hb dX12_ofSetNow_13 rfl (lv_at hl 4 rfl) ?_
  refine lv_if_ne (tgt := 23) hx hb dX12_ofSetNow_14 (by decide) (fun c_3 => ?_) (fun c_3 => ?_)
  · have c_3 := zq_neT (x := 5) (by omega) c_3
    refine lv_iload_n hx hb dX12_ofSetNow_23 rfl (lv_at hl 4 rfl) ?_
    refine lv_iconst (v := nI 1) hx hb dX12_ofSetNow_24 (by decide) ?_
    refine lv_icmp_ne (tgt := 37) hx hb dX12_ofSetNow_25 (by decide) (fun c_4 => ?_) (fun c_4 => ?_)
    · have c_4 := zn_neT (a := 5) (b := 1) (by omega) (by omega) c_4
      refine lv_iload_n hx hb dX12_ofSetNow_37 rfl (lv_at hl 4 rfl) ?_
      refine lv_iconst (v := nI 2) hx hb dX12_ofSetNow_38 (by decide) ?_
      refine lv_icmp_ne (tgt := 48) hx hb dX12_ofSetNow_39 (by decide) (fun c_5 => ?_) (fun c_5 => ?_)
      · have c_5 := zn_neT (a := 5) (b := 2) (by omega) (by omega) c_5
        refine lv_iconst (v := nI 0) hx hb dX12_ofSetNow_48 (by decide) ?_
        refine lv_istore (lv' := [(5, .int (nI 0)), (4, .ref (ma 9 i)), (0, .ref (ma 0 0)), (1, .ref ah), (2, .int (nI i)), (3, .int (nI 5))]) hx hb dX12_ofSetNow_49 hl (by decide) rfl (fun ls hl => ?_)
        refine lv_iload_n hx hb dX12_ofSetNow_51 rfl (lv_at hl 5 rfl) ?_
        refine lv_iconst (v := nI 3) hx hb dX12_ofSetNow_52 (by decide) ?_
        refine lv_icmp_ne (tgt := 114) hx hb dX12_ofSetNow_53 (by decide) (fun c_6 => ?_) (fun c_6 => ?_)
        · have c_6 := zn_neT (a := 5) (b := 3) (by omega) (by omega) c_6
          refine lv_iconst (v := nI 0) hx hb dX12_ofSetNow_114 (by decide) ?_
          refine lv_istore (lv' := [(6, .int (nI 0)), (5, .int (nI 0)), (4, .ref (ma 9 i)), (0, .ref (ma 0 0)), (1, .ref ah), (2, .int (nI i)), (3, .int (nI 5))]) hx hb dX12_ofSetNow_115 hl (by decide) rfl (fun ls hl => ?_)
          refine zloopP (τ := Unit) (fun j _ ls => lv_has ls 8 [(5, .int (sumN (fCh g (-1) (nI i)) j)), (6, .int (nI j)), (4, .ref (ma 9 i)), (0, .ref (ma 0 0)), (1, .ref ah), (2, .int (nI i)), (3, .int (nI 5))]) n5 ?_ 0 () ls (Nat.zero_le _) (lv_sub hl [1, 0, 2, 3, 4, 5, 6] rfl)
          intro j _ ls hi_j hl ih_j
          have hl : lv_has ls 8 [(5, .int (sumN (fCh g (-1) (nI i)) j)), (6, .int (nI j)), (4, .ref (ma 9 i)), (0, .ref (ma 0 0)), (1, .ref ah), (2, .int (nI i)), (3, .int (nI 5))] := hl
          refine lv_iload hx hb dX12_ofSetNow_117 (lv_at hl 1 rfl) ?_
          refine lv_aload_n hx hb dX12_ofSetNow_119 rfl (lv_at hl 3 rfl) ?_
          refine va_get hx hb hts hinX12 hown hK (hM.Pa hR.o.1 rfl hR.o.2) 0 rfl rfl 4 (by decide) (hk3) (fun _ h9 => h9) rfl dX12_ofSetNow_120 ?_
          obtain ⟨huz_7, hnz_7, mz_7, bz_7, hCz_7⟩ := isL.hd hR.l7
          refine zcVi (As := []) (rest := [.int (nI j)]) ⟨hx, hb, hml, hown, hts⟩ (c_size l D ty A u C ma t0 mi 7 0 n5 (ma 26) hR.l7) (cwV 0 hts gX12_ofSetNow_Jx4a65c_size_8abf5 rfl rfl rfl (by decide +kernel) ⟨Nat.le_of_ble_eq_true rfl, Nat.le_of_ble_eq_true rfl⟩) mI_blind (mI_pre hM hK hMS hS) (va_recv hK (hM.Pa huz_7 rfl hCz_7) (ci := 0) (q0 := 0) rfl rfl) rfl hl.1 rfl (Nat.le_of_ble_eq_true rfl) dX12_ofSetNow_123 ⟨Nat.le_of_ble_eq_true rfl, Nat.le_of_ble_eq_true rfl⟩ (fun r_8 hr_8 => ?_)
          subst hr_8
          refine lv_icmp_ge (tgt := 191) hx hb dX12_ofSetNow_126 (by decide) (fun c_9 => ?_) (fun c_9 => ?_)
          · have c_9 := zn_geT (a := j) (b := n5) (by omega) (by omega) c_9
            obtain rfl : j = n5 := by omega
            refine lv_iload hx hb dX12_ofSetNow_191 (lv_at hl 0 rfl) ?_
            exact W.iret (v := sumN (fCh g (-1) (nI i)) j) hx hb hr (fun t ht hW => ⟨_, rfl, rfl, ht⟩) (fun _ h => nomatch h) dX12_ofSetNow_193
          · have c_9 := zn_geF (a := j) (b := n5) (by omega) (by omega) c_9
            refine lv_aload_n hx hb dX12_ofSetNow_129 rfl (lv_at hl 3 rfl) ?_
            refine va_get hx hb hts hinX12 hown hK (hM.Pa hR.o.1 rfl hR.o.2) 0 rfl rfl 4 (by decide) (hk3) (fun _ h9 => h9) rfl dX12_ofSetNow_130 ?_
            refine lv_iload hx hb dX12_ofSetNow_133 (lv_at hl 1 rfl) ?_
            obtain ⟨huz_10, hnz_10, mz_10, bz_10, hCz_10⟩ := isL.hd hR.l7
            refine zcVr (x := .ref (ma 26 j)) (As := [.int (nI j)]) (rest := []) ⟨hx, hb, hml, hown, hts⟩ (c_get l D ty A u C ma t0 mi 7 0 n5 (ma 26) hR.l7 j (by omega)) (cwV 1 hts gX12_ofSetNow_Jx4a65c_get_915e3 rfl rfl rfl (by decide +kernel) ⟨Nat.le_of_ble_eq_true rfl, Nat.le_of_ble_eq_true rfl⟩) mI_blind (mI_pre hM hK hMS hS) (va_recv hK (hM.Pa huz_10 rfl hCz_10) (ci := 0) (q0 := 0) rfl rfl) rfl hl.1 rfl (Nat.le_of_ble_eq_true rfl) dX12_ofSetNow_135 ⟨Nat.le_of_ble_eq_true rfl, Nat.le_of_ble_eq_true rfl⟩ ?_
            refine va_castS hx hb hown (hk4) ((hK.1 10 _ rfl).2) (va_recv hK (hM.Pa (hR.r26 (r := j) (by omega)).1 rfl (hR.r26 (r := j) (by omega)).2) (ci := 10) (q0 := 0) rfl rfl) dX12_ofSetNow_138 ?_
            refine lv_astore (lv' := [(7, .ref (ma 26 j)), (5, .int (sumN (fCh g (-1) (nI i)) j)), (6, .int (nI j)), (4, .ref (ma 9 i)), (0, .ref (ma 0 0)), (1, .ref ah), (2, .int (nI i)), (3, .int (nI 5))]) hx hb dX12_ofSetNow_141 hl (by decide) rfl (fun ls hl => ?_)
            refine lv_aload hx hb dX12_ofSetNow_143 (lv_at hl 0 rfl) ?_
            refine va_get hx hb hts hinX9 hown hK (hM.Pa (hR.r26 (r := j) (by omega)).1 rfl (hR.r26 (r := j) (by omega)).2) 0 rfl rfl 1 (by decide) (hk6) (fun _ h9 => h9) rfl dX12_ofSetNow_145 ?_
            refine lv_iload_n hx hb dX12_ofSetNow_148 rfl (lv_at hl 6 rfl) ?_
            refine lv_icmp_ne (tgt := 185) hx hb dX12_ofSetNow_149 (by decide) (fun c_12 => ?_) (fun c_12 => ?_)
            · refine lv_iinc (v := nI (j + 1)) (lv' := [(6, .int (nI (j + 1))), (7, .ref (ma 26 j)), (5, .int (sumN (fCh g (-1) (nI i)) j)), (4, .ref (ma 9 i)), (0, .ref (ma 0 0)), (1, .ref ah), (2, .int (nI i)), (3, .int (nI 5))]) hx hb dX12_ofSetNow_185 hl (k := 2) rfl (nI_add j 1) (by decide) rfl (fun ls hl => ?_)
              refine lv_goto (tgt := 117) hx hb dX12_ofSetNow_188 (by decide) ?_
              refine ih_j () ls (by omega) (show lv_has ls 8 [(5, .int (sumN (fCh g (-1) (nI i)) (j + 1))), (6, .int (nI (j + 1))), (4, .ref (ma 9 i)), (0, .ref (ma 0 0)), (1, .ref ah), (2, .int (nI i)), (3, .int (nI 5))] from ?_)
              rw [show sumN (fCh g (-1) (nI i)) (j + 1) = sumN (fCh g (-1) (nI i)) j from (congrArg (fun z => (sumN (fCh g (-1) (nI i)) j) +  z) (show (fCh g (-1) (nI i)) j = 0 from by unfold fCh; rw [ofB_s (by omega)]; simp only [decide_eq_false c_12, Bool.not_true, Bool.not_false, Bool.and_true, Bool.true_and, Bool.and_false, Bool.false_and, Bool.or_true, Bool.true_or, Bool.or_false, Bool.false_or, Bool.and_self, Bool.or_self, if_true, Bool.false_eq_true, if_false] <;> rfl)).trans (Int32.add_zero _)]
              exact lv_sub hl [2, 0, 3, 4, 5, 6, 7] rfl
            · refine lv_iload hx hb dX12_ofSetNow_152 (lv_at hl 1 rfl) ?_
              refine lv_iload_n hx hb dX12_ofSetNow_154 rfl (lv_at hl 7 rfl) ?_
              refine lv_iconst (v := nI 4) hx hb dX12_ofSetNow_155 (by decide) ?_
              refine lv_icmp_ne (tgt := 163) hx hb dX12_ofSetNow_156 (by decide) (fun c_13 => ?_) (fun c_13 => ?_)
              · have c_13 := zn_neT (a := 5) (b := 4) (by omega) (by omega) c_13
                refine lv_iload_n hx hb dX12_ofSetNow_163 rfl (lv_at hl 7 rfl) ?_
                refine lv_iconst (v := nI 5) hx hb dX12_ofSetNow_164 (by decide) ?_
                refine lv_icmp_ne (tgt := 176) hx hb dX12_ofSetNow_165 (by decide) (fun c_14 => ?_) (fun c_14 => ?_)
                · have c_14 := zn_neT (a := 5) (b := 5) (by omega) (by omega) c_14
                  omega
                · have c_14 := zn_neF (a := 5) (b := 5) (by omega) (by omega) c_14
                  refine lv_aload hx hb dX12_ofSetNow_168 (lv_at hl 0 rfl) ?_
                  refine zcVi (As := []) (rest := [.int (sumN (fCh g (-1) (nI i)) j)]) ⟨hx, hb, hml, hown, hts⟩ (c_X9_charge l D ty A u C ma t0 mi g n1 n2 nL n4 n5 th rep bro hR j (by omega)) (cwV 0 hts gX12_ofSetNow_X9_charge rfl rfl rfl (by decide +kernel) ⟨Nat.le_of_ble_eq_true rfl, Nat.le_of_ble_eq_true rfl⟩) mI_blind (mI_pre hM hK hMS hS) (va_recv hK (hM.Pa (hR.r26 (r := j) (by omega)).1 rfl (hR.r26 (r := j) (by omega)).2) (ci := 10) (q0 := 0) rfl rfl) rfl hl.1 rfl (Nat.le_of_ble_eq_true rfl) dX12_ofSetNow_170 ⟨Nat.le_of_ble_eq_true rfl, Nat.le_of_ble_eq_true rfl⟩ (fun r_15 hr_15 => ?_)
                  subst hr_15
                  refine lv_goto (tgt := 182) hx hb dX12_ofSetNow_173 (by decide) ?_
                  refine lv_iadd hx hb dX12_ofSetNow_182 ?_
                  refine lv_istore (lv' := [(5, .int ((sumN (fCh g (-1) (nI i)) j) + (chN g j))), (7, .ref (ma 26 j)), (6, .int (nI j)), (4, .ref (ma 9 i)), (0, .ref (ma 0 0)), (1, .ref ah), (2, .int (nI i)), (3, .int (nI 5))]) hx hb dX12_ofSetNow_183 hl (by decide) rfl (fun ls hl => ?_)
                  refine lv_iinc (v := nI (j + 1)) (lv' := [(6, .int (nI (j + 1))), (5, .int ((sumN (fCh g (-1) (nI i)) j) + (chN g j))), (7, .ref (ma 26 j)), (4, .ref (ma 9 i)), (0, .ref (ma 0 0)), (1, .ref ah), (2, .int (nI i)), (3, .int (nI 5))]) hx hb dX12_ofSetNow_185 hl (k := 2) rfl (nI_add j 1) (by decide) rfl (fun ls hl => ?_)
                  refine lv_goto (tgt := 117) hx hb dX12_ofSetNow_188 (by decide) ?_
                  refine ih_j () ls (by omega) (show lv_has ls 8 [(5, .int (sumN (fCh g (-1) (nI i)) (j + 1))), (6, .int (nI (j + 1))), (4, .ref (ma 9 i)), (0, .ref (ma 0 0)), (1, .ref ah), (2, .int (nI i)), (3, .int (nI 5))] from ?_)
                  rw [show sumN (fCh g (-1) (nI i)) (j + 1) = (sumN (fCh g (-1) (nI i)) j) + (chN g j) from congrArg (fun z => (sumN (fCh g (-1) (nI i)) j) +  z) (show (fCh g (-1) (nI i)) j = (chN g j) from by unfold fCh; rw [ofB_s (by omega)]; simp only [decide_eq_true c_12, Bool.not_true, Bool.not_false, Bool.and_true, Bool.true_and, Bool.and_false, Bool.false_and, Bool.or_true, Bool.true_or, Bool.or_false, Bool.false_or, Bool.and_self, Bool.or_self, if_true, Bool.false_eq_true, if_false] <;> rfl)]
                  exact lv_sub hl [1, 0, 3, 4, 5, 6, 7] rfl
              · have c_13 := zn_neF (a := 5) (b := 4) (by omega) (by omega) c_13
                omega
        · have c_6 := zn_neF (a := 5) (b := 3) (by omega) (by omega) c_6
          omega
      · have c_5 := zn_neF (a := 5) (b := 2) (by omega) (by omega) c_5
        omega
    · have c_4 := zn_neF (a := 5) (b := 1) (by omega) (by omega) c_4
      omega
  · have c_3 := zq_neF (x := 5) (by omega) c_3
    omega
set_option maxHeartbeats 400000 in
set_option maxRecDepth 100000 in
theorem c_X12_ofSetNow_6 (l : Launch) (D : va_G) (ty : Nat → ClassId) (A : Nat → Prop) (u : Nat → Nat → Prop) (C : Nat → Nat → va_E) (ma : Nat → Nat → Nat) (t0 mi : Nat) (g : Nat → Nat → Int32) (n1 n2 nL n4 n5 : Nat) (th : Int32) (rep bro : Nat → Nat → Int32) (hR : mR ty t0 g n1 n2 nL n4 n5 th rep bro u C ma) (ah : Nat) (i : Nat) (hi : i < n1) : Met l yX12_ofSetNow wsX12_ofSetNow ({ frames := 6, cells := 0, slots := 0, locals := 200 }) (va_Pc [.ref (ma 0 0), .ref ah, .int (nI i), .int (nI 6)] (mIh D ty A u C ma t0 mi ah (g 21))) (vp_Si (fun v_ => v_ = ofSetN g n5 i 6)) 0 0 (fun _ => False) := by
  refine zMet (cc := cX12_ofSetNow) (maxL := 8) (ret := (some .int)) (by decide) rfl (Nat.le_of_ble_eq_true rfl) ?_
  intro p e s m below meth c hx hb hr hts hown hlocks hml hB ls hl
  obtain ⟨⟨hM, hK, hMS⟩, ⟨hmb, hmd, hA⟩⟩ := hB
  have hS : va_S A s.heap s.heap [] := va_S.rf
  have hbn := hR.I.b1
  have hbs := hR.I.b2
  have hbl := hR.I.bL
  have hbc := hR.I.b4
  have hbr := hR.I.b5
  have hl : lv_has ls 8 [(0, .ref (ma 0 0)), (1, .ref ah), (2, .int (nI i)), (3, .int (nI 6))] := hl
  have hinX12 : ∀ w ∈ wsX120, w ∈ wsX12_ofSetNow := by decide +kernel
  have hk1 := hts (.fieldLink RX12 10 "DatamarketDeskModel" "sets" "Ljava/util/ArrayList;") (by decide +kernel)
  have hk2 := hts (.classLink RX12 49 "DatamarketDeskModel$DataSet") (by decide +kernel)
  have hk3 := hts (.fieldLink RX12 22 "DatamarketDeskModel" "reads" "Ljava/util/ArrayList;") (by decide +kernel)
  have hk4 := hts (.classLink RX12 152 "DatamarketDeskModel$Read") (by decide +kernel)
  have hinX9 : ∀ w ∈ wsX90, w ∈ wsX12_ofSetNow := by decide +kernel
  have hk6 := hts (.fieldLink RX12 175 "DatamarketDeskModel$Read" "set" "I") (by decide +kernel)
  refine lv_aload_n hx hb dX12_ofSetNow_0 rfl (lv_at hl 0 rfl) ?_
  refine va_get hx hb hts hinX12 hown hK (hM.Pa hR.o.1 rfl hR.o.2) 0 rfl rfl 1 (by decide) (hk1) (fun _ h9 => h9) rfl dX12_ofSetNow_1 ?_
  refine lv_iload_n hx hb dX12_ofSetNow_4 rfl (lv_at hl 2 rfl) ?_
  obtain ⟨huz_1, hnz_1, mz_1, bz_1, hCz_1⟩ := isL.hd hR.l1
  refine zcVr (x := .ref (ma 9 i)) (As := [.int (nI i)]) (rest := []) ⟨hx, hb, hml, hown, hts⟩ (c_get l D ty A u C ma t0 mi 1 0 n1 (ma 9) hR.l1 i (by omega)) (cwV 1 hts gX12_ofSetNow_Jx4a65c_get_915e3 rfl rfl rfl (by decide +kernel) ⟨Nat.le_of_ble_eq_true rfl, Nat.le_of_ble_eq_true rfl⟩) mI_blind (mI_pre hM hK hMS hS) (va_recv hK (hM.Pa huz_1 rfl hCz_1) (ci := 0) (q0 := 0) rfl rfl) rfl hl.1 rfl (Nat.le_of_ble_eq_true rfl) dX12_ofSetNow_5 ⟨Nat.le_of_ble_eq_true rfl, Nat.le_of_ble_eq_true rfl⟩ ?_
  refine va_castS hx hb hown (hk2) ((hK.1 8 _ rfl).2) (va_recv hK (hM.Pa (hR.s9 (i := i) (by omega)).1 rfl (hR.s9 (i := i) (by omega)).2) (ci := 8) (q0 := 0) rfl rfl) dX12_ofSetNow_8 ?_
  refine lv_astore (lv' := [(4, .ref (ma 9 i)), (0, .ref (ma 0 0)), (1, .ref ah), (2, .int (nI i)), (3, .int (nI 6))]) hx hb dX12_ofSetNow_11 hl (by decide) rfl (fun ls hl => ?_)
  refine lv_iload_n hx hb dX12_ofSetNow_13 rfl (lv_at hl 4 rfl) ?_
  refine lv_if_ne (tgt := 23) hx hb dX12_ofSetNow_14 (by decide) (fun c_3 => ?_) (fun c_3 => ?_)
  · have c_3 := zq_neT (x := 6) (by omega) c_3
    refine lv_iload_n hx hb dX12_ofSetNow_23 rfl (lv_at hl 4 rfl) ?_
    refine lv_iconst (v := nI 1) hx hb dX12_ofSetNow_24 (by decide) ?_
    refine lv_icmp_ne (tgt := 37) hx hb dX12_ofSetNow_25 (by decide) (fun c_4 => ?_) (fun c_4 => ?_)
    · have c_4 := zn_neT (a := 6) (b := 1) (by omega) (by omega) c_4
      refine lv_iload_n hx hb dX12_ofSetNow_37 rfl (lv_at hl 4 rfl) ?_
      refine lv_iconst (v := nI 2) hx hb dX12_ofSetNow_38 (by decide) ?_
      refine lv_icmp_ne (tgt := 48) hx hb dX12_ofSetNow_39 (by decide) (fun c_5 => ?_) (fun c_5 => ?_)
      · have c_5 := zn_neT (a := 6) (b := 2) (by omega) (by omega) c_5
        refine lv_iconst (v := nI 0) hx hb dX12_ofSetNow_48 (by decide) ?_
        refine lv_istore (lv' := [(5, .int (nI 0)), (4, .ref (ma 9 i)), (0, .ref (ma 0 0)), (1, .ref ah), (2, .int (nI i)), (3, .int (nI 6))]) hx hb dX12_ofSetNow_49 hl (by decide) rfl (fun ls hl => ?_)
        refine lv_iload_n hx hb dX12_ofSetNow_51 rfl (lv_at hl 5 rfl) ?_
        refine lv_iconst (v := nI 3) hx hb dX12_ofSetNow_52 (by decide) ?_
        refine lv_icmp_ne (tgt := 114) hx hb dX12_ofSetNow_53 (by decide) (fun c_6 => ?_) (fun c_6 => ?_)
        · have c_6 := zn_neT (a := 6) (b := 3) (by omega) (by omega) c_6
          refine lv_iconst (v := nI 0) hx hb dX12_ofSetNow_114 (by decide) ?_
          refine lv_istore (lv' := [(6, .int (nI 0)), (5, .int (nI 0)), (4, .ref (ma 9 i)), (0, .ref (ma 0 0)), (1, .ref ah), (2, .int (nI i)), (3, .int (nI 6))]) hx hb dX12_ofSetNow_115 hl (by decide) rfl (fun ls hl => ?_)
          refine zloopP (τ := Unit) (fun j _ ls => lv_has ls 8 [(5, .int (sumN (fCr g (-1) (nI i) 21) j)), (6, .int (nI j)), (4, .ref (ma 9 i)), (0, .ref (ma 0 0)), (1, .ref ah), (2, .int (nI i)), (3, .int (nI 6))]) n5 ?_ 0 () ls (Nat.zero_le _) (lv_sub hl [1, 0, 2, 3, 4, 5, 6] rfl)
          intro j _ ls hi_j hl ih_j
          have hl : lv_has ls 8 [(5, .int (sumN (fCr g (-1) (nI i) 21) j)), (6, .int (nI j)), (4, .ref (ma 9 i)), (0, .ref (ma 0 0)), (1, .ref ah), (2, .int (nI i)), (3, .int (nI 6))] := hl
          refine lv_iload hx hb dX12_ofSetNow_117 (lv_at hl 1 rfl) ?_
          refine lv_aload_n hx hb dX12_ofSetNow_119 rfl (lv_at hl 3 rfl) ?_
          refine va_get hx hb hts hinX12 hown hK (hM.Pa hR.o.1 rfl hR.o.2) 0 rfl rfl 4 (by decide) (hk3) (fun _ h9 => h9) rfl dX12_ofSetNow_120 ?_
          obtain ⟨huz_7, hnz_7, mz_7, bz_7, hCz_7⟩ := isL.hd hR.l7
          refine zcVi (As := []) (rest := [.int (nI j)]) ⟨hx, hb, hml, hown, hts⟩ (c_size l D ty A u C ma t0 mi 7 0 n5 (ma 26) hR.l7) (cwV 0 hts gX12_ofSetNow_Jx4a65c_size_8abf5 rfl rfl rfl (by decide +kernel) ⟨Nat.le_of_ble_eq_true rfl, Nat.le_of_ble_eq_true rfl⟩) mI_blind (mI_pre hM hK hMS hS) (va_recv hK (hM.Pa huz_7 rfl hCz_7) (ci := 0) (q0 := 0) rfl rfl) rfl hl.1 rfl (Nat.le_of_ble_eq_true rfl) dX12_ofSetNow_123 ⟨Nat.le_of_ble_eq_true rfl, Nat.le_of_ble_eq_true rfl⟩ (fun r_8 hr_8 => ?_)
          subst hr_8
          refine lv_icmp_ge (tgt := 191) hx hb dX12_ofSetNow_126 (by decide) (fun c_9 => ?_) (fun c_9 => ?_)
          · have c_9 := zn_geT (a := j) (b := n5) (by omega) (by omega) c_9
            obtain rfl : j = n5 := by omega
            refine lv_iload hx hb dX12_ofSetNow_191 (lv_at hl 0 rfl) ?_
            exact W.iret (v := sumN (fCr g (-1) (nI i) 21) j) hx hb hr (fun t ht hW => ⟨_, rfl, rfl, ht⟩) (fun _ h => nomatch h) dX12_ofSetNow_193
          · have c_9 := zn_geF (a := j) (b := n5) (by omega) (by omega) c_9
            refine lv_aload_n hx hb dX12_ofSetNow_129 rfl (lv_at hl 3 rfl) ?_
            refine va_get hx hb hts hinX12 hown hK (hM.Pa hR.o.1 rfl hR.o.2) 0 rfl rfl 4 (by decide) (hk3) (fun _ h9 => h9) rfl dX12_ofSetNow_130 ?_
            refine lv_iload hx hb dX12_ofSetNow_133 (lv_at hl 1 rfl) ?_
            obtain ⟨huz_10, hnz_10, mz_10, bz_10, hCz_10⟩ := isL.hd hR.l7
            refine zcVr (x := .ref (ma 26 j)) (As := [.int (nI j)]) (rest := []) ⟨hx, hb, hml, hown, hts⟩ (c_get l D ty A u C ma t0 mi 7 0 n5 (ma 26) hR.l7 j (by omega)) (cwV 1 hts gX12_ofSetNow_Jx4a65c_get_915e3 rfl rfl rfl (by decide +kernel) ⟨Nat.le_of_ble_eq_true rfl, Nat.le_of_ble_eq_true rfl⟩) mI_blind (mI_pre hM hK hMS hS) (va_recv hK (hM.Pa huz_10 rfl hCz_10) (ci := 0) (q0 := 0) rfl rfl) rfl hl.1 rfl (Nat.le_of_ble_eq_true rfl) dX12_ofSetNow_135 ⟨Nat.le_of_ble_eq_true rfl, Nat.le_of_ble_eq_true rfl⟩ ?_
            refine va_castS hx hb hown (hk4) ((hK.1 10 _ rfl).2) (va_recv hK (hM.Pa (hR.r26 (r := j) (by omega)).1 rfl (hR.r26 (r := j) (by omega)).2) (ci := 10) (q0 := 0) rfl rfl) dX12_ofSetNow_138 ?_
            refine lv_astore (lv' := [(7, .ref (ma 26 j)), (5, .int (sumN (fCr g (-1) (nI i) 21) j)), (6, .int (nI j)), (4, .ref (ma 9 i)), (0, .ref (ma 0 0)), (1, .ref ah), (2, .int (nI i)), (3, .int (nI 6))]) hx hb dX12_ofSetNow_141 hl (by decide) rfl (fun ls hl => ?_)
            refine lv_aload hx hb dX12_ofSetNow_143 (lv_at hl 0 rfl) ?_
            refine va_get hx hb hts hinX9 hown hK (hM.Pa (hR.r26 (r := j) (by omega)).1 rfl (hR.r26 (r := j) (by omega)).2) 0 rfl rfl 1 (by decide) (hk6) (fun _ h9 => h9) rfl dX12_ofSetNow_145 ?_
            refine lv_iload_n hx hb dX12_ofSetNow_148 rfl (lv_at hl 6 rfl) ?_
            refine lv_icmp_ne (tgt := 185) hx hb dX12_ofSetNow_149 (by decide) (fun c_12 => ?_) (fun c_12 => ?_)
            · refine lv_iinc (v := nI (j + 1)) (lv' := [(6, .int (nI (j + 1))), (7, .ref (ma 26 j)), (5, .int (sumN (fCr g (-1) (nI i) 21) j)), (4, .ref (ma 9 i)), (0, .ref (ma 0 0)), (1, .ref ah), (2, .int (nI i)), (3, .int (nI 6))]) hx hb dX12_ofSetNow_185 hl (k := 2) rfl (nI_add j 1) (by decide) rfl (fun ls hl => ?_)
              refine lv_goto (tgt := 117) hx hb dX12_ofSetNow_188 (by decide) ?_
              refine ih_j () ls (by omega) (show lv_has ls 8 [(5, .int (sumN (fCr g (-1) (nI i) 21) (j + 1))), (6, .int (nI (j + 1))), (4, .ref (ma 9 i)), (0, .ref (ma 0 0)), (1, .ref ah), (2, .int (nI i)), (3, .int (nI 6))] from ?_)
              rw [show sumN (fCr g (-1) (nI i) 21) (j + 1) = sumN (fCr g (-1) (nI i) 21) j from (congrArg (fun z => (sumN (fCr g (-1) (nI i) 21) j) +  z) (show (fCr g (-1) (nI i) 21) j = 0 from by unfold fCr; rw [ofB_s (by omega)]; simp only [decide_eq_false c_12, Bool.not_true, Bool.not_false, Bool.and_true, Bool.true_and, Bool.and_false, Bool.false_and, Bool.or_true, Bool.true_or, Bool.or_false, Bool.false_or, Bool.and_self, Bool.or_self, if_true, Bool.false_eq_true, if_false] <;> rfl)).trans (Int32.add_zero _)]
              exact lv_sub hl [2, 0, 3, 4, 5, 6, 7] rfl
            · refine lv_iload hx hb dX12_ofSetNow_152 (lv_at hl 1 rfl) ?_
              refine lv_iload_n hx hb dX12_ofSetNow_154 rfl (lv_at hl 7 rfl) ?_
              refine lv_iconst (v := nI 4) hx hb dX12_ofSetNow_155 (by decide) ?_
              refine lv_icmp_ne (tgt := 163) hx hb dX12_ofSetNow_156 (by decide) (fun c_13 => ?_) (fun c_13 => ?_)
              · have c_13 := zn_neT (a := 6) (b := 4) (by omega) (by omega) c_13
                refine lv_iload_n hx hb dX12_ofSetNow_163 rfl (lv_at hl 7 rfl) ?_
                refine lv_iconst (v := nI 5) hx hb dX12_ofSetNow_164 (by decide) ?_
                refine lv_icmp_ne (tgt := 176) hx hb dX12_ofSetNow_165 (by decide) (fun c_14 => ?_) (fun c_14 => ?_)
                · have c_14 := zn_neT (a := 6) (b := 5) (by omega) (by omega) c_14
                  refine lv_aload hx hb dX12_ofSetNow_176 (lv_at hl 0 rfl) ?_
                  refine lv_aload_n hx hb dX12_ofSetNow_178 rfl (lv_at hl 5 rfl) ?_
                  refine zcVi (As := [.ref ah]) (rest := [.int (sumN (fCr g (-1) (nI i) 21) j)]) ⟨hx, hb, hml, hown, hts⟩ (c_X9_credit l D ty A u C ma t0 mi g n1 n2 nL n4 n5 th rep bro hR _ j (by omega)) (cwV 1 hts gX12_ofSetNow_X9_credit rfl rfl rfl (by decide +kernel) ⟨Nat.le_of_ble_eq_true rfl, Nat.le_of_ble_eq_true rfl⟩) mIh_blind (mIh_pre hM hK hMS hS hA) (va_recv hK (hM.Pa (hR.r26 (r := j) (by omega)).1 rfl (hR.r26 (r := j) (by omega)).2) (ci := 10) (q0 := 0) rfl rfl) rfl hl.1 rfl (Nat.le_of_ble_eq_true rfl) dX12_ofSetNow_179 ⟨Nat.le_of_ble_eq_true rfl, Nat.le_of_ble_eq_true rfl⟩ (fun r_15 hr_15 => ?_)
                  subst hr_15
                  refine lv_iadd hx hb dX12_ofSetNow_182 ?_
                  refine lv_istore (lv' := [(5, .int ((sumN (fCr g (-1) (nI i) 21) j) + (crN g 21 j))), (7, .ref (ma 26 j)), (6, .int (nI j)), (4, .ref (ma 9 i)), (0, .ref (ma 0 0)), (1, .ref ah), (2, .int (nI i)), (3, .int (nI 6))]) hx hb dX12_ofSetNow_183 hl (by decide) rfl (fun ls hl => ?_)
                  refine lv_iinc (v := nI (j + 1)) (lv' := [(6, .int (nI (j + 1))), (5, .int ((sumN (fCr g (-1) (nI i) 21) j) + (crN g 21 j))), (7, .ref (ma 26 j)), (4, .ref (ma 9 i)), (0, .ref (ma 0 0)), (1, .ref ah), (2, .int (nI i)), (3, .int (nI 6))]) hx hb dX12_ofSetNow_185 hl (k := 2) rfl (nI_add j 1) (by decide) rfl (fun ls hl => ?_)
                  refine lv_goto (tgt := 117) hx hb dX12_ofSetNow_188 (by decide) ?_
                  refine ih_j () ls (by omega) (show lv_has ls 8 [(5, .int (sumN (fCr g (-1) (nI i) 21) (j + 1))), (6, .int (nI (j + 1))), (4, .ref (ma 9 i)), (0, .ref (ma 0 0)), (1, .ref ah), (2, .int (nI i)), (3, .int (nI 6))] from ?_)
                  rw [show sumN (fCr g (-1) (nI i) 21) (j + 1) = (sumN (fCr g (-1) (nI i) 21) j) + (crN g 21 j) from congrArg (fun z => (sumN (fCr g (-1) (nI i) 21) j) +  z) (show (fCr g (-1) (nI i) 21) j = (crN g 21 j) from by unfold fCr; rw [ofB_s (by omega)]; simp only [decide_eq_true c_12, Bool.not_true, Bool.not_false, Bool.and_true, Bool.true_and, Bool.and_false, Bool.false_and, Bool.or_true, Bool.true_or, Bool.or_false, Bool.false_or, Bool.and_self, Bool.or_self, if_true, Bool.false_eq_true, if_false] <;> rfl)]
                  exact lv_sub hl [1, 0, 3, 4, 5, 6, 7] rfl
                · have c_14 := zn_neF (a := 6) (b := 5) (by omega) (by omega) c_14
                  omega
              · have c_13 := zn_neF (a := 6) (b := 4) (by omega) (by omega) c_13
                omega
        · have c_6 := zn_neF (a := 6) (b := 3) (by omega) (by omega) c_6
          omega
      · have c_5 := zn_neF (a := 6) (b := 2) (by omega) (by omega) c_5
        omega
    · have c_4 := zn_neF (a := 6) (b := 1) (by omega) (by omega) c_4
      omega
  · have c_3 := zq_neF (x := 6) (by omega) c_3
    omega
theorem c_X12_ofSetNow (l : Launch) (D : va_G) (ty : Nat → ClassId) (A : Nat → Prop) (u : Nat → Nat → Prop) (C : Nat → Nat → va_E) (ma : Nat → Nat → Nat) (t0 mi : Nat) (g : Nat → Nat → Int32) (n1 n2 nL n4 n5 : Nat) (th : Int32) (rep bro : Nat → Nat → Int32) (hR : mR ty t0 g n1 n2 nL n4 n5 th rep bro u C ma) (ah : Nat) (i : Nat) (hi : i < n1) (w0 : Nat) (hw : w0 < 7) : Met l yX12_ofSetNow wsX12_ofSetNow ({ frames := 6, cells := 0, slots := 0, locals := 200 }) (va_Pc [.ref (ma 0 0), .ref ah, .int (nI i), .int (nI w0)] (mIh D ty A u C ma t0 mi ah (g 21))) (vp_Si (fun v_ => v_ = ofSetN g n5 i w0)) 0 0 (fun _ => False) := by
  rcases (show w0 = 0 ∨ w0 = 1 ∨ w0 = 2 ∨ w0 = 3 ∨ w0 = 4 ∨ w0 = 5 ∨ w0 = 6 by omega) with rfl | rfl | rfl | rfl | rfl | rfl | rfl
  · exact c_X12_ofSetNow_0 l D ty A u C ma t0 mi g n1 n2 nL n4 n5 th rep bro hR ah i hi
  · exact c_X12_ofSetNow_1 l D ty A u C ma t0 mi g n1 n2 nL n4 n5 th rep bro hR ah i hi
  · exact c_X12_ofSetNow_2 l D ty A u C ma t0 mi g n1 n2 nL n4 n5 th rep bro hR ah i hi
  · exact c_X12_ofSetNow_3 l D ty A u C ma t0 mi g n1 n2 nL n4 n5 th rep bro hR ah i hi
  · exact c_X12_ofSetNow_4 l D ty A u C ma t0 mi g n1 n2 nL n4 n5 th rep bro hR ah i hi
  · exact c_X12_ofSetNow_5 l D ty A u C ma t0 mi g n1 n2 nL n4 n5 th rep bro hR ah i hi
  · exact c_X12_ofSetNow_6 l D ty A u C ma t0 mi g n1 n2 nL n4 n5 th rep bro hR ah i hi
