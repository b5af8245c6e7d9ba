set_option maxHeartbeats 4000000 in
set_option maxRecDepth 100000 in
theorem c_X5_fieldAt (l : Launch) (B : State → Prop) (x0 x1 : Nat) : Met l yX5_fieldAt wsX5_fieldAt ({ frames := 0, cells := 0, slots := 0, locals := 0 }) (va_Pc [.int (nI x0), .int (nI x1)] (B)) (vp_Si (fun v => v = nI (x0 * 6 + x1))) 0 0 (fun _ => False) := by
  refine zMet (cc := cX5_fieldAt) (maxL := 2) (ret := (some .int)) (by decide) rfl (Nat.le_of_ble_eq_true rfl) ?_
  intro p e s m below meth c hx hb hr hts hown hlocks hml hB ls hl
  have hl : lv_has ls 2 [(0, .int (nI x0)), (1, .int (nI x1))] := hl
  refine lv_iload_n hx hb dX5_fieldAt_0 rfl (lv_at hl 0 rfl) ?_
  refine lv_bipush (v := nI 6) hx hb dX5_fieldAt_1 (by decide) ?_
  refine lv_imul hx hb dX5_fieldAt_3 ?_
  refine zeq (pk_mul x0 6) ?_
  refine lv_iload_n hx hb dX5_fieldAt_4 rfl (lv_at hl 1 rfl) ?_
  refine lv_iadd hx hb dX5_fieldAt_5 ?_
  refine zeq (nI_add (x0 * 6) x1) ?_
  exact W.iret (v := nI ((x0 * 6) + x1)) hx hb hr (fun t ht hW => ⟨_, rfl, rfl, ht⟩) (fun _ h => nomatch h) dX5_fieldAt_6
set_option maxHeartbeats 4000000 in
set_option maxRecDepth 100000 in
theorem c_X5_versionAt (l : Launch) (B : State → Prop) (x0 x1 : Nat) : Met l yX5_versionAt wsX5_versionAt ({ frames := 0, cells := 0, slots := 0, locals := 0 }) (va_Pc [.int (nI x0), .int (nI x1)] (B)) (vp_Si (fun v => v = nI (x0 * 6 + x1))) 0 0 (fun _ => False) := by
  refine zMet (cc := cX5_versionAt) (maxL := 2) (ret := (some .int)) (by decide) rfl (Nat.le_of_ble_eq_true rfl) ?_
  intro p e s m below meth c hx hb hr hts hown hlocks hml hB ls hl
  have hl : lv_has ls 2 [(0, .int (nI x0)), (1, .int (nI x1))] := hl
  refine lv_iload_n hx hb dX5_versionAt_0 rfl (lv_at hl 0 rfl) ?_
  refine lv_bipush (v := nI 6) hx hb dX5_versionAt_1 (by decide) ?_
  refine lv_imul hx hb dX5_versionAt_3 ?_
  refine zeq (pk_mul x0 6) ?_
  refine lv_iload_n hx hb dX5_versionAt_4 rfl (lv_at hl 1 rfl) ?_
  refine lv_iadd hx hb dX5_versionAt_5 ?_
  refine zeq (nI_add (x0 * 6) x1) ?_
  exact W.iret (v := nI ((x0 * 6) + x1)) hx hb hr (fun t ht hW => ⟨_, rfl, rfl, ht⟩) (fun _ h => nomatch h) dX5_versionAt_6
set_option maxHeartbeats 4000000 in
set_option maxRecDepth 100000 in
theorem c_X5_chargeAt (l : Launch) (B : State → Prop) (x0 x1 : Nat) : Met l yX5_chargeAt wsX5_chargeAt ({ frames := 0, cells := 0, slots := 0, locals := 0 }) (va_Pc [.int (nI x0), .int (nI x1)] (B)) (vp_Si (fun v => v = nI (x0 * 6 + x1))) 0 0 (fun _ => False) := by
  refine zMet (cc := cX5_chargeAt) (maxL := 2) (ret := (some .int)) (by decide) rfl (Nat.le_of_ble_eq_true rfl) ?_
  intro p e s m below meth c hx hb hr hts hown hlocks hml hB ls hl
  have hl : lv_has ls 2 [(0, .int (nI x0)), (1, .int (nI x1))] := hl
  refine lv_iload_n hx hb dX5_chargeAt_0 rfl (lv_at hl 0 rfl) ?_
  refine lv_bipush (v := nI 6) hx hb dX5_chargeAt_1 (by decide) ?_
  refine lv_imul hx hb dX5_chargeAt_3 ?_
  refine zeq (pk_mul x0 6) ?_
  refine lv_iload_n hx hb dX5_chargeAt_4 rfl (lv_at hl 1 rfl) ?_
  refine lv_iadd hx hb dX5_chargeAt_5 ?_
  refine zeq (nI_add (x0 * 6) x1) ?_
  exact W.iret (v := nI ((x0 * 6) + x1)) hx hb hr (fun t ht hW => ⟨_, rfl, rfl, ht⟩) (fun _ h => nomatch h) dX5_chargeAt_6
set_option maxHeartbeats 4000000 in
set_option maxRecDepth 100000 in
theorem c_X5_previewAt (l : Launch) (B : State → Prop) (x0 x1 : Nat) : Met l yX5_previewAt wsX5_previewAt ({ frames := 0, cells := 0, slots := 0, locals := 0 }) (va_Pc [.int (nI x0), .int (nI x1)] (B)) (vp_Si (fun v => v = nI (x0 * 8 + x1))) 0 0 (fun _ => False) := by
  refine zMet (cc := cX5_previewAt) (maxL := 2) (ret := (some .int)) (by decide) rfl (Nat.le_of_ble_eq_true rfl) ?_
  intro p e s m below meth c hx hb hr hts hown hlocks hml hB ls hl
  have hl : lv_has ls 2 [(0, .int (nI x0)), (1, .int (nI x1))] := hl
  refine lv_iload_n hx hb dX5_previewAt_0 rfl (lv_at hl 0 rfl) ?_
  refine lv_bipush (v := nI 8) hx hb dX5_previewAt_1 (by decide) ?_
  refine lv_imul hx hb dX5_previewAt_3 ?_
  refine zeq (pk_mul x0 8) ?_
  refine lv_iload_n hx hb dX5_previewAt_4 rfl (lv_at hl 1 rfl) ?_
  refine lv_iadd hx hb dX5_previewAt_5 ?_
  refine zeq (nI_add (x0 * 8) x1) ?_
  exact W.iret (v := nI ((x0 * 8) + x1)) hx hb hr (fun t ht hW => ⟨_, rfl, rfl, ht⟩) (fun _ h => nomatch h) dX5_previewAt_6
set_option maxHeartbeats 4000000 in
set_option maxRecDepth 100000 in
theorem c_X5_placeAt (l : Launch) (B : State → Prop) (x0 x1 x2 : Nat) : Met l yX5_placeAt wsX5_placeAt ({ frames := 0, cells := 0, slots := 0, locals := 0 }) (va_Pc [.int (nI x0), .int (nI x1), .int (nI x2)] (B)) (vp_Si (fun v => v = nI ((x0 * 6 + x1) * 6 + x2))) 0 0 (fun _ => False) := by
  refine zMet (cc := cX5_placeAt) (maxL := 3) (ret := (some .int)) (by decide) rfl (Nat.le_of_ble_eq_true rfl) ?_
  intro p e s m below meth c hx hb hr hts hown hlocks hml hB ls hl
  have hl : lv_has ls 3 [(0, .int (nI x0)), (1, .int (nI x1)), (2, .int (nI x2))] := hl
  refine lv_iload_n hx hb dX5_placeAt_0 rfl (lv_at hl 0 rfl) ?_
  refine lv_bipush (v := nI 6) hx hb dX5_placeAt_1 (by decide) ?_
  refine lv_imul hx hb dX5_placeAt_3 ?_
  refine zeq (pk_mul x0 6) ?_
  refine lv_iload_n hx hb dX5_placeAt_4 rfl (lv_at hl 1 rfl) ?_
  refine lv_iadd hx hb dX5_placeAt_5 ?_
  refine zeq (nI_add (x0 * 6) x1) ?_
  refine lv_bipush (v := nI 6) hx hb dX5_placeAt_6 (by decide) ?_
  refine lv_imul hx hb dX5_placeAt_8 ?_
  refine zeq (pk_mul ((x0 * 6) + x1) 6) ?_
  refine lv_iload_n hx hb dX5_placeAt_9 rfl (lv_at hl 2 rfl) ?_
  refine lv_iadd hx hb dX5_placeAt_10 ?_
  refine zeq (nI_add (((x0 * 6) + x1) * 6) x2) ?_
  exact W.iret (v := nI ((((x0 * 6) + x1) * 6) + x2)) hx hb hr (fun t ht hW => ⟨_, rfl, rfl, ht⟩) (fun _ h => nomatch h) dX5_placeAt_11
set_option maxHeartbeats 4000000 in
set_option maxRecDepth 100000 in
theorem c_X5_has (l : Launch) (B : State → Prop) (F : Int32) (f : Nat) : Met l yX5_has wsX5_has ({ frames := 0, cells := 0, slots := 0, locals := 0 }) (va_Pc [.int F, .int (nI f)] (B)) (vp_Si (fun v => v = bI (hasB F f))) 0 0 (fun _ => False) := by
  refine zMet (cc := cX5_has) (maxL := 2) (ret := (some .boolean)) (by decide) rfl (Nat.le_of_ble_eq_true rfl) ?_
  intro p e s m below meth c hx hb hr hts hown hlocks hml hB ls hl
  have hl : lv_has ls 2 [(0, .int F), (1, .int (nI f))] := hl
  refine lv_iload_n hx hb dX5_has_0 rfl (lv_at hl 0 rfl) ?_
  refine lv_iload_n hx hb dX5_has_1 rfl (lv_at hl 1 rfl) ?_
  refine lv_ishr hx hb dX5_has_2 ?_
  refine lv_iconst (v := nI 1) hx hb dX5_has_3 (by decide) ?_
  refine lv_iand hx hb dX5_has_4 ?_
  refine lv_if_eq (tgt := 12) hx hb dX5_has_5 (by decide) (fun c_1 => ?_) (fun c_1 => ?_)
  · refine lv_iconst (v := nI 0) hx hb dX5_has_12 (by decide) ?_
    exact W.zret (v := nI 0) hx hb hr rfl (fun t ht hW => ⟨_, rfl, bI_n0 (by simp only [hasB, decide_eq_true c_1, Bool.not_true, Bool.not_false, Bool.and_true, Bool.true_and, Bool.and_false, Bool.false_and, Bool.or_true, Bool.true_or, Bool.or_false, Bool.false_or, Bool.and_self, Bool.or_self]), ht⟩) (fun _ h => nomatch h) dX5_has_13
  · refine lv_iconst (v := nI 1) hx hb dX5_has_8 (by decide) ?_
    refine lv_goto (tgt := 13) hx hb dX5_has_9 (by decide) ?_
    exact W.zret (v := nI 1) hx hb hr rfl (fun t ht hW => ⟨_, rfl, bI_n1 (by simp only [hasB, decide_eq_false c_1, Bool.not_true, Bool.not_false, Bool.and_true, Bool.true_and, Bool.and_false, Bool.false_and, Bool.or_true, Bool.true_or, Bool.or_false, Bool.false_or, Bool.and_self, Bool.or_self]), ht⟩) (fun _ h => nomatch h) dX5_has_13
set_option maxHeartbeats 4000000 in
set_option maxRecDepth 100000 in
theorem c_X0_isOn (l : Launch) (D : va_G) (ty : Nat → ClassId) (g : Nat → Nat → Int32) (ad : Nat → Nat) (c0 : Nat) (hc0 : c0 < 16) (d : Int32) : Met l yX0_isOn wsX0_isOn ({ frames := 0, cells := 0, slots := 0, locals := 0 }) (va_Pc [.ref (ad 4), .int (nI c0), .int d] (zI D ty g ad)) (vp_Si (fun v => v = bI (onB g c0 d))) 0 0 (fun _ => False) := by
  refine zMet (cc := cX0_isOn) (maxL := 3) (ret := (some .boolean)) (by decide) rfl (Nat.le_of_ble_eq_true rfl) ?_
  intro p e s m below meth c hx hb hr hts hown hlocks hml hB ls hl
  obtain ⟨hP, hK, hN⟩ := hB
  have hl : lv_has ls 3 [(0, .ref (ad 4)), (1, .int (nI c0)), (2, .int d)] := hl
  have hk0 := hts (.fieldLink RX0 28 "DatamarketDesk$Contracts" "firstDays" "[I") (by decide +kernel)
  have hinX0 : ∀ w ∈ wsX00, w ∈ wsX0_isOn := by decide +kernel
  have hk2 := hts (.fieldLink RX0 31 "DatamarketDesk$Contracts" "lastDays" "[I") (by decide +kernel)
  refine lv_aload_n hx hb dX0_isOn_0 rfl (lv_at hl 0 rfl) ?_
  refine va_get hx hb hts hinX0 hown hK hP 4 rfl rfl 5 (by decide) (hk0) (fun _ h9 => h9) rfl dX0_isOn_1 ?_
  refine lv_iload_n hx hb dX0_isOn_4 rfl (lv_at hl 1 rfl) ?_
  refine zald hx hb hK hP 27 0 rfl rfl (i := c0) (by omega) (by decide) dX0_isOn_5 ?_
  refine lv_iload_n hx hb dX0_isOn_6 rfl (lv_at hl 2 rfl) ?_
  refine lv_icmp_gt (tgt := 24) hx hb dX0_isOn_7 (by decide) (fun c_1 => ?_) (fun c_1 => ?_)
  · refine lv_iconst (v := nI 0) hx hb dX0_isOn_24 (by decide) ?_
    exact W.zret (v := nI 0) hx hb hr rfl (fun t ht hW => ⟨_, rfl, bI_n0 (by simp only [onB, decide_eq_true c_1, Bool.not_true, Bool.not_false, Bool.and_true, Bool.true_and, Bool.and_false, Bool.false_and, Bool.or_true, Bool.true_or, Bool.or_false, Bool.false_or, Bool.and_self, Bool.or_self]), ht⟩) (fun _ h => nomatch h) dX0_isOn_25
  · refine lv_iload_n hx hb dX0_isOn_10 rfl (lv_at hl 2 rfl) ?_
    refine lv_aload_n hx hb dX0_isOn_11 rfl (lv_at hl 0 rfl) ?_
    refine va_get hx hb hts hinX0 hown hK hP 4 rfl rfl 6 (by decide) (hk2) (fun _ h9 => h9) rfl dX0_isOn_12 ?_
    refine lv_iload_n hx hb dX0_isOn_15 rfl (lv_at hl 1 rfl) ?_
    refine zald hx hb hK hP 28 0 rfl rfl (i := c0) (by omega) (by decide) dX0_isOn_16 ?_
    refine lv_icmp_gt (tgt := 24) hx hb dX0_isOn_17 (by decide) (fun c_2 => ?_) (fun c_2 => ?_)
    · refine lv_iconst (v := nI 0) hx hb dX0_isOn_24 (by decide) ?_
      exact W.zret (v := nI 0) hx hb hr rfl (fun t ht hW => ⟨_, rfl, bI_n0 (by simp only [onB, decide_eq_false c_1, decide_eq_true c_2, Bool.not_true, Bool.not_false, Bool.and_true, Bool.true_and, Bool.and_false, Bool.false_and, Bool.or_true, Bool.true_or, Bool.or_false, Bool.false_or, Bool.and_self, Bool.or_self]), ht⟩) (fun _ h => nomatch h) dX0_isOn_25
    · refine lv_iconst (v := nI 1) hx hb dX0_isOn_20 (by decide) ?_
      refine lv_goto (tgt := 25) hx hb dX0_isOn_21 (by decide) ?_
      exact W.zret (v := nI 1) hx hb hr rfl (fun t ht hW => ⟨_, rfl, bI_n1 (by simp only [onB, decide_eq_false c_1, decide_eq_false c_2, Bool.not_true, Bool.not_false, Bool.and_true, Bool.true_and, Bool.and_false, Bool.false_and, Bool.or_true, Bool.true_or, Bool.or_false, Bool.false_or, Bool.and_self, Bool.or_self]), ht⟩) (fun _ h => nomatch h) dX0_isOn_25
set_option maxHeartbeats 4000000 in
set_option maxRecDepth 100000 in
theorem c_X0_isFor (l : Launch) (D : va_G) (ty : Nat → ClassId) (g : Nat → Nat → Int32) (ad : Nat → Nat) (c0 : Nat) (hc0 : c0 < 16) (R S M d : Int32) : Met l yX0_isFor wsX0_isFor ({ frames := 1, cells := 0, slots := 0, locals := 22 }) (va_Pc [.ref (ad 4), .int (nI c0), .int R, .int S, .int M, .int d] (zI D ty g ad)) (vp_Si (fun v => v = bI (forB g c0 R S M d))) 0 0 (fun _ => False) := by
  refine zMet (cc := cX0_isFor) (maxL := 6) (ret := (some .boolean)) (by decide) rfl (Nat.le_of_ble_eq_true rfl) ?_
  intro p e s m below meth c hx hb hr hts hown hlocks hml hB ls hl
  obtain ⟨hP, hK, hN⟩ := hB
  have hl : lv_has ls 6 [(0, .ref (ad 4)), (1, .int (nI c0)), (2, .int R), (3, .int S), (4, .int M), (5, .int d)] := hl
  have hk0 := hts (.fieldLink RX0 15 "DatamarketDesk$Contracts" "readers" "[I") (by decide +kernel)
  have hinX0 : ∀ w ∈ wsX00, w ∈ wsX0_isFor := by decide +kernel
  have hk2 := hts (.fieldLink RX0 19 "DatamarketDesk$Contracts" "sets" "[I") (by decide +kernel)
  have hk3 := hts (.fieldLink RX0 25 "DatamarketDesk$Contracts" "purposes" "[I") (by decide +kernel)
  refine lv_aload_n hx hb dX0_isFor_0 rfl (lv_at hl 0 rfl) ?_
  refine va_get hx hb hts hinX0 hown hK hP 4 rfl rfl 1 (by decide) (hk0) (fun _ h9 => h9) rfl dX0_isFor_1 ?_
  refine lv_iload_n hx hb dX0_isFor_4 rfl (lv_at hl 1 rfl) ?_
  refine zald hx hb hK hP 23 0 rfl rfl (i := c0) (by omega) (by decide) dX0_isFor_5 ?_
  refine lv_iload_n hx hb dX0_isFor_6 rfl (lv_at hl 2 rfl) ?_
  refine lv_icmp_ne (tgt := 46) hx hb dX0_isFor_7 (by decide) (fun c_1 => ?_) (fun c_1 => ?_)
  · refine lv_iconst (v := nI 0) hx hb dX0_isFor_46 (by decide) ?_
    exact W.zret (v := nI 0) hx hb hr rfl (fun t ht hW => ⟨_, rfl, bI_n0 (by simp only [forB, decide_eq_false c_1, Bool.not_true, Bool.not_false, Bool.and_true, Bool.true_and, Bool.and_false, Bool.false_and, Bool.or_true, Bool.true_or, Bool.or_false, Bool.false_or, Bool.and_self, Bool.or_self]), ht⟩) (fun _ h => nomatch h) dX0_isFor_47
  · refine lv_aload_n hx hb dX0_isFor_10 rfl (lv_at hl 0 rfl) ?_
    refine va_get hx hb hts hinX0 hown hK hP 4 rfl rfl 2 (by decide) (hk2) (fun _ h9 => h9) rfl dX0_isFor_11 ?_
    refine lv_iload_n hx hb dX0_isFor_14 rfl (lv_at hl 1 rfl) ?_
    refine zald hx hb hK hP 24 0 rfl rfl (i := c0) (by omega) (by decide) dX0_isFor_15 ?_
    refine lv_iload_n hx hb dX0_isFor_16 rfl (lv_at hl 3 rfl) ?_
    refine lv_icmp_ne (tgt := 46) hx hb dX0_isFor_17 (by decide) (fun c_2 => ?_) (fun c_2 => ?_)
    · refine lv_iconst (v := nI 0) hx hb dX0_isFor_46 (by decide) ?_
      exact W.zret (v := nI 0) hx hb hr rfl (fun t ht hW => ⟨_, rfl, bI_n0 (by simp only [forB, decide_eq_true c_1, decide_eq_false c_2, Bool.not_true, Bool.not_false, Bool.and_true, Bool.true_and, Bool.and_false, Bool.false_and, Bool.or_true, Bool.true_or, Bool.or_false, Bool.false_or, Bool.and_self, Bool.or_self]), ht⟩) (fun _ h => nomatch h) dX0_isFor_47
    · refine lv_aload_n hx hb dX0_isFor_20 rfl (lv_at hl 0 rfl) ?_
      refine va_get hx hb hts hinX0 hown hK hP 4 rfl rfl 4 (by decide) (hk3) (fun _ h9 => h9) rfl dX0_isFor_21 ?_
      refine lv_iload_n hx hb dX0_isFor_24 rfl (lv_at hl 1 rfl) ?_
      refine zald hx hb hK hP 26 0 rfl rfl (i := c0) (by omega) (by decide) dX0_isFor_25 ?_
      refine lv_iload hx hb dX0_isFor_26 (lv_at hl 4 rfl) ?_
      refine lv_iand hx hb dX0_isFor_28 ?_
      refine lv_if_eq (tgt := 46) hx hb dX0_isFor_29 (by decide) (fun c_3 => ?_) (fun c_3 => ?_)
      · refine lv_iconst (v := nI 0) hx hb dX0_isFor_46 (by decide) ?_
        exact W.zret (v := nI 0) hx hb hr rfl (fun t ht hW => ⟨_, rfl, bI_n0 (by simp only [forB, decide_eq_true c_1, decide_eq_true c_2, decide_eq_true c_3, Bool.not_true, Bool.not_false, Bool.and_true, Bool.true_and, Bool.and_false, Bool.false_and, Bool.or_true, Bool.true_or, Bool.or_false, Bool.false_or, Bool.and_self, Bool.or_self]), ht⟩) (fun _ h => nomatch h) dX0_isFor_47
      · refine lv_aload_n hx hb dX0_isFor_32 rfl (lv_at hl 0 rfl) ?_
        refine lv_iload_n hx hb dX0_isFor_33 rfl (lv_at hl 1 rfl) ?_
        refine lv_iload hx hb dX0_isFor_34 (lv_at hl 5 rfl) ?_
        refine zcVi (As := [.int (nI c0), .int d]) (rest := []) ⟨hx, hb, hml, hown, hts⟩ (c_X0_isOn l D ty g ad c0 (by omega) d) (cwV 2 hts gX0_isFor_X0_isOn rfl rfl rfl (by decide +kernel) ⟨Nat.le_of_ble_eq_true rfl, Nat.le_of_ble_eq_true rfl⟩) zI_blind (zI_pre hP hK hN) (va_recv hK hP (ci := 0) (q0 := 4) rfl rfl) rfl hl.1 rfl (Nat.le_of_ble_eq_true rfl) dX0_isFor_36 ⟨Nat.le_of_ble_eq_true rfl, Nat.le_of_ble_eq_true rfl⟩ (fun r_4 hr_4 => ?_)
        subst hr_4
        refine lv_if_eq (tgt := 46) hx hb dX0_isFor_39 (by decide) (fun c_5 => ?_) (fun c_5 => ?_)
        · have c_5 := bI_f c_5
          refine lv_iconst (v := nI 0) hx hb dX0_isFor_46 (by decide) ?_
          exact W.zret (v := nI 0) hx hb hr rfl (fun t ht hW => ⟨_, rfl, bI_n0 (by simp only [forB, decide_eq_true c_1, decide_eq_true c_2, decide_eq_false c_3, c_5, Bool.not_true, Bool.not_false, Bool.and_true, Bool.true_and, Bool.and_false, Bool.false_and, Bool.or_true, Bool.true_or, Bool.or_false, Bool.false_or, Bool.and_self, Bool.or_self]), ht⟩) (fun _ h => nomatch h) dX0_isFor_47
        · have c_5 := bI_t c_5
          refine lv_iconst (v := nI 1) hx hb dX0_isFor_42 (by decide) ?_
          refine lv_goto (tgt := 47) hx hb dX0_isFor_43 (by decide) ?_
          exact W.zret (v := nI 1) hx hb hr rfl (fun t ht hW => ⟨_, rfl, bI_n1 (by simp only [forB, decide_eq_true c_1, decide_eq_true c_2, decide_eq_false c_3, c_5, Bool.not_true, Bool.not_false, Bool.and_true, Bool.true_and, Bool.and_false, Bool.false_and, Bool.or_true, Bool.true_or, Bool.or_false, Bool.false_or, Bool.and_self, Bool.or_self]), ht⟩) (fun _ h => nomatch h) dX0_isFor_47
set_option maxHeartbeats 4000000 in
set_option maxRecDepth 100000 in
theorem c_X0_open (l : Launch) (D : va_G) (ty : Nat → ClassId) (g : Nat → Nat → Int32) (ad : Nat → Nat) (n : Nat) (hn : g 4 0 = nI n) (hn16 : n ≤ 16) (R S M d x : Int32) : Met l yX0_open wsX0_open ({ frames := 2, cells := 0, slots := 0, locals := 47 }) (va_Pc [.ref (ad 4), .int R, .int S, .int M, .int d, .int x] (zI D ty g ad)) (vp_Si (fun v => v = orN (fOpen g R S M d x) n)) 0 0 (fun _ => False) := by
  refine zMet (cc := cX0_open) (maxL := 8) (ret := (some .int)) (by decide) rfl (Nat.le_of_ble_eq_true rfl) ?_
  intro p e s m below meth c hx hb hr hts hown hlocks hml hB ls hl
  obtain ⟨hP, hK, hN⟩ := hB
  have hl : lv_has ls 8 [(0, .ref (ad 4)), (1, .int R), (2, .int S), (3, .int M), (4, .int d), (5, .int x)] := hl
  have hk0 := hts (.fieldLink RX0 9 "DatamarketDesk$Contracts" "count" "I") (by decide +kernel)
  have hinX0 : ∀ w ∈ wsX00, w ∈ wsX0_open := by decide +kernel
  have hk2 := hts (.fieldLink RX0 22 "DatamarketDesk$Contracts" "fields" "[I") (by decide +kernel)
  refine lv_iconst (v := nI 0) hx hb dX0_open_0 (by decide) ?_
  refine lv_istore (lv' := [(6, .int (nI 0)), (0, .ref (ad 4)), (1, .int R), (2, .int S), (3, .int M), (4, .int d), (5, .int x)]) hx hb dX0_open_1 hl (by decide) rfl (fun ls hl => ?_)
  refine lv_iconst (v := nI 0) hx hb dX0_open_3 (by decide) ?_
  refine lv_istore (lv' := [(7, .int (nI 0)), (6, .int (nI 0)), (0, .ref (ad 4)), (1, .int R), (2, .int S), (3, .int M), (4, .int d), (5, .int x)]) hx hb dX0_open_4 hl (by decide) rfl (fun ls hl => ?_)
  refine zloopP (τ := Unit) (fun i _ ls => lv_has ls 8 [(6, .int (orN (fOpen g R S M d x) i)), (7, .int (nI i)), (0, .ref (ad 4)), (1, .int R), (2, .int S), (3, .int M), (4, .int d), (5, .int x)]) n ?_ 0 () ls (Nat.zero_le _) (lv_sub hl [1, 0, 2, 3, 4, 5, 6, 7] rfl)
  intro i _ ls hi_i hl ih_i
  have hl : lv_has ls 8 [(6, .int (orN (fOpen g R S M d x) i)), (7, .int (nI i)), (0, .ref (ad 4)), (1, .int R), (2, .int S), (3, .int M), (4, .int d), (5, .int x)] := hl
  refine lv_iload hx hb dX0_open_6 (lv_at hl 1 rfl) ?_
  refine lv_aload_n hx hb dX0_open_8 rfl (lv_at hl 2 rfl) ?_
  refine va_get hx hb hts hinX0 hown hK hP 4 rfl rfl 0 (by decide) (hk0) (fun _ h9 => h9) rfl dX0_open_9 ?_
  refine zeq hn ?_
  refine lv_icmp_ge (tgt := 54) hx hb dX0_open_12 (by decide) (fun c_1 => ?_) (fun c_1 => ?_)
  · have c_1 := zn_geT (a := i) (b := n) (by omega) (by omega) c_1
    obtain rfl : i = n := by omega
    refine lv_iload hx hb dX0_open_54 (lv_at hl 0 rfl) ?_
    exact W.iret (v := orN (fOpen g R S M d x) i) hx hb hr (fun t ht hW => ⟨_, rfl, rfl, ht⟩) (fun _ h => nomatch h) dX0_open_56
  · have c_1 := zn_geF (a := i) (b := n) (by omega) (by omega) c_1
    refine lv_iload hx hb dX0_open_15 (lv_at hl 1 rfl) ?_
    refine lv_iload hx hb dX0_open_17 (lv_at hl 7 rfl) ?_
    refine lv_icmp_eq (tgt := 48) hx hb dX0_open_19 (by decide) (fun c_2 => ?_) (fun c_2 => ?_)
    · refine lv_iinc (v := nI (i + 1)) (lv' := [(7, .int (nI (i + 1))), (6, .int (orN (fOpen g R S M d x) i)), (0, .ref (ad 4)), (1, .int R), (2, .int S), (3, .int M), (4, .int d), (5, .int x)]) hx hb dX0_open_48 hl (k := 1) rfl (nI_add i 1) (by decide) rfl (fun ls hl => ?_)
      refine lv_goto (tgt := 6) hx hb dX0_open_51 (by decide) ?_
      refine ih_i () ls (by omega) (show lv_has ls 8 [(6, .int (orN (fOpen g R S M d x) (i + 1))), (7, .int (nI (i + 1))), (0, .ref (ad 4)), (1, .int R), (2, .int S), (3, .int M), (4, .int d), (5, .int x)] from ?_)
      rw [show orN (fOpen g R S M d x) (i + 1) = orN (fOpen g R S M d x) i from by simp_all [orN_s, fOpen]]
      exact lv_sub hl [1, 0, 2, 3, 4, 5, 6, 7] rfl
    · refine lv_aload_n hx hb dX0_open_22 rfl (lv_at hl 2 rfl) ?_
      refine lv_iload hx hb dX0_open_23 (lv_at hl 1 rfl) ?_
      refine lv_iload_n hx hb dX0_open_25 rfl (lv_at hl 3 rfl) ?_
      refine lv_iload_n hx hb dX0_open_26 rfl (lv_at hl 4 rfl) ?_
      refine lv_iload_n hx hb dX0_open_27 rfl (lv_at hl 5 rfl) ?_
      refine lv_iload hx hb dX0_open_28 (lv_at hl 6 rfl) ?_
      refine zcVi (As := [.int (nI i), .int R, .int S, .int M, .int d]) (rest := []) ⟨hx, hb, hml, hown, hts⟩ (c_X0_isFor l D ty g ad i (by omega) R S M d) (cwV 5 hts gX0_open_X0_isFor rfl rfl rfl (by decide +kernel) ⟨Nat.le_of_ble_eq_true rfl, Nat.le_of_ble_eq_true rfl⟩) zI_blind (zI_pre hP hK hN) (va_recv hK hP (ci := 0) (q0 := 4) rfl rfl) rfl hl.1 rfl (Nat.le_of_ble_eq_true rfl) dX0_open_30 ⟨Nat.le_of_ble_eq_true rfl, Nat.le_of_ble_eq_true rfl⟩ (fun r_3 hr_3 => ?_)
      subst hr_3
      refine lv_if_eq (tgt := 48) hx hb dX0_open_33 (by decide) (fun c_4 => ?_) (fun c_4 => ?_)
      · have c_4 := bI_f c_4
        refine lv_iinc (v := nI (i + 1)) (lv' := [(7, .int (nI (i + 1))), (6, .int (orN (fOpen g R S M d x) i)), (0, .ref (ad 4)), (1, .int R), (2, .int S), (3, .int M), (4, .int d), (5, .int x)]) hx hb dX0_open_48 hl (k := 1) rfl (nI_add i 1) (by decide) rfl (fun ls hl => ?_)
        refine lv_goto (tgt := 6) hx hb dX0_open_51 (by decide) ?_
        refine ih_i () ls (by omega) (show lv_has ls 8 [(6, .int (orN (fOpen g R S M d x) (i + 1))), (7, .int (nI (i + 1))), (0, .ref (ad 4)), (1, .int R), (2, .int S), (3, .int M), (4, .int d), (5, .int x)] from ?_)
        rw [show orN (fOpen g R S M d x) (i + 1) = orN (fOpen g R S M d x) i from by simp_all [orN_s, fOpen]]
        exact lv_sub hl [1, 0, 2, 3, 4, 5, 6, 7] rfl
      · have c_4 := bI_t c_4
        refine lv_iload hx hb dX0_open_36 (lv_at hl 0 rfl) ?_
        refine lv_aload_n hx hb dX0_open_38 rfl (lv_at hl 2 rfl) ?_
        refine va_get hx hb hts hinX0 hown hK hP 4 rfl rfl 3 (by decide) (hk2) (fun _ h9 => h9) rfl dX0_open_39 ?_
        refine lv_iload hx hb dX0_open_42 (lv_at hl 1 rfl) ?_
        refine zald hx hb hK hP 25 0 rfl rfl (i := i) (by omega) (by decide) dX0_open_44 ?_
        refine lv_ior hx hb dX0_open_45 ?_
        refine lv_istore (lv' := [(6, .int ((orN (fOpen g R S M d x) i) ||| (g 25 i))), (7, .int (nI i)), (0, .ref (ad 4)), (1, .int R), (2, .int S), (3, .int M), (4, .int d), (5, .int x)]) hx hb dX0_open_46 hl (by decide) rfl (fun ls hl => ?_)
        refine lv_iinc (v := nI (i + 1)) (lv' := [(7, .int (nI (i + 1))), (6, .int ((orN (fOpen g R S M d x) i) ||| (g 25 i))), (0, .ref (ad 4)), (1, .int R), (2, .int S), (3, .int M), (4, .int d), (5, .int x)]) hx hb dX0_open_48 hl (k := 1) rfl (nI_add i 1) (by decide) rfl (fun ls hl => ?_)
        refine lv_goto (tgt := 6) hx hb dX0_open_51 (by decide) ?_
        refine ih_i () ls (by omega) (show lv_has ls 8 [(6, .int (orN (fOpen g R S M d x) (i + 1))), (7, .int (nI (i + 1))), (0, .ref (ad 4)), (1, .int R), (2, .int S), (3, .int M), (4, .int d), (5, .int x)] from ?_)
        rw [show orN (fOpen g R S M d x) (i + 1) = (orN (fOpen g R S M d x) i) ||| (g 25 i) from by simp_all [orN_s, fOpen]]
        exact lv_sub hl [1, 0, 2, 3, 4, 5, 6, 7] rfl
set_option maxHeartbeats 4000000 in
set_option maxRecDepth 100000 in
theorem c_X0_countOpen (l : Launch) (D : va_G) (ty : Nat → ClassId) (g : Nat → Nat → Int32) (ad : Nat → Nat) (n : Nat) (hn : g 4 0 = nI n) (hn16 : n ≤ 16) (R d : Int32) : Met l yX0_countOpen wsX0_countOpen ({ frames := 1, cells := 0, slots := 0, locals := 22 }) (va_Pc [.ref (ad 4), .int R, .int d] (zI D ty g ad)) (vp_Si (fun v => v = sumN (fOn g R d) n)) 0 0 (fun _ => False) := by
  refine zMet (cc := cX0_countOpen) (maxL := 5) (ret := (some .int)) (by decide) rfl (Nat.le_of_ble_eq_true rfl) ?_
  intro p e s m below meth c hx hb hr hts hown hlocks hml hB ls hl
  obtain ⟨hP, hK, hN⟩ := hB
  have hl : lv_has ls 5 [(0, .ref (ad 4)), (1, .int R), (2, .int d)] := hl
  have hk0 := hts (.fieldLink RX0 9 "DatamarketDesk$Contracts" "count" "I") (by decide +kernel)
  have hinX0 : ∀ w ∈ wsX00, w ∈ wsX0_countOpen := by decide +kernel
  have hk2 := hts (.fieldLink RX0 15 "DatamarketDesk$Contracts" "readers" "[I") (by decide +kernel)
  refine lv_iconst (v := nI 0) hx hb dX0_countOpen_0 (by decide) ?_
  refine lv_istore_n (lv' := [(3, .int (nI 0)), (0, .ref (ad 4)), (1, .int R), (2, .int d)]) hx hb dX0_countOpen_1 rfl hl (by decide) rfl (fun ls hl => ?_)
  refine lv_iconst (v := nI 0) hx hb dX0_countOpen_2 (by decide) ?_
  refine lv_istore (lv' := [(4, .int (nI 0)), (3, .int (nI 0)), (0, .ref (ad 4)), (1, .int R), (2, .int d)]) hx hb dX0_countOpen_3 hl (by decide) rfl (fun ls hl => ?_)
  refine zloopP (τ := Unit) (fun i _ ls => lv_has ls 5 [(3, .int (sumN (fOn g R d) i)), (4, .int (nI i)), (0, .ref (ad 4)), (1, .int R), (2, .int d)]) n ?_ 0 () ls (Nat.zero_le _) (lv_sub hl [1, 0, 2, 3, 4] rfl)
  intro i _ ls hi_i hl ih_i
  have hl : lv_has ls 5 [(3, .int (sumN (fOn g R d) i)), (4, .int (nI i)), (0, .ref (ad 4)), (1, .int R), (2, .int d)] := hl
  refine lv_iload hx hb dX0_countOpen_5 (lv_at hl 1 rfl) ?_
  refine lv_aload_n hx hb dX0_countOpen_7 rfl (lv_at hl 2 rfl) ?_
  refine va_get hx hb hts hinX0 hown hK hP 4 rfl rfl 0 (by decide) (hk0) (fun _ h9 => h9) rfl dX0_countOpen_8 ?_
  refine zeq hn ?_
  refine lv_icmp_ge (tgt := 44) hx hb dX0_countOpen_11 (by decide) (fun c_1 => ?_) (fun c_1 => ?_)
  · have c_1 := zn_geT (a := i) (b := n) (by omega) (by omega) c_1
    obtain rfl : i = n := by omega
    refine lv_iload_n hx hb dX0_countOpen_44 rfl (lv_at hl 0 rfl) ?_
    exact W.iret (v := sumN (fOn g R d) i) hx hb hr (fun t ht hW => ⟨_, rfl, rfl, ht⟩) (fun _ h => nomatch h) dX0_countOpen_45
  · have c_1 := zn_geF (a := i) (b := n) (by omega) (by omega) c_1
    refine lv_aload_n hx hb dX0_countOpen_14 rfl (lv_at hl 2 rfl) ?_
    refine va_get hx hb hts hinX0 hown hK hP 4 rfl rfl 1 (by decide) (hk2) (fun _ h9 => h9) rfl dX0_countOpen_15 ?_
    refine lv_iload hx hb dX0_countOpen_18 (lv_at hl 1 rfl) ?_
    refine zald hx hb hK hP 23 0 rfl rfl (i := i) (by omega) (by decide) dX0_countOpen_20 ?_
    refine lv_iload_n hx hb dX0_countOpen_21 rfl (lv_at hl 3 rfl) ?_
    refine lv_icmp_ne (tgt := 38) hx hb dX0_countOpen_22 (by decide) (fun c_2 => ?_) (fun c_2 => ?_)
    · refine lv_iinc (v := nI (i + 1)) (lv' := [(4, .int (nI (i + 1))), (3, .int (sumN (fOn g R d) i)), (0, .ref (ad 4)), (1, .int R), (2, .int d)]) hx hb dX0_countOpen_38 hl (k := 1) rfl (nI_add i 1) (by decide) rfl (fun ls hl => ?_)
      refine lv_goto (tgt := 5) hx hb dX0_countOpen_41 (by decide) ?_
      refine ih_i () ls (by omega) (show lv_has ls 5 [(3, .int (sumN (fOn g R d) (i + 1))), (4, .int (nI (i + 1))), (0, .ref (ad 4)), (1, .int R), (2, .int d)] from ?_)
      rw [show sumN (fOn g R d) (i + 1) = sumN (fOn g R d) i from by simp_all [sumN_s, fOn]]
      exact lv_sub hl [1, 0, 2, 3, 4] rfl
    · refine lv_aload_n hx hb dX0_countOpen_25 rfl (lv_at hl 2 rfl) ?_
      refine lv_iload hx hb dX0_countOpen_26 (lv_at hl 1 rfl) ?_
      refine lv_iload_n hx hb dX0_countOpen_28 rfl (lv_at hl 4 rfl) ?_
      refine zcVi (As := [.int (nI i), .int d]) (rest := []) ⟨hx, hb, hml, hown, hts⟩ (c_X0_isOn l D ty g ad i (by omega) d) (cwV 2 hts gX0_countOpen_X0_isOn rfl rfl rfl (by decide +kernel) ⟨Nat.le_of_ble_eq_true rfl, Nat.le_of_ble_eq_true rfl⟩) zI_blind (zI_pre hP hK hN) (va_recv hK hP (ci := 0) (q0 := 4) rfl rfl) rfl hl.1 rfl (Nat.le_of_ble_eq_true rfl) dX0_countOpen_29 ⟨Nat.le_of_ble_eq_true rfl, Nat.le_of_ble_eq_true rfl⟩ (fun r_3 hr_3 => ?_)
      subst hr_3
      refine lv_if_eq (tgt := 38) hx hb dX0_countOpen_32 (by decide) (fun c_4 => ?_) (fun c_4 => ?_)
      · have c_4 := bI_f c_4
        refine lv_iinc (v := nI (i + 1)) (lv' := [(4, .int (nI (i + 1))), (3, .int (sumN (fOn g R d) i)), (0, .ref (ad 4)), (1, .int R), (2, .int d)]) hx hb dX0_countOpen_38 hl (k := 1) rfl (nI_add i 1) (by decide) rfl (fun ls hl => ?_)
        refine lv_goto (tgt := 5) hx hb dX0_countOpen_41 (by decide) ?_
        refine ih_i () ls (by omega) (show lv_has ls 5 [(3, .int (sumN (fOn g R d) (i + 1))), (4, .int (nI (i + 1))), (0, .ref (ad 4)), (1, .int R), (2, .int d)] from ?_)
        rw [show sumN (fOn g R d) (i + 1) = sumN (fOn g R d) i from by simp_all [sumN_s, fOn]]
        exact lv_sub hl [1, 0, 2, 3, 4] rfl
      · have c_4 := bI_t c_4
        refine lv_iinc (v := (sumN (fOn g R d) i) + 1) (lv' := [(3, .int ((sumN (fOn g R d) i) + 1)), (4, .int (nI i)), (0, .ref (ad 4)), (1, .int R), (2, .int d)]) hx hb dX0_countOpen_35 hl (k := 0) rfl (rfl) (by decide) rfl (fun ls hl => ?_)
        refine lv_iinc (v := nI (i + 1)) (lv' := [(4, .int (nI (i + 1))), (3, .int ((sumN (fOn g R d) i) + 1)), (0, .ref (ad 4)), (1, .int R), (2, .int d)]) hx hb dX0_countOpen_38 hl (k := 1) rfl (nI_add i 1) (by decide) rfl (fun ls hl => ?_)
        refine lv_goto (tgt := 5) hx hb dX0_countOpen_41 (by decide) ?_
        refine ih_i () ls (by omega) (show lv_has ls 5 [(3, .int (sumN (fOn g R d) (i + 1))), (4, .int (nI (i + 1))), (0, .ref (ad 4)), (1, .int R), (2, .int d)] from ?_)
        rw [show sumN (fOn g R d) (i + 1) = (sumN (fOn g R d) i) + 1 from by simp_all [sumN_s, fOn]]
        exact lv_sub hl [1, 0, 2, 3, 4] rfl
set_option maxHeartbeats 4000000 in
set_option maxRecDepth 100000 in
theorem c_X3_unitsOf (l : Launch) (D : va_G) (ty : Nat → ClassId) (g : Nat → Nat → Int32) (ad : Nat → Nat) (r0 : Nat) (hr0 : r0 < 40) : Met l yX3_unitsOf wsX3_unitsOf ({ frames := 1, cells := 0, slots := 0, locals := 20 }) (va_Pc [.ref (ad 5), .int (nI r0)] (zI D ty g ad)) (vp_Si (fun v => v = g 33 r0 * bc (g 32 r0))) 0 0 (fun _ => False) := by
  refine zMet (cc := cX3_unitsOf) (maxL := 2) (ret := (some .int)) (by decide) rfl (Nat.le_of_ble_eq_true rfl) ?_
  intro p e s m below meth c hx hb hr hts hown hlocks hml hB ls hl
  obtain ⟨hP, hK, hN⟩ := hB
  have hl : lv_has ls 2 [(0, .ref (ad 5)), (1, .int (nI r0))] := hl
  have hk0 := hts (.fieldLink RX3 28 "DatamarketDesk$Reads" "rows" "[I") (by decide +kernel)
  have hinX3 : ∀ w ∈ wsX30, w ∈ wsX3_unitsOf := by decide +kernel
  have hk2 := hts (.fieldLink RX3 25 "DatamarketDesk$Reads" "fields" "[I") (by decide +kernel)
  refine lv_aload_n hx hb dX3_unitsOf_0 rfl (lv_at hl 0 rfl) ?_
  refine va_get hx hb hts hinX3 hown hK hP 5 rfl rfl 5 (by decide) (hk0) (fun _ h9 => h9) rfl dX3_unitsOf_1 ?_
  refine lv_iload_n hx hb dX3_unitsOf_4 rfl (lv_at hl 1 rfl) ?_
  refine zald hx hb hK hP 33 0 rfl rfl (i := r0) (by omega) (by decide) dX3_unitsOf_5 ?_
  refine lv_aload_n hx hb dX3_unitsOf_6 rfl (lv_at hl 0 rfl) ?_
  refine va_get hx hb hts hinX3 hown hK hP 5 rfl rfl 4 (by decide) (hk2) (fun _ h9 => h9) rfl dX3_unitsOf_7 ?_
  refine lv_iload_n hx hb dX3_unitsOf_10 rfl (lv_at hl 1 rfl) ?_
  refine zald hx hb hK hP 32 0 rfl rfl (i := r0) (by omega) (by decide) dX3_unitsOf_11 ?_
  refine zcSi (As := [.int (g 32 r0)]) (rest := [.int (g 33 r0)]) ⟨hx, hb, hml, hown, hts⟩ (c_J6_bitCount l _ (g 32 r0)) (va_cwS 1 hts gX3_unitsOf_J6_bitCount_0f7a4 rfl rfl rfl (by decide +kernel) ⟨Nat.le_of_ble_eq_true rfl, Nat.le_of_ble_eq_true rfl⟩) (B := fun _ => True) (fun _ _ _ _ _ => trivial) (fun _ _ _ => trivial) rfl hl.1 rfl (Nat.le_of_ble_eq_true rfl) dX3_unitsOf_12 ⟨Nat.le_of_ble_eq_true rfl, Nat.le_of_ble_eq_true rfl⟩ (fun r_1 hr_1 => ?_)
  subst hr_1
  refine lv_imul hx hb dX3_unitsOf_15 ?_
  exact W.iret (v := (g 33 r0) * (bc (g 32 r0))) hx hb hr (fun t ht hW => ⟨_, rfl, rfl, ht⟩) (fun _ h => nomatch h) dX3_unitsOf_16
set_option maxHeartbeats 4000000 in
set_option maxRecDepth 100000 in
theorem c_X3_unitsInPeriod (l : Launch) (D : va_G) (ty : Nat → ClassId) (g : Nat → Nat → Int32) (ad : Nat → Nat) (n : Nat) (hn : g 5 0 = nI n) (hn40 : n ≤ 40) (R d : Int32) : Met l yX3_unitsInPeriod wsX3_unitsInPeriod ({ frames := 2, cells := 0, slots := 0, locals := 41 }) (va_Pc [.ref (ad 5), .int R, .int d] (zI D ty g ad)) (vp_Si (fun v => v = sumN (fUn g R d) n)) 0 0 (fun _ => False) := by
  refine zMet (cc := cX3_unitsInPeriod) (maxL := 5) (ret := (some .int)) (by decide) rfl (Nat.le_of_ble_eq_true rfl) ?_
  intro p e s m below meth c hx hb hr hts hown hlocks hml hB ls hl
  obtain ⟨hP, hK, hN⟩ := hB
  have hl : lv_has ls 5 [(0, .ref (ad 5)), (1, .int R), (2, .int d)] := hl
  have hk0 := hts (.fieldLink RX3 9 "DatamarketDesk$Reads" "count" "I") (by decide +kernel)
  have hinX3 : ∀ w ∈ wsX30, w ∈ wsX3_unitsInPeriod := by decide +kernel
  have hk2 := hts (.fieldLink RX3 15 "DatamarketDesk$Reads" "readers" "[I") (by decide +kernel)
  have hk3 := hts (.fieldLink RX3 34 "DatamarketDesk$Reads" "days" "[I") (by decide +kernel)
  refine lv_iconst (v := nI 0) hx hb dX3_unitsInPeriod_0 (by decide) ?_
  refine lv_istore_n (lv' := [(3, .int (nI 0)), (0, .ref (ad 5)), (1, .int R), (2, .int d)]) hx hb dX3_unitsInPeriod_1 rfl hl (by decide) rfl (fun ls hl => ?_)
  refine lv_iconst (v := nI 0) hx hb dX3_unitsInPeriod_2 (by decide) ?_
  refine lv_istore (lv' := [(4, .int (nI 0)), (3, .int (nI 0)), (0, .ref (ad 5)), (1, .int R), (2, .int d)]) hx hb dX3_unitsInPeriod_3 hl (by decide) rfl (fun ls hl => ?_)
  refine zloopP (τ := Unit) (fun i _ ls => lv_has ls 5 [(3, .int (sumN (fUn g R d) i)), (4, .int (nI i)), (0, .ref (ad 5)), (1, .int R), (2, .int d)]) n ?_ 0 () ls (Nat.zero_le _) (lv_sub hl [1, 0, 2, 3, 4] rfl)
  intro i _ ls hi_i hl ih_i
  have hl : lv_has ls 5 [(3, .int (sumN (fUn g R d) i)), (4, .int (nI i)), (0, .ref (ad 5)), (1, .int R), (2, .int d)] := hl
  refine lv_iload hx hb dX3_unitsInPeriod_5 (lv_at hl 1 rfl) ?_
  refine lv_aload_n hx hb dX3_unitsInPeriod_7 rfl (lv_at hl 2 rfl) ?_
  refine va_get hx hb hts hinX3 hown hK hP 5 rfl rfl 0 (by decide) (hk0) (fun _ h9 => h9) rfl dX3_unitsInPeriod_8 ?_
  refine zeq hn ?_
  refine lv_icmp_ge (tgt := 57) hx hb dX3_unitsInPeriod_11 (by decide) (fun c_1 => ?_) (fun c_1 => ?_)
  · have c_1 := zn_geT (a := i) (b := n) (by omega) (by omega) c_1
    obtain rfl : i = n := by omega
    refine lv_iload_n hx hb dX3_unitsInPeriod_57 rfl (lv_at hl 0 rfl) ?_
    exact W.iret (v := sumN (fUn g R d) i) hx hb hr (fun t ht hW => ⟨_, rfl, rfl, ht⟩) (fun _ h => nomatch h) dX3_unitsInPeriod_58
  · have c_1 := zn_geF (a := i) (b := n) (by omega) (by omega) c_1
    refine lv_aload_n hx hb dX3_unitsInPeriod_14 rfl (lv_at hl 2 rfl) ?_
    refine va_get hx hb hts hinX3 hown hK hP 5 rfl rfl 1 (by decide) (hk2) (fun _ h9 => h9) rfl dX3_unitsInPeriod_15 ?_
    refine lv_iload hx hb dX3_unitsInPeriod_18 (lv_at hl 1 rfl) ?_
    refine zald hx hb hK hP 29 0 rfl rfl (i := i) (by omega) (by decide) dX3_unitsInPeriod_20 ?_
    refine lv_iload_n hx hb dX3_unitsInPeriod_21 rfl (lv_at hl 3 rfl) ?_
    refine lv_icmp_ne (tgt := 51) hx hb dX3_unitsInPeriod_22 (by decide) (fun c_2 => ?_) (fun c_2 => ?_)
    · refine lv_iinc (v := nI (i + 1)) (lv' := [(4, .int (nI (i + 1))), (3, .int (sumN (fUn g R d) i)), (0, .ref (ad 5)), (1, .int R), (2, .int d)]) hx hb dX3_unitsInPeriod_51 hl (k := 1) rfl (nI_add i 1) (by decide) rfl (fun ls hl => ?_)
      refine lv_goto (tgt := 5) hx hb dX3_unitsInPeriod_54 (by decide) ?_
      refine ih_i () ls (by omega) (show lv_has ls 5 [(3, .int (sumN (fUn g R d) (i + 1))), (4, .int (nI (i + 1))), (0, .ref (ad 5)), (1, .int R), (2, .int d)] from ?_)
      rw [show sumN (fUn g R d) (i + 1) = sumN (fUn g R d) i from by simp_all [sumN_s, fUn]]
      exact lv_sub hl [1, 0, 2, 3, 4] rfl
    · refine lv_aload_n hx hb dX3_unitsInPeriod_25 rfl (lv_at hl 2 rfl) ?_
      refine va_get hx hb hts hinX3 hown hK hP 5 rfl rfl 7 (by decide) (hk3) (fun _ h9 => h9) rfl dX3_unitsInPeriod_26 ?_
      refine lv_iload hx hb dX3_unitsInPeriod_29 (lv_at hl 1 rfl) ?_
      refine zald hx hb hK hP 35 0 rfl rfl (i := i) (by omega) (by decide) dX3_unitsInPeriod_31 ?_
      refine lv_bipush (v := nI 30) hx hb dX3_unitsInPeriod_32 (by decide) ?_
      refine lv_idiv hx hb dX3_unitsInPeriod_34 (by decide) ?_
      refine lv_iload_n hx hb dX3_unitsInPeriod_35 rfl (lv_at hl 4 rfl) ?_
      refine lv_bipush (v := nI 30) hx hb dX3_unitsInPeriod_36 (by decide) ?_
      refine lv_idiv hx hb dX3_unitsInPeriod_38 (by decide) ?_
      refine lv_icmp_ne (tgt := 51) hx hb dX3_unitsInPeriod_39 (by decide) (fun c_3 => ?_) (fun c_3 => ?_)
      · refine lv_iinc (v := nI (i + 1)) (lv' := [(4, .int (nI (i + 1))), (3, .int (sumN (fUn g R d) i)), (0, .ref (ad 5)), (1, .int R), (2, .int d)]) hx hb dX3_unitsInPeriod_51 hl (k := 1) rfl (nI_add i 1) (by decide) rfl (fun ls hl => ?_)
        refine lv_goto (tgt := 5) hx hb dX3_unitsInPeriod_54 (by decide) ?_
        refine ih_i () ls (by omega) (show lv_has ls 5 [(3, .int (sumN (fUn g R d) (i + 1))), (4, .int (nI (i + 1))), (0, .ref (ad 5)), (1, .int R), (2, .int d)] from ?_)
        rw [show sumN (fUn g R d) (i + 1) = sumN (fUn g R d) i from by simp_all [sumN_s, fUn]]
        exact lv_sub hl [1, 0, 2, 3, 4] rfl
      · refine lv_iload_n hx hb dX3_unitsInPeriod_42 rfl (lv_at hl 0 rfl) ?_
        refine lv_aload_n hx hb dX3_unitsInPeriod_43 rfl (lv_at hl 2 rfl) ?_
        refine lv_iload hx hb dX3_unitsInPeriod_44 (lv_at hl 1 rfl) ?_
        refine zcVi (As := [.int (nI i)]) (rest := [.int (sumN (fUn g R d) i)]) ⟨hx, hb, hml, hown, hts⟩ (c_X3_unitsOf l D ty g ad i (by omega)) (cwV 1 hts gX3_unitsInPeriod_X3_unitsOf rfl rfl rfl (by decide +kernel) ⟨Nat.le_of_ble_eq_true rfl, Nat.le_of_ble_eq_true rfl⟩) zI_blind (zI_pre hP hK hN) (va_recv hK hP (ci := 3) (q0 := 5) rfl rfl) rfl hl.1 rfl (Nat.le_of_ble_eq_true rfl) dX3_unitsInPeriod_46 ⟨Nat.le_of_ble_eq_true rfl, Nat.le_of_ble_eq_true rfl⟩ (fun r_4 hr_4 => ?_)
        subst hr_4
        refine lv_iadd hx hb dX3_unitsInPeriod_49 ?_
        refine lv_istore_n (lv' := [(3, .int ((sumN (fUn g R d) i) + (g 33 i * bc (g 32 i)))), (4, .int (nI i)), (0, .ref (ad 5)), (1, .int R), (2, .int d)]) hx hb dX3_unitsInPeriod_50 rfl hl (by decide) rfl (fun ls hl => ?_)
        refine lv_iinc (v := nI (i + 1)) (lv' := [(4, .int (nI (i + 1))), (3, .int ((sumN (fUn g R d) i) + (g 33 i * bc (g 32 i)))), (0, .ref (ad 5)), (1, .int R), (2, .int d)]) hx hb dX3_unitsInPeriod_51 hl (k := 1) rfl (nI_add i 1) (by decide) rfl (fun ls hl => ?_)
        refine lv_goto (tgt := 5) hx hb dX3_unitsInPeriod_54 (by decide) ?_
        refine ih_i () ls (by omega) (show lv_has ls 5 [(3, .int (sumN (fUn g R d) (i + 1))), (4, .int (nI (i + 1))), (0, .ref (ad 5)), (1, .int R), (2, .int d)] from ?_)
        rw [show sumN (fUn g R d) (i + 1) = (sumN (fUn g R d) i) + (g 33 i * bc (g 32 i)) from by simp_all [sumN_s, fUn]]
        exact lv_sub hl [1, 0, 2, 3, 4] rfl
set_option maxHeartbeats 4000000 in
set_option maxRecDepth 100000 in
theorem c_X3_tier (l : Launch) (D : va_G) (ty : Nat → ClassId) (g : Nat → Nat → Int32) (ad : Nat → Nat) (n5 : Nat) (hn5 : g 5 0 = nI n5) (hn5b : n5 ≤ 40) (R d : Int32) : Met l yX3_tier wsX3_tier ({ frames := 3, cells := 0, slots := 0, locals := 65 }) (va_Pc [.ref (ad 5), .int R, .int d] (zI D ty g ad)) (vp_Si (fun v => v = tierN (sumN (fUn g R d) n5))) 0 0 (fun _ => False) := by
  refine zMet (cc := cX3_tier) (maxL := 4) (ret := (some .int)) (by decide) rfl (Nat.le_of_ble_eq_true rfl) ?_
  intro p e s m below meth c hx hb hr hts hown hlocks hml hB ls hl
  obtain ⟨hP, hK, hN⟩ := hB
  have hl : lv_has ls 4 [(0, .ref (ad 5)), (1, .int R), (2, .int d)] := hl
  refine lv_aload_n hx hb dX3_tier_0 rfl (lv_at hl 0 rfl) ?_
  refine lv_iload_n hx hb dX3_tier_1 rfl (lv_at hl 1 rfl) ?_
  refine lv_iload_n hx hb dX3_tier_2 rfl (lv_at hl 2 rfl) ?_
  refine zcVi (As := [.int R, .int d]) (rest := []) ⟨hx, hb, hml, hown, hts⟩ (c_X3_unitsInPeriod l D ty g ad n5 hn5 hn5b R d) (cwV 2 hts gX3_tier_X3_unitsInPeriod rfl rfl rfl (by decide +kernel) ⟨Nat.le_of_ble_eq_true rfl, Nat.le_of_ble_eq_true rfl⟩) zI_blind (zI_pre hP hK hN) (va_recv hK hP (ci := 3) (q0 := 5) rfl rfl) rfl hl.1 rfl (Nat.le_of_ble_eq_true rfl) dX3_tier_3 ⟨Nat.le_of_ble_eq_true rfl, Nat.le_of_ble_eq_true rfl⟩ (fun r_1 hr_1 => ?_)
  subst hr_1
  refine lv_istore_n (lv' := [(3, .int (sumN (fUn g R d) n5)), (0, .ref (ad 5)), (1, .int R), (2, .int d)]) hx hb dX3_tier_6 rfl hl (by decide) rfl (fun ls hl => ?_)
  refine lv_iload_n hx hb dX3_tier_7 rfl (lv_at hl 0 rfl) ?_
  refine lv_sipush (v := nI 20000) hx hb dX3_tier_8 (by decide) ?_
  refine lv_icmp_lt (tgt := 16) hx hb dX3_tier_11 (by decide) (fun c_2 => ?_) (fun c_2 => ?_)
  · refine lv_iload_n hx hb dX3_tier_16 rfl (lv_at hl 0 rfl) ?_
    refine lv_sipush (v := nI 5000) hx hb dX3_tier_17 (by decide) ?_
    refine lv_icmp_lt (tgt := 27) hx hb dX3_tier_20 (by decide) (fun c_3 => ?_) (fun c_3 => ?_)
    · refine lv_iconst (v := nI 4) hx hb dX3_tier_27 (by decide) ?_
      exact W.iret (v := nI 4) hx hb hr (fun t ht hW => ⟨_, rfl, by simp only [tierN, c_2, c_3, if_true, if_false], ht⟩) (fun _ h => nomatch h) dX3_tier_28
    · refine lv_iconst (v := nI 3) hx hb dX3_tier_23 (by decide) ?_
      refine lv_goto (tgt := 28) hx hb dX3_tier_24 (by decide) ?_
      exact W.iret (v := nI 3) hx hb hr (fun t ht hW => ⟨_, rfl, by simp only [tierN, c_2, c_3, if_true, if_false], ht⟩) (fun _ h => nomatch h) dX3_tier_28
  · refine lv_iconst (v := nI 2) hx hb dX3_tier_14 (by decide) ?_
    exact W.iret (v := nI 2) hx hb hr (fun t ht hW => ⟨_, rfl, by simp only [tierN, c_2, if_true, if_false], ht⟩) (fun _ h => nomatch h) dX3_tier_15
set_option maxHeartbeats 4000000 in
set_option maxRecDepth 100000 in
theorem c_X3_chargeOf (l : Launch) (D : va_G) (ty : Nat → ClassId) (g : Nat → Nat → Int32) (ad : Nat → Nat) (r0 : Nat) (hr0 : r0 < 40) : Met l yX3_chargeOf wsX3_chargeOf ({ frames := 1, cells := 0, slots := 0, locals := 21 }) (va_Pc [.ref (ad 5), .int (nI r0)] (zI D ty g ad)) (vp_Si (fun v => v = chN g r0)) 0 0 (fun _ => False) := by
  refine zMet (cc := cX3_chargeOf) (maxL := 4) (ret := (some .int)) (by decide) rfl (Nat.le_of_ble_eq_true rfl) ?_
  intro p e s m below meth c hx hb hr hts hown hlocks hml hB ls hl
  obtain ⟨hP, hK, hN⟩ := hB
  have hl : lv_has ls 4 [(0, .ref (ad 5)), (1, .int (nI r0))] := hl
  have hk0 := hts (.fieldLink RX3 43 "DatamarketDesk$Reads" "charges" "[I") (by decide +kernel)
  have hinX3 : ∀ w ∈ wsX30, w ∈ wsX3_chargeOf := by decide +kernel
  refine lv_iconst (v := nI 0) hx hb dX3_chargeOf_0 (by decide) ?_
  refine lv_istore_n (lv' := [(2, .int (nI 0)), (0, .ref (ad 5)), (1, .int (nI r0))]) hx hb dX3_chargeOf_1 rfl hl (by decide) rfl (fun ls hl => ?_)
  refine lv_iconst (v := nI 0) hx hb dX3_chargeOf_2 (by decide) ?_
  refine lv_istore_n (lv' := [(3, .int (nI 0)), (2, .int (nI 0)), (0, .ref (ad 5)), (1, .int (nI r0))]) hx hb dX3_chargeOf_3 rfl hl (by decide) rfl (fun ls hl => ?_)
  refine zloopP (τ := Unit) (fun i _ ls => lv_has ls 4 [(2, .int (sumN (chF g r0) i)), (3, .int (nI i)), (0, .ref (ad 5)), (1, .int (nI r0))]) 6 ?_ 0 () ls (Nat.zero_le _) (lv_sub hl [1, 0, 2, 3] rfl)
  intro i _ ls hi_i hl ih_i
  have hl : lv_has ls 4 [(2, .int (sumN (chF g r0) i)), (3, .int (nI i)), (0, .ref (ad 5)), (1, .int (nI r0))] := hl
  refine lv_iload_n hx hb dX3_chargeOf_4 rfl (lv_at hl 1 rfl) ?_
  refine lv_bipush (v := nI 6) hx hb dX3_chargeOf_5 (by decide) ?_
  refine lv_icmp_ge (tgt := 29) hx hb dX3_chargeOf_7 (by decide) (fun c_1 => ?_) (fun c_1 => ?_)
  · have c_1 := zn_geT (a := i) (b := 6) (by omega) (by omega) c_1
    obtain rfl : i = 6 := by omega
    refine lv_iload_n hx hb dX3_chargeOf_29 rfl (lv_at hl 0 rfl) ?_
    exact W.iret (v := sumN (chF g r0) 6) hx hb hr (fun t ht hW => ⟨_, rfl, rfl, ht⟩) (fun _ h => nomatch h) dX3_chargeOf_30
  · have c_1 := zn_geF (a := i) (b := 6) (by omega) (by omega) c_1
    refine lv_iload_n hx hb dX3_chargeOf_10 rfl (lv_at hl 0 rfl) ?_
    refine lv_aload_n hx hb dX3_chargeOf_11 rfl (lv_at hl 2 rfl) ?_
    refine va_get hx hb hts hinX3 hown hK hP 5 rfl rfl 10 (by decide) (hk0) (fun _ h9 => h9) rfl dX3_chargeOf_12 ?_
    refine lv_iload_n hx hb dX3_chargeOf_15 rfl (lv_at hl 3 rfl) ?_
    refine lv_iload_n hx hb dX3_chargeOf_16 rfl (lv_at hl 1 rfl) ?_
    refine zcSNi (As := [.int (nI r0), .int (nI i)]) (rest := [.ref (ad 38), .int (sumN (chF g r0) i)]) ⟨hx, hb, hml, hown, hts⟩ (c_X5_chargeAt l _ r0 i) ⟨va_cnB 2 hts ggX3_chargeOf_X5_chargeAt rfl rfl rfl (hN _ (List.mem_of_getElem? (i := 39) rfl)) (hts (.initialized RX5) (by decide +kernel)) (by decide +kernel) ⟨Nat.le_of_ble_eq_true rfl, Nat.le_of_ble_eq_true rfl⟩, hts (.static yX5_chargeAt) (by decide +kernel), trivial⟩ (B := fun _ => True) (fun _ _ _ _ _ => trivial) (fun _ _ _ => trivial) rfl hl.1 rfl (Nat.le_of_ble_eq_true rfl) dX3_chargeOf_17 ⟨Nat.le_of_ble_eq_true rfl, Nat.le_of_ble_eq_true rfl⟩ (fun r_2 hr_2 => ?_)
    subst hr_2
    refine zald hx hb hK hP 38 0 rfl rfl (i := r0 * 6 + i) (by omega) (by decide) dX3_chargeOf_20 ?_
    refine lv_iadd hx hb dX3_chargeOf_21 ?_
    refine lv_istore_n (lv' := [(2, .int ((sumN (chF g r0) i) + (g 38 (r0 * 6 + i)))), (3, .int (nI i)), (0, .ref (ad 5)), (1, .int (nI r0))]) hx hb dX3_chargeOf_22 rfl hl (by decide) rfl (fun ls hl => ?_)
    refine lv_iinc (v := nI (i + 1)) (lv' := [(3, .int (nI (i + 1))), (2, .int ((sumN (chF g r0) i) + (g 38 (r0 * 6 + i)))), (0, .ref (ad 5)), (1, .int (nI r0))]) hx hb dX3_chargeOf_23 hl (k := 1) rfl (nI_add i 1) (by decide) rfl (fun ls hl => ?_)
    refine lv_goto (tgt := 4) hx hb dX3_chargeOf_26 (by decide) ?_
    exact ih_i () ls (by omega) (show lv_has ls 4 [(2, .int (sumN (chF g r0) (i + 1))), (3, .int (nI (i + 1))), (0, .ref (ad 5)), (1, .int (nI r0))] from lv_sub hl [1, 0, 2, 3] rfl)
set_option maxHeartbeats 4000000 in
set_option maxRecDepth 100000 in
theorem c_X3_creditOf_21 (l : Launch) (D : va_G) (ty : Nat → ClassId) (g : Nat → Nat → Int32) (ad : Nat → Nat) (r0 : Nat) (hr0 : r0 < 40) (h30 : nb (g 30 r0) 8) (h31 : nb (g 31 r0) 6) : Met l yX3_creditOf wsX3_creditOf ({ frames := 1, cells := 0, slots := 0, locals := 22 }) (va_Pc [.ref (ad 5), .int (nI r0), .ref (ad 21)] (zI D ty g ad)) (vp_Si (fun v => v = crN g 21 r0)) 0 0 (fun _ => False) := by
  refine zMet (cc := cX3_creditOf) (maxL := 6) (ret := (some .int)) (by decide) rfl (Nat.le_of_ble_eq_true rfl) ?_
  intro p e s m below meth c hx hb hr hts hown hlocks hml hB ls hl
  obtain ⟨hP, hK, hN⟩ := hB
  have h30b := h30.2
  have h31b := h31.2
  have hl : lv_has ls 6 [(0, .ref (ad 5)), (1, .int (nI r0)), (2, .ref (ad 21))] := hl
  have hk0 := hts (.fieldLink RX3 19 "DatamarketDesk$Reads" "sets" "[I") (by decide +kernel)
  have hinX3 : ∀ w ∈ wsX30, w ∈ wsX3_creditOf := by decide +kernel
  have hk2 := hts (.fieldLink RX3 22 "DatamarketDesk$Reads" "versions" "[I") (by decide +kernel)
  have hk3 := hts (.fieldLink RX3 43 "DatamarketDesk$Reads" "charges" "[I") (by decide +kernel)
  refine lv_iconst (v := nI 0) hx hb dX3_creditOf_0 (by decide) ?_
  refine lv_istore_n (lv' := [(3, .int (nI 0)), (0, .ref (ad 5)), (1, .int (nI r0)), (2, .ref (ad 21))]) hx hb dX3_creditOf_1 rfl hl (by decide) rfl (fun ls hl => ?_)
  refine lv_iconst (v := nI 0) hx hb dX3_creditOf_2 (by decide) ?_
  refine lv_istore (lv' := [(4, .int (nI 0)), (3, .int (nI 0)), (0, .ref (ad 5)), (1, .int (nI r0)), (2, .ref (ad 21))]) hx hb dX3_creditOf_3 hl (by decide) rfl (fun ls hl => ?_)
  refine zloopP (τ := Unit) (fun i _ ls => lv_has ls 6 [(3, .int (sumN (crF g 21 r0) i)), (4, .int (nI i)), (0, .ref (ad 5)), (1, .int (nI r0)), (2, .ref (ad 21))]) 6 ?_ 0 () ls (Nat.zero_le _) (lv_sub hl [1, 0, 2, 3, 4] rfl)
  intro i _ ls hi_i hl ih_i
  have hl : lv_has ls 6 [(3, .int (sumN (crF g 21 r0) i)), (4, .int (nI i)), (0, .ref (ad 5)), (1, .int (nI r0)), (2, .ref (ad 21))] := hl
  refine lv_iload hx hb dX3_creditOf_5 (lv_at hl 1 rfl) ?_
  refine lv_bipush (v := nI 6) hx hb dX3_creditOf_7 (by decide) ?_
  refine lv_icmp_ge (tgt := 59) hx hb dX3_creditOf_9 (by decide) (fun c_1 => ?_) (fun c_1 => ?_)
  · have c_1 := zn_geT (a := i) (b := 6) (by omega) (by omega) c_1
    obtain rfl : i = 6 := by omega
    refine lv_iload_n hx hb dX3_creditOf_59 rfl (lv_at hl 0 rfl) ?_
    exact W.iret (v := sumN (crF g 21 r0) 6) hx hb hr (fun t ht hW => ⟨_, rfl, rfl, ht⟩) (fun _ h => nomatch h) dX3_creditOf_60
  · have c_1 := zn_geF (a := i) (b := 6) (by omega) (by omega) c_1
    refine lv_aload_n hx hb dX3_creditOf_12 rfl (lv_at hl 2 rfl) ?_
    refine va_get hx hb hts hinX3 hown hK hP 5 rfl rfl 2 (by decide) (hk0) (fun _ h9 => h9) rfl dX3_creditOf_13 ?_
    refine lv_iload_n hx hb dX3_creditOf_16 rfl (lv_at hl 3 rfl) ?_
    refine zald hx hb hK hP 30 0 rfl rfl (i := r0) (by omega) (by decide) dX3_creditOf_17 ?_
    refine zeq h30.1 ?_
    refine lv_aload_n hx hb dX3_creditOf_18 rfl (lv_at hl 2 rfl) ?_
    refine va_get hx hb hts hinX3 hown hK hP 5 rfl rfl 3 (by decide) (hk2) (fun _ h9 => h9) rfl dX3_creditOf_19 ?_
    refine lv_iload_n hx hb dX3_creditOf_22 rfl (lv_at hl 3 rfl) ?_
    refine zald hx hb hK hP 31 0 rfl rfl (i := r0) (by omega) (by decide) dX3_creditOf_23 ?_
    refine zeq h31.1 ?_
    refine lv_iload hx hb dX3_creditOf_24 (lv_at hl 1 rfl) ?_
    refine zcSNi (As := [.int (nI (cn (g 30 r0))), .int (nI (cn (g 31 r0))), .int (nI i)]) (rest := []) ⟨hx, hb, hml, hown, hts⟩ (c_X5_placeAt l _ (cn (g 30 r0)) (cn (g 31 r0)) i) ⟨va_cnB 3 hts ggX3_creditOf_X5_placeAt rfl rfl rfl (hN _ (List.mem_of_getElem? (i := 38) rfl)) (hts (.initialized RX5) (by decide +kernel)) (by decide +kernel) ⟨Nat.le_of_ble_eq_true rfl, Nat.le_of_ble_eq_true rfl⟩, hts (.static yX5_placeAt) (by decide +kernel), trivial⟩ (B := fun _ => True) (fun _ _ _ _ _ => trivial) (fun _ _ _ => trivial) rfl hl.1 rfl (Nat.le_of_ble_eq_true rfl) dX3_creditOf_26 ⟨Nat.le_of_ble_eq_true rfl, Nat.le_of_ble_eq_true rfl⟩ (fun r_2 hr_2 => ?_)
    subst hr_2
    refine lv_istore (lv' := [(5, .int (nI (((cn (g 30 r0)) * 6 + (cn (g 31 r0))) * 6 + i))), (3, .int (sumN (crF g 21 r0) i)), (4, .int (nI i)), (0, .ref (ad 5)), (1, .int (nI r0)), (2, .ref (ad 21))]) hx hb dX3_creditOf_29 hl (by decide) rfl (fun ls hl => ?_)
    refine lv_iload_n hx hb dX3_creditOf_31 rfl (lv_at hl 1 rfl) ?_
    refine lv_aload_n hx hb dX3_creditOf_32 rfl (lv_at hl 3 rfl) ?_
    refine va_get hx hb hts hinX3 hown hK hP 5 rfl rfl 10 (by decide) (hk3) (fun _ h9 => h9) rfl dX3_creditOf_33 ?_
    refine lv_iload_n hx hb dX3_creditOf_36 rfl (lv_at hl 4 rfl) ?_
    refine lv_iload hx hb dX3_creditOf_37 (lv_at hl 2 rfl) ?_
    refine zcSNi (As := [.int (nI r0), .int (nI i)]) (rest := [.ref (ad 38), .int (sumN (crF g 21 r0) i)]) ⟨hx, hb, hml, hown, hts⟩ (c_X5_chargeAt l _ r0 i) ⟨va_cnB 2 hts ggX3_creditOf_X5_chargeAt rfl rfl rfl (hN _ (List.mem_of_getElem? (i := 39) rfl)) (hts (.initialized RX5) (by decide +kernel)) (by decide +kernel) ⟨Nat.le_of_ble_eq_true rfl, Nat.le_of_ble_eq_true rfl⟩, hts (.static yX5_chargeAt) (by decide +kernel), trivial⟩ (B := fun _ => True) (fun _ _ _ _ _ => trivial) (fun _ _ _ => trivial) rfl hl.1 rfl (Nat.le_of_ble_eq_true rfl) dX3_creditOf_39 ⟨Nat.le_of_ble_eq_true rfl, Nat.le_of_ble_eq_true rfl⟩ (fun r_3 hr_3 => ?_)
    subst hr_3
    refine zald hx hb hK hP 38 0 rfl rfl (i := r0 * 6 + i) (by omega) (by decide) dX3_creditOf_42 ?_
    refine lv_aload_n hx hb dX3_creditOf_43 rfl (lv_at hl 5 rfl) ?_
    refine lv_iload hx hb dX3_creditOf_44 (lv_at hl 0 rfl) ?_
    refine zald hx hb hK hP 21 0 rfl rfl (i := ((cn (g 30 r0)) * 6 + (cn (g 31 r0))) * 6 + i) (by omega) (by decide) dX3_creditOf_46 ?_
    refine lv_imul hx hb dX3_creditOf_47 ?_
    refine lv_bipush (v := nI 100) hx hb dX3_creditOf_48 (by decide) ?_
    refine lv_idiv hx hb dX3_creditOf_50 (by decide) ?_
    refine lv_iadd hx hb dX3_creditOf_51 ?_
    refine lv_istore_n (lv' := [(3, .int ((sumN (crF g 21 r0) i) + (((g 38 (r0 * 6 + i)) * (g 21 (((cn (g 30 r0)) * 6 + (cn (g 31 r0))) * 6 + i))) / (nI 100)))), (5, .int (nI (((cn (g 30 r0)) * 6 + (cn (g 31 r0))) * 6 + i))), (4, .int (nI i)), (0, .ref (ad 5)), (1, .int (nI r0)), (2, .ref (ad 21))]) hx hb dX3_creditOf_52 rfl hl (by decide) rfl (fun ls hl => ?_)
    refine lv_iinc (v := nI (i + 1)) (lv' := [(4, .int (nI (i + 1))), (3, .int ((sumN (crF g 21 r0) i) + (((g 38 (r0 * 6 + i)) * (g 21 (((cn (g 30 r0)) * 6 + (cn (g 31 r0))) * 6 + i))) / (nI 100)))), (5, .int (nI (((cn (g 30 r0)) * 6 + (cn (g 31 r0))) * 6 + i))), (0, .ref (ad 5)), (1, .int (nI r0)), (2, .ref (ad 21))]) hx hb dX3_creditOf_53 hl (k := 2) rfl (nI_add i 1) (by decide) rfl (fun ls hl => ?_)
    refine lv_goto (tgt := 5) hx hb dX3_creditOf_56 (by decide) ?_
    exact ih_i () ls (by omega) (show lv_has ls 6 [(3, .int (sumN (crF g 21 r0) (i + 1))), (4, .int (nI (i + 1))), (0, .ref (ad 5)), (1, .int (nI r0)), (2, .ref (ad 21))] from lv_sub hl [1, 0, 3, 4, 5] rfl)
set_option maxHeartbeats 4000000 in
set_option maxRecDepth 100000 in
theorem c_X3_creditOf_22 (l : Launch) (D : va_G) (ty : Nat → ClassId) (g : Nat → Nat → Int32) (ad : Nat → Nat) (r0 : Nat) (hr0 : r0 < 40) (h30 : nb (g 30 r0) 8) (h31 : nb (g 31 r0) 6) : Met l yX3_creditOf wsX3_creditOf ({ frames := 1, cells := 0, slots := 0, locals := 22 }) (va_Pc [.ref (ad 5), .int (nI r0), .ref (ad 22)] (zI D ty g ad)) (vp_Si (fun v => v = crN g 22 r0)) 0 0 (fun _ => False) := by
  refine zMet (cc := cX3_creditOf) (maxL := 6) (ret := (some .int)) (by decide) rfl (Nat.le_of_ble_eq_true rfl) ?_
  intro p e s m below meth c hx hb hr hts hown hlocks hml hB ls hl
  obtain ⟨hP, hK, hN⟩ := hB
  have h30b := h30.2
  have h31b := h31.2
  have hl : lv_has ls 6 [(0, .ref (ad 5)), (1, .int (nI r0)), (2, .ref (ad 22))] := hl
  have hk0 := hts (.fieldLink RX3 19 "DatamarketDesk$Reads" "sets" "[I") (by decide +kernel)
  have hinX3 : ∀ w ∈ wsX30, w ∈ wsX3_creditOf := by decide +kernel
  have hk2 := hts (.fieldLink RX3 22 "DatamarketDesk$Reads" "versions" "[I") (by decide +kernel)
  have hk3 := hts (.fieldLink RX3 43 "DatamarketDesk$Reads" "charges" "[I") (by decide +kernel)
  refine lv_iconst (v := nI 0) hx hb dX3_creditOf_0 (by decide) ?_
  refine lv_istore_n (lv' := [(3, .int (nI 0)), (0, .ref (ad 5)), (1, .int (nI r0)), (2, .ref (ad 22))]) hx hb dX3_creditOf_1 rfl hl (by decide) rfl (fun ls hl => ?_)
  refine lv_iconst (v := nI 0) hx hb dX3_creditOf_2 (by decide) ?_
  refine lv_istore (lv' := [(4, .int (nI 0)), (3, .int (nI 0)), (0, .ref (ad 5)), (1, .int (nI r0)), (2, .ref (ad 22))]) hx hb dX3_creditOf_3 hl (by decide) rfl (fun ls hl => ?_)
  refine zloopP (τ := Unit) (fun i _ ls => lv_has ls 6 [(3, .int (sumN (crF g 22 r0) i)), (4, .int (nI i)), (0, .ref (ad 5)), (1, .int (nI r0)), (2, .ref (ad 22))]) 6 ?_ 0 () ls (Nat.zero_le _) (lv_sub hl [1, 0, 2, 3, 4] rfl)
  intro i _ ls hi_i hl ih_i
  have hl : lv_has ls 6 [(3, .int (sumN (crF g 22 r0) i)), (4, .int (nI i)), (0, .ref (ad 5)), (1, .int (nI r0)), (2, .ref (ad 22))] := hl
  refine lv_iload hx hb dX3_creditOf_5 (lv_at hl 1 rfl) ?_
  refine lv_bipush (v := nI 6) hx hb dX3_creditOf_7 (by decide) ?_
  refine lv_icmp_ge (tgt := 59) hx hb dX3_creditOf_9 (by decide) (fun c_1 => ?_) (fun c_1 => ?_)
  · have c_1 := zn_geT (a := i) (b := 6) (by omega) (by omega) c_1
    obtain rfl : i = 6 := by omega
    refine lv_iload_n hx hb dX3_creditOf_59 rfl (lv_at hl 0 rfl) ?_
    exact W.iret (v := sumN (crF g 22 r0) 6) hx hb hr (fun t ht hW => ⟨_, rfl, rfl, ht⟩) (fun _ h => nomatch h) dX3_creditOf_60
  · have c_1 := zn_geF (a := i) (b := 6) (by omega) (by omega) c_1
    refine lv_aload_n hx hb dX3_creditOf_12 rfl (lv_at hl 2 rfl) ?_
    refine va_get hx hb hts hinX3 hown hK hP 5 rfl rfl 2 (by decide) (hk0) (fun _ h9 => h9) rfl dX3_creditOf_13 ?_
    refine lv_iload_n hx hb dX3_creditOf_16 rfl (lv_at hl 3 rfl) ?_
    refine zald hx hb hK hP 30 0 rfl rfl (i := r0) (by omega) (by decide) dX3_creditOf_17 ?_
    refine zeq h30.1 ?_
    refine lv_aload_n hx hb dX3_creditOf_18 rfl (lv_at hl 2 rfl) ?_
    refine va_get hx hb hts hinX3 hown hK hP 5 rfl rfl 3 (by decide) (hk2) (fun _ h9 => h9) rfl dX3_creditOf_19 ?_
    refine lv_iload_n hx hb dX3_creditOf_22 rfl (lv_at hl 3 rfl) ?_
    refine zald hx hb hK hP 31 0 rfl rfl (i := r0) (by omega) (by decide) dX3_creditOf_23 ?_
    refine zeq h31.1 ?_
    refine lv_iload hx hb dX3_creditOf_24 (lv_at hl 1 rfl) ?_
    refine zcSNi (As := [.int (nI (cn (g 30 r0))), .int (nI (cn (g 31 r0))), .int (nI i)]) (rest := []) ⟨hx, hb, hml, hown, hts⟩ (c_X5_placeAt l _ (cn (g 30 r0)) (cn (g 31 r0)) i) ⟨va_cnB 3 hts ggX3_creditOf_X5_placeAt rfl rfl rfl (hN _ (List.mem_of_getElem? (i := 38) rfl)) (hts (.initialized RX5) (by decide +kernel)) (by decide +kernel) ⟨Nat.le_of_ble_eq_true rfl, Nat.le_of_ble_eq_true rfl⟩, hts (.static yX5_placeAt) (by decide +kernel), trivial⟩ (B := fun _ => True) (fun _ _ _ _ _ => trivial) (fun _ _ _ => trivial) rfl hl.1 rfl (Nat.le_of_ble_eq_true rfl) dX3_creditOf_26 ⟨Nat.le_of_ble_eq_true rfl, Nat.le_of_ble_eq_true rfl⟩ (fun r_2 hr_2 => ?_)
    subst hr_2
    refine lv_istore (lv' := [(5, .int (nI (((cn (g 30 r0)) * 6 + (cn (g 31 r0))) * 6 + i))), (3, .int (sumN (crF g 22 r0) i)), (4, .int (nI i)), (0, .ref (ad 5)), (1, .int (nI r0)), (2, .ref (ad 22))]) hx hb dX3_creditOf_29 hl (by decide) rfl (fun ls hl => ?_)
    refine lv_iload_n hx hb dX3_creditOf_31 rfl (lv_at hl 1 rfl) ?_
    refine lv_aload_n hx hb dX3_creditOf_32 rfl (lv_at hl 3 rfl) ?_
    refine va_get hx hb hts hinX3 hown hK hP 5 rfl rfl 10 (by decide) (hk3) (fun _ h9 => h9) rfl dX3_creditOf_33 ?_
    refine lv_iload_n hx hb dX3_creditOf_36 rfl (lv_at hl 4 rfl) ?_
    refine lv_iload hx hb dX3_creditOf_37 (lv_at hl 2 rfl) ?_
    refine zcSNi (As := [.int (nI r0), .int (nI i)]) (rest := [.ref (ad 38), .int (sumN (crF g 22 r0) i)]) ⟨hx, hb, hml, hown, hts⟩ (c_X5_chargeAt l _ r0 i) ⟨va_cnB 2 hts ggX3_creditOf_X5_chargeAt rfl rfl rfl (hN _ (List.mem_of_getElem? (i := 39) rfl)) (hts (.initialized RX5) (by decide +kernel)) (by decide +kernel) ⟨Nat.le_of_ble_eq_true rfl, Nat.le_of_ble_eq_true rfl⟩, hts (.static yX5_chargeAt) (by decide +kernel), trivial⟩ (B := fun _ => True) (fun _ _ _ _ _ => trivial) (fun _ _ _ => trivial) rfl hl.1 rfl (Nat.le_of_ble_eq_true rfl) dX3_creditOf_39 ⟨Nat.le_of_ble_eq_true rfl, Nat.le_of_ble_eq_true rfl⟩ (fun r_3 hr_3 => ?_)
    subst hr_3
    refine zald hx hb hK hP 38 0 rfl rfl (i := r0 * 6 + i) (by omega) (by decide) dX3_creditOf_42 ?_
    refine lv_aload_n hx hb dX3_creditOf_43 rfl (lv_at hl 5 rfl) ?_
    refine lv_iload hx hb dX3_creditOf_44 (lv_at hl 0 rfl) ?_
    refine zald hx hb hK hP 22 0 rfl rfl (i := ((cn (g 30 r0)) * 6 + (cn (g 31 r0))) * 6 + i) (by omega) (by decide) dX3_creditOf_46 ?_
    refine lv_imul hx hb dX3_creditOf_47 ?_
    refine lv_bipush (v := nI 100) hx hb dX3_creditOf_48 (by decide) ?_
    refine lv_idiv hx hb dX3_creditOf_50 (by decide) ?_
    refine lv_iadd hx hb dX3_creditOf_51 ?_
    refine lv_istore_n (lv' := [(3, .int ((sumN (crF g 22 r0) i) + (((g 38 (r0 * 6 + i)) * (g 22 (((cn (g 30 r0)) * 6 + (cn (g 31 r0))) * 6 + i))) / (nI 100)))), (5, .int (nI (((cn (g 30 r0)) * 6 + (cn (g 31 r0))) * 6 + i))), (4, .int (nI i)), (0, .ref (ad 5)), (1, .int (nI r0)), (2, .ref (ad 22))]) hx hb dX3_creditOf_52 rfl hl (by decide) rfl (fun ls hl => ?_)
    refine lv_iinc (v := nI (i + 1)) (lv' := [(4, .int (nI (i + 1))), (3, .int ((sumN (crF g 22 r0) i) + (((g 38 (r0 * 6 + i)) * (g 22 (((cn (g 30 r0)) * 6 + (cn (g 31 r0))) * 6 + i))) / (nI 100)))), (5, .int (nI (((cn (g 30 r0)) * 6 + (cn (g 31 r0))) * 6 + i))), (0, .ref (ad 5)), (1, .int (nI r0)), (2, .ref (ad 22))]) hx hb dX3_creditOf_53 hl (k := 2) rfl (nI_add i 1) (by decide) rfl (fun ls hl => ?_)
    refine lv_goto (tgt := 5) hx hb dX3_creditOf_56 (by decide) ?_
    exact ih_i () ls (by omega) (show lv_has ls 6 [(3, .int (sumN (crF g 22 r0) (i + 1))), (4, .int (nI (i + 1))), (0, .ref (ad 5)), (1, .int (nI r0)), (2, .ref (ad 22))] from lv_sub hl [1, 0, 3, 4, 5] rfl)
set_option maxHeartbeats 4000000 in
set_option maxRecDepth 100000 in
theorem c_X3_worthOf_21 (l : Launch) (D : va_G) (ty : Nat → ClassId) (g : Nat → Nat → Int32) (ad : Nat → Nat) (r0 n : Nat) (hr0 : r0 < n) (hn40 : n ≤ 40) (hrd : ∀ r, r < n → nb (g 30 r) 8 ∧ nb (g 31 r) 6) : Met l yX3_worthOf wsX3_worthOf ({ frames := 2, cells := 0, slots := 0, locals := 47 }) (va_Pc [.ref (ad 5), .int (nI r0), .ref (ad 21)] (zI D ty g ad)) (vp_Si (fun v => v = chN g r0 - crN g 21 r0)) 0 0 (fun _ => False) := by
  refine zMet (cc := cX3_worthOf) (maxL := 3) (ret := (some .int)) (by decide) rfl (Nat.le_of_ble_eq_true rfl) ?_
  intro p e s m below meth c hx hb hr hts hown hlocks hml hB ls hl
  obtain ⟨hP, hK, hN⟩ := hB
  have hl : lv_has ls 3 [(0, .ref (ad 5)), (1, .int (nI r0)), (2, .ref (ad 21))] := hl
  refine lv_aload_n hx hb dX3_worthOf_0 rfl (lv_at hl 0 rfl) ?_
  refine lv_iload_n hx hb dX3_worthOf_1 rfl (lv_at hl 1 rfl) ?_
  refine zcVi (As := [.int (nI r0)]) (rest := []) ⟨hx, hb, hml, hown, hts⟩ (c_X3_chargeOf l D ty g ad r0 (by omega)) (cwV 1 hts gX3_worthOf_X3_chargeOf rfl rfl rfl (by decide +kernel) ⟨Nat.le_of_ble_eq_true rfl, Nat.le_of_ble_eq_true rfl⟩) zI_blind (zI_pre hP hK hN) (va_recv hK hP (ci := 3) (q0 := 5) rfl rfl) rfl hl.1 rfl (Nat.le_of_ble_eq_true rfl) dX3_worthOf_2 ⟨Nat.le_of_ble_eq_true rfl, Nat.le_of_ble_eq_true rfl⟩ (fun r_1 hr_1 => ?_)
  subst hr_1
  refine lv_aload_n hx hb dX3_worthOf_5 rfl (lv_at hl 0 rfl) ?_
  refine lv_iload_n hx hb dX3_worthOf_6 rfl (lv_at hl 1 rfl) ?_
  refine lv_aload_n hx hb dX3_worthOf_7 rfl (lv_at hl 2 rfl) ?_
  refine zcVi (As := [.int (nI r0), .ref (ad 21)]) (rest := [.int (chN g r0)]) ⟨hx, hb, hml, hown, hts⟩ (c_X3_creditOf_21 l D ty g ad r0 (by omega) (hrd _ (by omega)).1 (hrd _ (by omega)).2) (cwV 2 hts gX3_worthOf_X3_creditOf rfl rfl rfl (by decide +kernel) ⟨Nat.le_of_ble_eq_true rfl, Nat.le_of_ble_eq_true rfl⟩) zI_blind (zI_pre hP hK hN) (va_recv hK hP (ci := 3) (q0 := 5) rfl rfl) rfl hl.1 rfl (Nat.le_of_ble_eq_true rfl) dX3_worthOf_8 ⟨Nat.le_of_ble_eq_true rfl, Nat.le_of_ble_eq_true rfl⟩ (fun r_2 hr_2 => ?_)
  subst hr_2
  refine lv_isub hx hb dX3_worthOf_11 ?_
  exact W.iret (v := (chN g r0) - (crN g 21 r0)) hx hb hr (fun t ht hW => ⟨_, rfl, rfl, ht⟩) (fun _ h => nomatch h) dX3_worthOf_12
set_option maxHeartbeats 4000000 in
set_option maxRecDepth 100000 in
theorem c_X3_worthOf_22 (l : Launch) (D : va_G) (ty : Nat → ClassId) (g : Nat → Nat → Int32) (ad : Nat → Nat) (r0 n : Nat) (hr0 : r0 < n) (hn40 : n ≤ 40) (hrd : ∀ r, r < n → nb (g 30 r) 8 ∧ nb (g 31 r) 6) : Met l yX3_worthOf wsX3_worthOf ({ frames := 2, cells := 0, slots := 0, locals := 47 }) (va_Pc [.ref (ad 5), .int (nI r0), .ref (ad 22)] (zI D ty g ad)) (vp_Si (fun v => v = chN g r0 - crN g 22 r0)) 0 0 (fun _ => False) := by
  refine zMet (cc := cX3_worthOf) (maxL := 3) (ret := (some .int)) (by decide) rfl (Nat.le_of_ble_eq_true rfl) ?_
  intro p e s m below meth c hx hb hr hts hown hlocks hml hB ls hl
  obtain ⟨hP, hK, hN⟩ := hB
  have hl : lv_has ls 3 [(0, .ref (ad 5)), (1, .int (nI r0)), (2, .ref (ad 22))] := hl
  refine lv_aload_n hx hb dX3_worthOf_0 rfl (lv_at hl 0 rfl) ?_
  refine lv_iload_n hx hb dX3_worthOf_1 rfl (lv_at hl 1 rfl) ?_
  refine zcVi (As := [.int (nI r0)]) (rest := []) ⟨hx, hb, hml, hown, hts⟩ (c_X3_chargeOf l D ty g ad r0 (by omega)) (cwV 1 hts gX3_worthOf_X3_chargeOf rfl rfl rfl (by decide +kernel) ⟨Nat.le_of_ble_eq_true rfl, Nat.le_of_ble_eq_true rfl⟩) zI_blind (zI_pre hP hK hN) (va_recv hK hP (ci := 3) (q0 := 5) rfl rfl) rfl hl.1 rfl (Nat.le_of_ble_eq_true rfl) dX3_worthOf_2 ⟨Nat.le_of_ble_eq_true rfl, Nat.le_of_ble_eq_true rfl⟩ (fun r_1 hr_1 => ?_)
  subst hr_1
  refine lv_aload_n hx hb dX3_worthOf_5 rfl (lv_at hl 0 rfl) ?_
  refine lv_iload_n hx hb dX3_worthOf_6 rfl (lv_at hl 1 rfl) ?_
  refine lv_aload_n hx hb dX3_worthOf_7 rfl (lv_at hl 2 rfl) ?_
  refine zcVi (As := [.int (nI r0), .ref (ad 22)]) (rest := [.int (chN g r0)]) ⟨hx, hb, hml, hown, hts⟩ (c_X3_creditOf_22 l D ty g ad r0 (by omega) (hrd _ (by omega)).1 (hrd _ (by omega)).2) (cwV 2 hts gX3_worthOf_X3_creditOf rfl rfl rfl (by decide +kernel) ⟨Nat.le_of_ble_eq_true rfl, Nat.le_of_ble_eq_true rfl⟩) zI_blind (zI_pre hP hK hN) (va_recv hK hP (ci := 3) (q0 := 5) rfl rfl) rfl hl.1 rfl (Nat.le_of_ble_eq_true rfl) dX3_worthOf_8 ⟨Nat.le_of_ble_eq_true rfl, Nat.le_of_ble_eq_true rfl⟩ (fun r_2 hr_2 => ?_)
  subst hr_2
  refine lv_isub hx hb dX3_worthOf_11 ?_
  exact W.iret (v := (chN g r0) - (crN g 22 r0)) hx hb hr (fun t ht hW => ⟨_, rfl, rfl, ht⟩) (fun _ h => nomatch h) dX3_worthOf_12
set_option maxHeartbeats 4000000 in
set_option maxRecDepth 100000 in
theorem c_X3_isOf (l : Launch) (D : va_G) (ty : Nat → ClassId) (g : Nat → Nat → Int32) (ad : Nat → Nat) (r0 : Nat) (hr0 : r0 < 40) (R S : Int32) : Met l yX3_isOf wsX3_isOf ({ frames := 0, cells := 0, slots := 0, locals := 0 }) (va_Pc [.ref (ad 5), .int (nI r0), .int R, .int S] (zI D ty g ad)) (vp_Si (fun v => v = bI (ofB g r0 R S))) 0 0 (fun _ => False) := by
  refine zMet (cc := cX3_isOf) (maxL := 4) (ret := (some .boolean)) (by decide) rfl (Nat.le_of_ble_eq_true rfl) ?_
  intro p e s m below meth c hx hb hr hts hown hlocks hml hB ls hl
  obtain ⟨hP, hK, hN⟩ := hB
  have hl : lv_has ls 4 [(0, .ref (ad 5)), (1, .int (nI r0)), (2, .int R), (3, .int S)] := hl
  have hk0 := hts (.fieldLink RX3 19 "DatamarketDesk$Reads" "sets" "[I") (by decide +kernel)
  have hinX3 : ∀ w ∈ wsX30, w ∈ wsX3_isOf := by decide +kernel
  have hk2 := hts (.fieldLink RX3 15 "DatamarketDesk$Reads" "readers" "[I") (by decide +kernel)
  refine lv_iload_n hx hb dX3_isOf_0 rfl (lv_at hl 2 rfl) ?_
  refine lv_iconst (v := -1) hx hb dX3_isOf_1 (by decide) ?_
  refine lv_icmp_eq (tgt := 15) hx hb dX3_isOf_2 (by decide) (fun c_1 => ?_) (fun c_1 => ?_)
  · refine lv_iload_n hx hb dX3_isOf_15 rfl (lv_at hl 3 rfl) ?_
    refine lv_iconst (v := -1) hx hb dX3_isOf_16 (by decide) ?_
    refine lv_icmp_eq (tgt := 30) hx hb dX3_isOf_17 (by decide) (fun c_2 => ?_) (fun c_2 => ?_)
    · refine lv_iconst (v := nI 1) hx hb dX3_isOf_30 (by decide) ?_
      refine lv_goto (tgt := 35) hx hb dX3_isOf_31 (by decide) ?_
      exact W.zret (v := nI 1) hx hb hr rfl (fun t ht hW => ⟨_, rfl, bI_n1 (by simp only [ofB, decide_eq_true c_1, decide_eq_true c_2, Bool.not_true, Bool.not_false, Bool.and_true, Bool.true_and, Bool.and_false, Bool.false_and, Bool.or_true, Bool.true_or, Bool.or_false, Bool.false_or, Bool.and_self, Bool.or_self]), ht⟩) (fun _ h => nomatch h) dX3_isOf_35
    · refine lv_aload_n hx hb dX3_isOf_20 rfl (lv_at hl 0 rfl) ?_
      refine va_get hx hb hts hinX3 hown hK hP 5 rfl rfl 2 (by decide) (hk0) (fun _ h9 => h9) rfl dX3_isOf_21 ?_
      refine lv_iload_n hx hb dX3_isOf_24 rfl (lv_at hl 1 rfl) ?_
      refine zald hx hb hK hP 30 0 rfl rfl (i := r0) (by omega) (by decide) dX3_isOf_25 ?_
      refine lv_iload_n hx hb dX3_isOf_26 rfl (lv_at hl 3 rfl) ?_
      refine lv_icmp_ne (tgt := 34) hx hb dX3_isOf_27 (by decide) (fun c_3 => ?_) (fun c_3 => ?_)
      · refine lv_iconst (v := nI 0) hx hb dX3_isOf_34 (by decide) ?_
        exact W.zret (v := nI 0) hx hb hr rfl (fun t ht hW => ⟨_, rfl, bI_n0 (by simp only [ofB, decide_eq_true c_1, decide_eq_false c_2, decide_eq_false c_3, Bool.not_true, Bool.not_false, Bool.and_true, Bool.true_and, Bool.and_false, Bool.false_and, Bool.or_true, Bool.true_or, Bool.or_false, Bool.false_or, Bool.and_self, Bool.or_self]), ht⟩) (fun _ h => nomatch h) dX3_isOf_35
      · refine lv_iconst (v := nI 1) hx hb dX3_isOf_30 (by decide) ?_
        refine lv_goto (tgt := 35) hx hb dX3_isOf_31 (by decide) ?_
        exact W.zret (v := nI 1) hx hb hr rfl (fun t ht hW => ⟨_, rfl, bI_n1 (by simp only [ofB, decide_eq_true c_1, decide_eq_false c_2, decide_eq_true c_3, Bool.not_true, Bool.not_false, Bool.and_true, Bool.true_and, Bool.and_false, Bool.false_and, Bool.or_true, Bool.true_or, Bool.or_false, Bool.false_or, Bool.and_self, Bool.or_self]), ht⟩) (fun _ h => nomatch h) dX3_isOf_35
  · refine lv_aload_n hx hb dX3_isOf_5 rfl (lv_at hl 0 rfl) ?_
    refine va_get hx hb hts hinX3 hown hK hP 5 rfl rfl 1 (by decide) (hk2) (fun _ h9 => h9) rfl dX3_isOf_6 ?_
    refine lv_iload_n hx hb dX3_isOf_9 rfl (lv_at hl 1 rfl) ?_
    refine zald hx hb hK hP 29 0 rfl rfl (i := r0) (by omega) (by decide) dX3_isOf_10 ?_
    refine lv_iload_n hx hb dX3_isOf_11 rfl (lv_at hl 2 rfl) ?_
    refine lv_icmp_ne (tgt := 34) hx hb dX3_isOf_12 (by decide) (fun c_4 => ?_) (fun c_4 => ?_)
    · refine lv_iconst (v := nI 0) hx hb dX3_isOf_34 (by decide) ?_
      exact W.zret (v := nI 0) hx hb hr rfl (fun t ht hW => ⟨_, rfl, bI_n0 (by simp only [ofB, decide_eq_false c_1, decide_eq_false c_4, Bool.not_true, Bool.not_false, Bool.and_true, Bool.true_and, Bool.and_false, Bool.false_and, Bool.or_true, Bool.true_or, Bool.or_false, Bool.false_or, Bool.and_self, Bool.or_self]), ht⟩) (fun _ h => nomatch h) dX3_isOf_35
    · refine lv_iload_n hx hb dX3_isOf_15 rfl (lv_at hl 3 rfl) ?_
      refine lv_iconst (v := -1) hx hb dX3_isOf_16 (by decide) ?_
      refine lv_icmp_eq (tgt := 30) hx hb dX3_isOf_17 (by decide) (fun c_5 => ?_) (fun c_5 => ?_)
      · refine lv_iconst (v := nI 1) hx hb dX3_isOf_30 (by decide) ?_
        refine lv_goto (tgt := 35) hx hb dX3_isOf_31 (by decide) ?_
        exact W.zret (v := nI 1) hx hb hr rfl (fun t ht hW => ⟨_, rfl, bI_n1 (by simp only [ofB, decide_eq_false c_1, decide_eq_true c_4, decide_eq_true c_5, Bool.not_true, Bool.not_false, Bool.and_true, Bool.true_and, Bool.and_false, Bool.false_and, Bool.or_true, Bool.true_or, Bool.or_false, Bool.false_or, Bool.and_self, Bool.or_self]), ht⟩) (fun _ h => nomatch h) dX3_isOf_35
      · refine lv_aload_n hx hb dX3_isOf_20 rfl (lv_at hl 0 rfl) ?_
        refine va_get hx hb hts hinX3 hown hK hP 5 rfl rfl 2 (by decide) (hk0) (fun _ h9 => h9) rfl dX3_isOf_21 ?_
        refine lv_iload_n hx hb dX3_isOf_24 rfl (lv_at hl 1 rfl) ?_
        refine zald hx hb hK hP 30 0 rfl rfl (i := r0) (by omega) (by decide) dX3_isOf_25 ?_
        refine lv_iload_n hx hb dX3_isOf_26 rfl (lv_at hl 3 rfl) ?_
        refine lv_icmp_ne (tgt := 34) hx hb dX3_isOf_27 (by decide) (fun c_6 => ?_) (fun c_6 => ?_)
        · refine lv_iconst (v := nI 0) hx hb dX3_isOf_34 (by decide) ?_
          exact W.zret (v := nI 0) hx hb hr rfl (fun t ht hW => ⟨_, rfl, bI_n0 (by simp only [ofB, decide_eq_false c_1, decide_eq_true c_4, decide_eq_false c_5, decide_eq_false c_6, Bool.not_true, Bool.not_false, Bool.and_true, Bool.true_and, Bool.and_false, Bool.false_and, Bool.or_true, Bool.true_or, Bool.or_false, Bool.false_or, Bool.and_self, Bool.or_self]), ht⟩) (fun _ h => nomatch h) dX3_isOf_35
        · refine lv_iconst (v := nI 1) hx hb dX3_isOf_30 (by decide) ?_
          refine lv_goto (tgt := 35) hx hb dX3_isOf_31 (by decide) ?_
          exact W.zret (v := nI 1) hx hb hr rfl (fun t ht hW => ⟨_, rfl, bI_n1 (by simp only [ofB, decide_eq_false c_1, decide_eq_true c_4, decide_eq_false c_5, decide_eq_true c_6, Bool.not_true, Bool.not_false, Bool.and_true, Bool.true_and, Bool.and_false, Bool.false_and, Bool.or_true, Bool.true_or, Bool.or_false, Bool.false_or, Bool.and_self, Bool.or_self]), ht⟩) (fun _ h => nomatch h) dX3_isOf_35
set_option maxHeartbeats 4000000 in
set_option maxRecDepth 100000 in
theorem c_X3_count (l : Launch) (D : va_G) (ty : Nat → ClassId) (g : Nat → Nat → Int32) (ad : Nat → Nat) (n : Nat) (hn : g 5 0 = nI n) (hn40 : n ≤ 40) (R S : Int32) : Met l yX3_count wsX3_count ({ frames := 1, cells := 0, slots := 0, locals := 23 }) (va_Pc [.ref (ad 5), .int R, .int S] (zI D ty g ad)) (vp_Si (fun v => v = sumN (fCnt g R S) n)) 0 0 (fun _ => False) := by
  refine zMet (cc := cX3_count) (maxL := 5) (ret := (some .int)) (by decide) rfl (Nat.le_of_ble_eq_true rfl) ?_
  intro p e s m below meth c hx hb hr hts hown hlocks hml hB ls hl
  obtain ⟨hP, hK, hN⟩ := hB
  have hl : lv_has ls 5 [(0, .ref (ad 5)), (1, .int R), (2, .int S)] := hl
  have hk0 := hts (.fieldLink RX3 9 "DatamarketDesk$Reads" "count" "I") (by decide +kernel)
  have hinX3 : ∀ w ∈ wsX30, w ∈ wsX3_count := by decide +kernel
  refine lv_iconst (v := nI 0) hx hb dX3_count_0 (by decide) ?_
  refine lv_istore_n (lv' := [(3, .int (nI 0)), (0, .ref (ad 5)), (1, .int R), (2, .int S)]) hx hb dX3_count_1 rfl hl (by decide) rfl (fun ls hl => ?_)
  refine lv_iconst (v := nI 0) hx hb dX3_count_2 (by decide) ?_
  refine lv_istore (lv' := [(4, .int (nI 0)), (3, .int (nI 0)), (0, .ref (ad 5)), (1, .int R), (2, .int S)]) hx hb dX3_count_3 hl (by decide) rfl (fun ls hl => ?_)
  refine zloopP (τ := Unit) (fun i _ ls => lv_has ls 5 [(3, .int (sumN (fCnt g R S) i)), (4, .int (nI i)), (0, .ref (ad 5)), (1, .int R), (2, .int S)]) n ?_ 0 () ls (Nat.zero_le _) (lv_sub hl [1, 0, 2, 3, 4] rfl)
  intro i _ ls hi_i hl ih_i
  have hl : lv_has ls 5 [(3, .int (sumN (fCnt g R S) i)), (4, .int (nI i)), (0, .ref (ad 5)), (1, .int R), (2, .int S)] := hl
  refine lv_iload hx hb dX3_count_5 (lv_at hl 1 rfl) ?_
  refine lv_aload_n hx hb dX3_count_7 rfl (lv_at hl 2 rfl) ?_
  refine va_get hx hb hts hinX3 hown hK hP 5 rfl rfl 0 (by decide) (hk0) (fun _ h9 => h9) rfl dX3_count_8 ?_
  refine zeq hn ?_
  refine lv_icmp_ge (tgt := 34) hx hb dX3_count_11 (by decide) (fun c_1 => ?_) (fun c_1 => ?_)
  · have c_1 := zn_geT (a := i) (b := n) (by omega) (by omega) c_1
    obtain rfl : i = n := by omega
    refine lv_iload_n hx hb dX3_count_34 rfl (lv_at hl 0 rfl) ?_
    exact W.iret (v := sumN (fCnt g R S) i) hx hb hr (fun t ht hW => ⟨_, rfl, rfl, ht⟩) (fun _ h => nomatch h) dX3_count_35
  · have c_1 := zn_geF (a := i) (b := n) (by omega) (by omega) c_1
    refine lv_aload_n hx hb dX3_count_14 rfl (lv_at hl 2 rfl) ?_
    refine lv_iload hx hb dX3_count_15 (lv_at hl 1 rfl) ?_
    refine lv_iload_n hx hb dX3_count_17 rfl (lv_at hl 3 rfl) ?_
    refine lv_iload_n hx hb dX3_count_18 rfl (lv_at hl 4 rfl) ?_
    refine zcVi (As := [.int (nI i), .int R, .int S]) (rest := []) ⟨hx, hb, hml, hown, hts⟩ (c_X3_isOf l D ty g ad i (by omega) R S) (cwV 3 hts gX3_count_X3_isOf rfl rfl rfl (by decide +kernel) ⟨Nat.le_of_ble_eq_true rfl, Nat.le_of_ble_eq_true rfl⟩) zI_blind (zI_pre hP hK hN) (va_recv hK hP (ci := 3) (q0 := 5) rfl rfl) rfl hl.1 rfl (Nat.le_of_ble_eq_true rfl) dX3_count_19 ⟨Nat.le_of_ble_eq_true rfl, Nat.le_of_ble_eq_true rfl⟩ (fun r_2 hr_2 => ?_)
    subst hr_2
    refine lv_if_eq (tgt := 28) hx hb dX3_count_22 (by decide) (fun c_3 => ?_) (fun c_3 => ?_)
    · have c_3 := bI_f c_3
      refine lv_iinc (v := nI (i + 1)) (lv' := [(4, .int (nI (i + 1))), (3, .int (sumN (fCnt g R S) i)), (0, .ref (ad 5)), (1, .int R), (2, .int S)]) hx hb dX3_count_28 hl (k := 1) rfl (nI_add i 1) (by decide) rfl (fun ls hl => ?_)
      refine lv_goto (tgt := 5) hx hb dX3_count_31 (by decide) ?_
      refine ih_i () ls (by omega) (show lv_has ls 5 [(3, .int (sumN (fCnt g R S) (i + 1))), (4, .int (nI (i + 1))), (0, .ref (ad 5)), (1, .int R), (2, .int S)] from ?_)
      rw [show sumN (fCnt g R S) (i + 1) = sumN (fCnt g R S) i from by simp_all [sumN_s, fCnt]]
      exact lv_sub hl [1, 0, 2, 3, 4] rfl
    · have c_3 := bI_t c_3
      refine lv_iinc (v := (sumN (fCnt g R S) i) + 1) (lv' := [(3, .int ((sumN (fCnt g R S) i) + 1)), (4, .int (nI i)), (0, .ref (ad 5)), (1, .int R), (2, .int S)]) hx hb dX3_count_25 hl (k := 0) rfl (rfl) (by decide) rfl (fun ls hl => ?_)
      refine lv_iinc (v := nI (i + 1)) (lv' := [(4, .int (nI (i + 1))), (3, .int ((sumN (fCnt g R S) i) + 1)), (0, .ref (ad 5)), (1, .int R), (2, .int S)]) hx hb dX3_count_28 hl (k := 1) rfl (nI_add i 1) (by decide) rfl (fun ls hl => ?_)
      refine lv_goto (tgt := 5) hx hb dX3_count_31 (by decide) ?_
      refine ih_i () ls (by omega) (show lv_has ls 5 [(3, .int (sumN (fCnt g R S) (i + 1))), (4, .int (nI (i + 1))), (0, .ref (ad 5)), (1, .int R), (2, .int S)] from ?_)
      rw [show sumN (fCnt g R S) (i + 1) = (sumN (fCnt g R S) i) + 1 from by simp_all [sumN_s, fCnt]]
      exact lv_sub hl [1, 0, 2, 3, 4] rfl
set_option maxHeartbeats 4000000 in
set_option maxRecDepth 100000 in
theorem c_X3_charge (l : Launch) (D : va_G) (ty : Nat → ClassId) (g : Nat → Nat → Int32) (ad : Nat → Nat) (n : Nat) (hn : g 5 0 = nI n) (hn40 : n ≤ 40) (R S : Int32) : Met l yX3_charge wsX3_charge ({ frames := 2, cells := 0, slots := 0, locals := 44 }) (va_Pc [.ref (ad 5), .int R, .int S] (zI D ty g ad)) (vp_Si (fun v => v = sumN (fCh g R S) n)) 0 0 (fun _ => False) := by
  refine zMet (cc := cX3_charge) (maxL := 5) (ret := (some .int)) (by decide) rfl (Nat.le_of_ble_eq_true rfl) ?_
  intro p e s m below meth c hx hb hr hts hown hlocks hml hB ls hl
  obtain ⟨hP, hK, hN⟩ := hB
  have hl : lv_has ls 5 [(0, .ref (ad 5)), (1, .int R), (2, .int S)] := hl
  have hk0 := hts (.fieldLink RX3 9 "DatamarketDesk$Reads" "count" "I") (by decide +kernel)
  have hinX3 : ∀ w ∈ wsX30, w ∈ wsX3_charge := by decide +kernel
  refine lv_iconst (v := nI 0) hx hb dX3_charge_0 (by decide) ?_
  refine lv_istore_n (lv' := [(3, .int (nI 0)), (0, .ref (ad 5)), (1, .int R), (2, .int S)]) hx hb dX3_charge_1 rfl hl (by decide) rfl (fun ls hl => ?_)
  refine lv_iconst (v := nI 0) hx hb dX3_charge_2 (by decide) ?_
  refine lv_istore (lv' := [(4, .int (nI 0)), (3, .int (nI 0)), (0, .ref (ad 5)), (1, .int R), (2, .int S)]) hx hb dX3_charge_3 hl (by decide) rfl (fun ls hl => ?_)
  refine zloopP (τ := Unit) (fun i _ ls => lv_has ls 5 [(3, .int (sumN (fCh g R S) i)), (4, .int (nI i)), (0, .ref (ad 5)), (1, .int R), (2, .int S)]) n ?_ 0 () ls (Nat.zero_le _) (lv_sub hl [1, 0, 2, 3, 4] rfl)
  intro i _ ls hi_i hl ih_i
  have hl : lv_has ls 5 [(3, .int (sumN (fCh g R S) i)), (4, .int (nI i)), (0, .ref (ad 5)), (1, .int R), (2, .int S)] := hl
  refine lv_iload hx hb dX3_charge_5 (lv_at hl 1 rfl) ?_
  refine lv_aload_n hx hb dX3_charge_7 rfl (lv_at hl 2 rfl) ?_
  refine va_get hx hb hts hinX3 hown hK hP 5 rfl rfl 0 (by decide) (hk0) (fun _ h9 => h9) rfl dX3_charge_8 ?_
  refine zeq hn ?_
  refine lv_icmp_ge (tgt := 40) hx hb dX3_charge_11 (by decide) (fun c_1 => ?_) (fun c_1 => ?_)
  · have c_1 := zn_geT (a := i) (b := n) (by omega) (by omega) c_1
    obtain rfl : i = n := by omega
    refine lv_iload_n hx hb dX3_charge_40 rfl (lv_at hl 0 rfl) ?_
    exact W.iret (v := sumN (fCh g R S) i) hx hb hr (fun t ht hW => ⟨_, rfl, rfl, ht⟩) (fun _ h => nomatch h) dX3_charge_41
  · have c_1 := zn_geF (a := i) (b := n) (by omega) (by omega) c_1
    refine lv_aload_n hx hb dX3_charge_14 rfl (lv_at hl 2 rfl) ?_
    refine lv_iload hx hb dX3_charge_15 (lv_at hl 1 rfl) ?_
    refine lv_iload_n hx hb dX3_charge_17 rfl (lv_at hl 3 rfl) ?_
    refine lv_iload_n hx hb dX3_charge_18 rfl (lv_at hl 4 rfl) ?_
    refine zcVi (As := [.int (nI i), .int R, .int S]) (rest := []) ⟨hx, hb, hml, hown, hts⟩ (c_X3_isOf l D ty g ad i (by omega) R S) (cwV 3 hts gX3_charge_X3_isOf rfl rfl rfl (by decide +kernel) ⟨Nat.le_of_ble_eq_true rfl, Nat.le_of_ble_eq_true rfl⟩) zI_blind (zI_pre hP hK hN) (va_recv hK hP (ci := 3) (q0 := 5) rfl rfl) rfl hl.1 rfl (Nat.le_of_ble_eq_true rfl) dX3_charge_19 ⟨Nat.le_of_ble_eq_true rfl, Nat.le_of_ble_eq_true rfl⟩ (fun r_2 hr_2 => ?_)
    subst hr_2
    refine lv_if_eq (tgt := 34) hx hb dX3_charge_22 (by decide) (fun c_3 => ?_) (fun c_3 => ?_)
    · have c_3 := bI_f c_3
      refine lv_iinc (v := nI (i + 1)) (lv' := [(4, .int (nI (i + 1))), (3, .int (sumN (fCh g R S) i)), (0, .ref (ad 5)), (1, .int R), (2, .int S)]) hx hb dX3_charge_34 hl (k := 1) rfl (nI_add i 1) (by decide) rfl (fun ls hl => ?_)
      refine lv_goto (tgt := 5) hx hb dX3_charge_37 (by decide) ?_
      refine ih_i () ls (by omega) (show lv_has ls 5 [(3, .int (sumN (fCh g R S) (i + 1))), (4, .int (nI (i + 1))), (0, .ref (ad 5)), (1, .int R), (2, .int S)] from ?_)
      rw [show sumN (fCh g R S) (i + 1) = sumN (fCh g R S) i from by simp_all [sumN_s, fCh]]
      exact lv_sub hl [1, 0, 2, 3, 4] rfl
    · have c_3 := bI_t c_3
      refine lv_iload_n hx hb dX3_charge_25 rfl (lv_at hl 0 rfl) ?_
      refine lv_aload_n hx hb dX3_charge_26 rfl (lv_at hl 2 rfl) ?_
      refine lv_iload hx hb dX3_charge_27 (lv_at hl 1 rfl) ?_
      refine zcVi (As := [.int (nI i)]) (rest := [.int (sumN (fCh g R S) i)]) ⟨hx, hb, hml, hown, hts⟩ (c_X3_chargeOf l D ty g ad i (by omega)) (cwV 1 hts gX3_charge_X3_chargeOf rfl rfl rfl (by decide +kernel) ⟨Nat.le_of_ble_eq_true rfl, Nat.le_of_ble_eq_true rfl⟩) zI_blind (zI_pre hP hK hN) (va_recv hK hP (ci := 3) (q0 := 5) rfl rfl) rfl hl.1 rfl (Nat.le_of_ble_eq_true rfl) dX3_charge_29 ⟨Nat.le_of_ble_eq_true rfl, Nat.le_of_ble_eq_true rfl⟩ (fun r_4 hr_4 => ?_)
      subst hr_4
      refine lv_iadd hx hb dX3_charge_32 ?_
      refine lv_istore_n (lv' := [(3, .int ((sumN (fCh g R S) i) + (chN g i))), (4, .int (nI i)), (0, .ref (ad 5)), (1, .int R), (2, .int S)]) hx hb dX3_charge_33 rfl hl (by decide) rfl (fun ls hl => ?_)
      refine lv_iinc (v := nI (i + 1)) (lv' := [(4, .int (nI (i + 1))), (3, .int ((sumN (fCh g R S) i) + (chN g i))), (0, .ref (ad 5)), (1, .int R), (2, .int S)]) hx hb dX3_charge_34 hl (k := 1) rfl (nI_add i 1) (by decide) rfl (fun ls hl => ?_)
      refine lv_goto (tgt := 5) hx hb dX3_charge_37 (by decide) ?_
      refine ih_i () ls (by omega) (show lv_has ls 5 [(3, .int (sumN (fCh g R S) (i + 1))), (4, .int (nI (i + 1))), (0, .ref (ad 5)), (1, .int R), (2, .int S)] from ?_)
      rw [show sumN (fCh g R S) (i + 1) = (sumN (fCh g R S) i) + (chN g i) from by simp_all [sumN_s, fCh]]
      exact lv_sub hl [1, 0, 2, 3, 4] rfl
set_option maxHeartbeats 4000000 in
set_option maxRecDepth 100000 in
theorem c_X3_credit_21 (l : Launch) (D : va_G) (ty : Nat → ClassId) (g : Nat → Nat → Int32) (ad : Nat → Nat) (n : Nat) (hn : g 5 0 = nI n) (hn40 : n ≤ 40) (hrd : ∀ r, r < n → nb (g 30 r) 8 ∧ nb (g 31 r) 6) (R S : Int32) : Met l yX3_credit wsX3_credit ({ frames := 2, cells := 0, slots := 0, locals := 47 }) (va_Pc [.ref (ad 5), .int R, .int S, .ref (ad 21)] (zI D ty g ad)) (vp_Si (fun v => v = sumN (fCr g R S 21) n)) 0 0 (fun _ => False) := by
  refine zMet (cc := cX3_credit) (maxL := 6) (ret := (some .int)) (by decide) rfl (Nat.le_of_ble_eq_true rfl) ?_
  intro p e s m below meth c hx hb hr hts hown hlocks hml hB ls hl
  obtain ⟨hP, hK, hN⟩ := hB
  have hl : lv_has ls 6 [(0, .ref (ad 5)), (1, .int R), (2, .int S), (3, .ref (ad 21))] := hl
  have hk0 := hts (.fieldLink RX3 9 "DatamarketDesk$Reads" "count" "I") (by decide +kernel)
  have hinX3 : ∀ w ∈ wsX30, w ∈ wsX3_credit := by decide +kernel
  refine lv_iconst (v := nI 0) hx hb dX3_credit_0 (by decide) ?_
  refine lv_istore (lv' := [(4, .int (nI 0)), (0, .ref (ad 5)), (1, .int R), (2, .int S), (3, .ref (ad 21))]) hx hb dX3_credit_1 hl (by decide) rfl (fun ls hl => ?_)
  refine lv_iconst (v := nI 0) hx hb dX3_credit_3 (by decide) ?_
  refine lv_istore (lv' := [(5, .int (nI 0)), (4, .int (nI 0)), (0, .ref (ad 5)), (1, .int R), (2, .int S), (3, .ref (ad 21))]) hx hb dX3_credit_4 hl (by decide) rfl (fun ls hl => ?_)
  refine zloopP (τ := Unit) (fun i _ ls => lv_has ls 6 [(4, .int (sumN (fCr g R S 21) i)), (5, .int (nI i)), (0, .ref (ad 5)), (1, .int R), (2, .int S), (3, .ref (ad 21))]) n ?_ 0 () ls (Nat.zero_le _) (lv_sub hl [1, 0, 2, 3, 4, 5] rfl)
  intro i _ ls hi_i hl ih_i
  have hl : lv_has ls 6 [(4, .int (sumN (fCr g R S 21) i)), (5, .int (nI i)), (0, .ref (ad 5)), (1, .int R), (2, .int S), (3, .ref (ad 21))] := hl
  refine lv_iload hx hb dX3_credit_6 (lv_at hl 1 rfl) ?_
  refine lv_aload_n hx hb dX3_credit_8 rfl (lv_at hl 2 rfl) ?_
  refine va_get hx hb hts hinX3 hown hK hP 5 rfl rfl 0 (by decide) (hk0) (fun _ h9 => h9) rfl dX3_credit_9 ?_
  refine zeq hn ?_
  refine lv_icmp_ge (tgt := 44) hx hb dX3_credit_12 (by decide) (fun c_1 => ?_) (fun c_1 => ?_)
  · have c_1 := zn_geT (a := i) (b := n) (by omega) (by omega) c_1
    obtain rfl : i = n := by omega
    refine lv_iload hx hb dX3_credit_44 (lv_at hl 0 rfl) ?_
    exact W.iret (v := sumN (fCr g R S 21) i) hx hb hr (fun t ht hW => ⟨_, rfl, rfl, ht⟩) (fun _ h => nomatch h) dX3_credit_46
  · have c_1 := zn_geF (a := i) (b := n) (by omega) (by omega) c_1
    refine lv_aload_n hx hb dX3_credit_15 rfl (lv_at hl 2 rfl) ?_
    refine lv_iload hx hb dX3_credit_16 (lv_at hl 1 rfl) ?_
    refine lv_iload_n hx hb dX3_credit_18 rfl (lv_at hl 3 rfl) ?_
    refine lv_iload_n hx hb dX3_credit_19 rfl (lv_at hl 4 rfl) ?_
    refine zcVi (As := [.int (nI i), .int R, .int S]) (rest := []) ⟨hx, hb, hml, hown, hts⟩ (c_X3_isOf l D ty g ad i (by omega) R S) (cwV 3 hts gX3_credit_X3_isOf rfl rfl rfl (by decide +kernel) ⟨Nat.le_of_ble_eq_true rfl, Nat.le_of_ble_eq_true rfl⟩) zI_blind (zI_pre hP hK hN) (va_recv hK hP (ci := 3) (q0 := 5) rfl rfl) rfl hl.1 rfl (Nat.le_of_ble_eq_true rfl) dX3_credit_20 ⟨Nat.le_of_ble_eq_true rfl, Nat.le_of_ble_eq_true rfl⟩ (fun r_2 hr_2 => ?_)
    subst hr_2
    refine lv_if_eq (tgt := 38) hx hb dX3_credit_23 (by decide) (fun c_3 => ?_) (fun c_3 => ?_)
    · have c_3 := bI_f c_3
      refine lv_iinc (v := nI (i + 1)) (lv' := [(5, .int (nI (i + 1))), (4, .int (sumN (fCr g R S 21) i)), (0, .ref (ad 5)), (1, .int R), (2, .int S), (3, .ref (ad 21))]) hx hb dX3_credit_38 hl (k := 1) rfl (nI_add i 1) (by decide) rfl (fun ls hl => ?_)
      refine lv_goto (tgt := 6) hx hb dX3_credit_41 (by decide) ?_
      refine ih_i () ls (by omega) (show lv_has ls 6 [(4, .int (sumN (fCr g R S 21) (i + 1))), (5, .int (nI (i + 1))), (0, .ref (ad 5)), (1, .int R), (2, .int S), (3, .ref (ad 21))] from ?_)
      rw [show sumN (fCr g R S 21) (i + 1) = sumN (fCr g R S 21) i from by simp_all [sumN_s, fCr]]
      exact lv_sub hl [1, 0, 2, 3, 4, 5] rfl
    · have c_3 := bI_t c_3
      refine lv_iload hx hb dX3_credit_26 (lv_at hl 0 rfl) ?_
      refine lv_aload_n hx hb dX3_credit_28 rfl (lv_at hl 2 rfl) ?_
      refine lv_iload hx hb dX3_credit_29 (lv_at hl 1 rfl) ?_
      refine lv_aload_n hx hb dX3_credit_31 rfl (lv_at hl 5 rfl) ?_
      refine zcVi (As := [.int (nI i), .ref (ad 21)]) (rest := [.int (sumN (fCr g R S 21) i)]) ⟨hx, hb, hml, hown, hts⟩ (c_X3_creditOf_21 l D ty g ad i (by omega) (hrd _ (by omega)).1 (hrd _ (by omega)).2) (cwV 2 hts gX3_credit_X3_creditOf rfl rfl rfl (by decide +kernel) ⟨Nat.le_of_ble_eq_true rfl, Nat.le_of_ble_eq_true rfl⟩) zI_blind (zI_pre hP hK hN) (va_recv hK hP (ci := 3) (q0 := 5) rfl rfl) rfl hl.1 rfl (Nat.le_of_ble_eq_true rfl) dX3_credit_32 ⟨Nat.le_of_ble_eq_true rfl, Nat.le_of_ble_eq_true rfl⟩ (fun r_4 hr_4 => ?_)
      subst hr_4
      refine lv_iadd hx hb dX3_credit_35 ?_
      refine lv_istore (lv' := [(4, .int ((sumN (fCr g R S 21) i) + (crN g 21 i))), (5, .int (nI i)), (0, .ref (ad 5)), (1, .int R), (2, .int S), (3, .ref (ad 21))]) hx hb dX3_credit_36 hl (by decide) rfl (fun ls hl => ?_)
      refine lv_iinc (v := nI (i + 1)) (lv' := [(5, .int (nI (i + 1))), (4, .int ((sumN (fCr g R S 21) i) + (crN g 21 i))), (0, .ref (ad 5)), (1, .int R), (2, .int S), (3, .ref (ad 21))]) hx hb dX3_credit_38 hl (k := 1) rfl (nI_add i 1) (by decide) rfl (fun ls hl => ?_)
      refine lv_goto (tgt := 6) hx hb dX3_credit_41 (by decide) ?_
      refine ih_i () ls (by omega) (show lv_has ls 6 [(4, .int (sumN (fCr g R S 21) (i + 1))), (5, .int (nI (i + 1))), (0, .ref (ad 5)), (1, .int R), (2, .int S), (3, .ref (ad 21))] from ?_)
      rw [show sumN (fCr g R S 21) (i + 1) = (sumN (fCr g R S 21) i) + (crN g 21 i) from by simp_all [sumN_s, fCr]]
      exact lv_sub hl [1, 0, 2, 3, 4, 5] rfl
set_option maxHeartbeats 4000000 in
set_option maxRecDepth 100000 in
theorem c_X3_credit_22 (l : Launch) (D : va_G) (ty : Nat → ClassId) (g : Nat → Nat → Int32) (ad : Nat → Nat) (n : Nat) (hn : g 5 0 = nI n) (hn40 : n ≤ 40) (hrd : ∀ r, r < n → nb (g 30 r) 8 ∧ nb (g 31 r) 6) (R S : Int32) : Met l yX3_credit wsX3_credit ({ frames := 2, cells := 0, slots := 0, locals := 47 }) (va_Pc [.ref (ad 5), .int R, .int S, .ref (ad 22)] (zI D ty g ad)) (vp_Si (fun v => v = sumN (fCr g R S 22) n)) 0 0 (fun _ => False) := by
  refine zMet (cc := cX3_credit) (maxL := 6) (ret := (some .int)) (by decide) rfl (Nat.le_of_ble_eq_true rfl) ?_
  intro p e s m below meth c hx hb hr hts hown hlocks hml hB ls hl
  obtain ⟨hP, hK, hN⟩ := hB
  have hl : lv_has ls 6 [(0, .ref (ad 5)), (1, .int R), (2, .int S), (3, .ref (ad 22))] := hl
  have hk0 := hts (.fieldLink RX3 9 "DatamarketDesk$Reads" "count" "I") (by decide +kernel)
  have hinX3 : ∀ w ∈ wsX30, w ∈ wsX3_credit := by decide +kernel
  refine lv_iconst (v := nI 0) hx hb dX3_credit_0 (by decide) ?_
  refine lv_istore (lv' := [(4, .int (nI 0)), (0, .ref (ad 5)), (1, .int R), (2, .int S), (3, .ref (ad 22))]) hx hb dX3_credit_1 hl (by decide) rfl (fun ls hl => ?_)
  refine lv_iconst (v := nI 0) hx hb dX3_credit_3 (by decide) ?_
  refine lv_istore (lv' := [(5, .int (nI 0)), (4, .int (nI 0)), (0, .ref (ad 5)), (1, .int R), (2, .int S), (3, .ref (ad 22))]) hx hb dX3_credit_4 hl (by decide) rfl (fun ls hl => ?_)
  refine zloopP (τ := Unit) (fun i _ ls => lv_has ls 6 [(4, .int (sumN (fCr g R S 22) i)), (5, .int (nI i)), (0, .ref (ad 5)), (1, .int R), (2, .int S), (3, .ref (ad 22))]) n ?_ 0 () ls (Nat.zero_le _) (lv_sub hl [1, 0, 2, 3, 4, 5] rfl)
  intro i _ ls hi_i hl ih_i
  have hl : lv_has ls 6 [(4, .int (sumN (fCr g R S 22) i)), (5, .int (nI i)), (0, .ref (ad 5)), (1, .int R), (2, .int S), (3, .ref (ad 22))] := hl
  refine lv_iload hx hb dX3_credit_6 (lv_at hl 1 rfl) ?_
  refine lv_aload_n hx hb dX3_credit_8 rfl (lv_at hl 2 rfl) ?_
  refine va_get hx hb hts hinX3 hown hK hP 5 rfl rfl 0 (by decide) (hk0) (fun _ h9 => h9) rfl dX3_credit_9 ?_
  refine zeq hn ?_
  refine lv_icmp_ge (tgt := 44) hx hb dX3_credit_12 (by decide) (fun c_1 => ?_) (fun c_1 => ?_)
  · have c_1 := zn_geT (a := i) (b := n) (by omega) (by omega) c_1
    obtain rfl : i = n := by omega
    refine lv_iload hx hb dX3_credit_44 (lv_at hl 0 rfl) ?_
    exact W.iret (v := sumN (fCr g R S 22) i) hx hb hr (fun t ht hW => ⟨_, rfl, rfl, ht⟩) (fun _ h => nomatch h) dX3_credit_46
  · have c_1 := zn_geF (a := i) (b := n) (by omega) (by omega) c_1
    refine lv_aload_n hx hb dX3_credit_15 rfl (lv_at hl 2 rfl) ?_
    refine lv_iload hx hb dX3_credit_16 (lv_at hl 1 rfl) ?_
    refine lv_iload_n hx hb dX3_credit_18 rfl (lv_at hl 3 rfl) ?_
    refine lv_iload_n hx hb dX3_credit_19 rfl (lv_at hl 4 rfl) ?_
    refine zcVi (As := [.int (nI i), .int R, .int S]) (rest := []) ⟨hx, hb, hml, hown, hts⟩ (c_X3_isOf l D ty g ad i (by omega) R S) (cwV 3 hts gX3_credit_X3_isOf rfl rfl rfl (by decide +kernel) ⟨Nat.le_of_ble_eq_true rfl, Nat.le_of_ble_eq_true rfl⟩) zI_blind (zI_pre hP hK hN) (va_recv hK hP (ci := 3) (q0 := 5) rfl rfl) rfl hl.1 rfl (Nat.le_of_ble_eq_true rfl) dX3_credit_20 ⟨Nat.le_of_ble_eq_true rfl, Nat.le_of_ble_eq_true rfl⟩ (fun r_2 hr_2 => ?_)
    subst hr_2
    refine lv_if_eq (tgt := 38) hx hb dX3_credit_23 (by decide) (fun c_3 => ?_) (fun c_3 => ?_)
    · have c_3 := bI_f c_3
      refine lv_iinc (v := nI (i + 1)) (lv' := [(5, .int (nI (i + 1))), (4, .int (sumN (fCr g R S 22) i)), (0, .ref (ad 5)), (1, .int R), (2, .int S), (3, .ref (ad 22))]) hx hb dX3_credit_38 hl (k := 1) rfl (nI_add i 1) (by decide) rfl (fun ls hl => ?_)
      refine lv_goto (tgt := 6) hx hb dX3_credit_41 (by decide) ?_
      refine ih_i () ls (by omega) (show lv_has ls 6 [(4, .int (sumN (fCr g R S 22) (i + 1))), (5, .int (nI (i + 1))), (0, .ref (ad 5)), (1, .int R), (2, .int S), (3, .ref (ad 22))] from ?_)
      rw [show sumN (fCr g R S 22) (i + 1) = sumN (fCr g R S 22) i from by simp_all [sumN_s, fCr]]
      exact lv_sub hl [1, 0, 2, 3, 4, 5] rfl
    · have c_3 := bI_t c_3
      refine lv_iload hx hb dX3_credit_26 (lv_at hl 0 rfl) ?_
      refine lv_aload_n hx hb dX3_credit_28 rfl (lv_at hl 2 rfl) ?_
      refine lv_iload hx hb dX3_credit_29 (lv_at hl 1 rfl) ?_
      refine lv_aload_n hx hb dX3_credit_31 rfl (lv_at hl 5 rfl) ?_
      refine zcVi (As := [.int (nI i), .ref (ad 22)]) (rest := [.int (sumN (fCr g R S 22) i)]) ⟨hx, hb, hml, hown, hts⟩ (c_X3_creditOf_22 l D ty g ad i (by omega) (hrd _ (by omega)).1 (hrd _ (by omega)).2) (cwV 2 hts gX3_credit_X3_creditOf rfl rfl rfl (by decide +kernel) ⟨Nat.le_of_ble_eq_true rfl, Nat.le_of_ble_eq_true rfl⟩) zI_blind (zI_pre hP hK hN) (va_recv hK hP (ci := 3) (q0 := 5) rfl rfl) rfl hl.1 rfl (Nat.le_of_ble_eq_true rfl) dX3_credit_32 ⟨Nat.le_of_ble_eq_true rfl, Nat.le_of_ble_eq_true rfl⟩ (fun r_4 hr_4 => ?_)
      subst hr_4
      refine lv_iadd hx hb dX3_credit_35 ?_
      refine lv_istore (lv' := [(4, .int ((sumN (fCr g R S 22) i) + (crN g 22 i))), (5, .int (nI i)), (0, .ref (ad 5)), (1, .int R), (2, .int S), (3, .ref (ad 22))]) hx hb dX3_credit_36 hl (by decide) rfl (fun ls hl => ?_)
      refine lv_iinc (v := nI (i + 1)) (lv' := [(5, .int (nI (i + 1))), (4, .int ((sumN (fCr g R S 22) i) + (crN g 22 i))), (0, .ref (ad 5)), (1, .int R), (2, .int S), (3, .ref (ad 22))]) hx hb dX3_credit_38 hl (k := 1) rfl (nI_add i 1) (by decide) rfl (fun ls hl => ?_)
      refine lv_goto (tgt := 6) hx hb dX3_credit_41 (by decide) ?_
      refine ih_i () ls (by omega) (show lv_has ls 6 [(4, .int (sumN (fCr g R S 22) (i + 1))), (5, .int (nI (i + 1))), (0, .ref (ad 5)), (1, .int R), (2, .int S), (3, .ref (ad 22))] from ?_)
      rw [show sumN (fCr g R S 22) (i + 1) = (sumN (fCr g R S 22) i) + (crN g 22 i) from by simp_all [sumN_s, fCr]]
      exact lv_sub hl [1, 0, 2, 3, 4, 5] rfl
set_option maxHeartbeats 4000000 in
set_option maxRecDepth 100000 in
theorem c_X3_billedTo (l : Launch) (D : va_G) (ty : Nat → ClassId) (g : Nat → Nat → Int32) (ad : Nat → Nat) (n : Nat) (hn : g 5 0 = nI n) (hn40 : n ≤ 40) (R : Int32) : Met l yX3_billedTo wsX3_billedTo ({ frames := 1, cells := 0, slots := 0, locals := 23 }) (va_Pc [.ref (ad 5), .int R] (zI D ty g ad)) (vp_Si (fun v => v = sumN (fBil g R) n)) 0 0 (fun _ => False) := by
  refine zMet (cc := cX3_billedTo) (maxL := 4) (ret := (some .int)) (by decide) rfl (Nat.le_of_ble_eq_true rfl) ?_
  intro p e s m below meth c hx hb hr hts hown hlocks hml hB ls hl
  obtain ⟨hP, hK, hN⟩ := hB
  have hl : lv_has ls 4 [(0, .ref (ad 5)), (1, .int R)] := hl
  have hk0 := hts (.fieldLink RX3 9 "DatamarketDesk$Reads" "count" "I") (by decide +kernel)
  have hinX3 : ∀ w ∈ wsX30, w ∈ wsX3_billedTo := by decide +kernel
  have hk2 := hts (.fieldLink RX3 40 "DatamarketDesk$Reads" "billed" "[I") (by decide +kernel)
  refine lv_iconst (v := nI 0) hx hb dX3_billedTo_0 (by decide) ?_
  refine lv_istore_n (lv' := [(2, .int (nI 0)), (0, .ref (ad 5)), (1, .int R)]) hx hb dX3_billedTo_1 rfl hl (by decide) rfl (fun ls hl => ?_)
  refine lv_iconst (v := nI 0) hx hb dX3_billedTo_2 (by decide) ?_
  refine lv_istore_n (lv' := [(3, .int (nI 0)), (2, .int (nI 0)), (0, .ref (ad 5)), (1, .int R)]) hx hb dX3_billedTo_3 rfl hl (by decide) rfl (fun ls hl => ?_)
  refine zloopP (τ := Unit) (fun i _ ls => lv_has ls 4 [(2, .int (sumN (fBil g R) i)), (3, .int (nI i)), (0, .ref (ad 5)), (1, .int R)]) n ?_ 0 () ls (Nat.zero_le _) (lv_sub hl [1, 0, 2, 3] rfl)
  intro i _ ls hi_i hl ih_i
  have hl : lv_has ls 4 [(2, .int (sumN (fBil g R) i)), (3, .int (nI i)), (0, .ref (ad 5)), (1, .int R)] := hl
  refine lv_iload_n hx hb dX3_billedTo_4 rfl (lv_at hl 1 rfl) ?_
  refine lv_aload_n hx hb dX3_billedTo_5 rfl (lv_at hl 2 rfl) ?_
  refine va_get hx hb hts hinX3 hown hK hP 5 rfl rfl 0 (by decide) (hk0) (fun _ h9 => h9) rfl dX3_billedTo_6 ?_
  refine zeq hn ?_
  refine lv_icmp_ge (tgt := 37) hx hb dX3_billedTo_9 (by decide) (fun c_1 => ?_) (fun c_1 => ?_)
  · have c_1 := zn_geT (a := i) (b := n) (by omega) (by omega) c_1
    obtain rfl : i = n := by omega
    refine lv_iload_n hx hb dX3_billedTo_37 rfl (lv_at hl 0 rfl) ?_
    exact W.iret (v := sumN (fBil g R) i) hx hb hr (fun t ht hW => ⟨_, rfl, rfl, ht⟩) (fun _ h => nomatch h) dX3_billedTo_38
  · have c_1 := zn_geF (a := i) (b := n) (by omega) (by omega) c_1
    refine lv_aload_n hx hb dX3_billedTo_12 rfl (lv_at hl 2 rfl) ?_
    refine lv_iload_n hx hb dX3_billedTo_13 rfl (lv_at hl 1 rfl) ?_
    refine lv_iload_n hx hb dX3_billedTo_14 rfl (lv_at hl 3 rfl) ?_
    refine lv_iconst (v := -1) hx hb dX3_billedTo_15 (by decide) ?_
    refine zcVi (As := [.int (nI i), .int R, .int (-1)]) (rest := []) ⟨hx, hb, hml, hown, hts⟩ (c_X3_isOf l D ty g ad i (by omega) R (-1)) (cwV 3 hts gX3_billedTo_X3_isOf rfl rfl rfl (by decide +kernel) ⟨Nat.le_of_ble_eq_true rfl, Nat.le_of_ble_eq_true rfl⟩) zI_blind (zI_pre hP hK hN) (va_recv hK hP (ci := 3) (q0 := 5) rfl rfl) rfl hl.1 rfl (Nat.le_of_ble_eq_true rfl) dX3_billedTo_16 ⟨Nat.le_of_ble_eq_true rfl, Nat.le_of_ble_eq_true rfl⟩ (fun r_2 hr_2 => ?_)
    subst hr_2
    refine lv_if_eq (tgt := 31) hx hb dX3_billedTo_19 (by decide) (fun c_3 => ?_) (fun c_3 => ?_)
    · have c_3 := bI_f c_3
      refine lv_iinc (v := nI (i + 1)) (lv' := [(3, .int (nI (i + 1))), (2, .int (sumN (fBil g R) i)), (0, .ref (ad 5)), (1, .int R)]) hx hb dX3_billedTo_31 hl (k := 1) rfl (nI_add i 1) (by decide) rfl (fun ls hl => ?_)
      refine lv_goto (tgt := 4) hx hb dX3_billedTo_34 (by decide) ?_
      refine ih_i () ls (by omega) (show lv_has ls 4 [(2, .int (sumN (fBil g R) (i + 1))), (3, .int (nI (i + 1))), (0, .ref (ad 5)), (1, .int R)] from ?_)
      rw [show sumN (fBil g R) (i + 1) = sumN (fBil g R) i from by simp_all [sumN_s, fBil]]
      exact lv_sub hl [1, 0, 2, 3] rfl
    · have c_3 := bI_t c_3
      refine lv_iload_n hx hb dX3_billedTo_22 rfl (lv_at hl 0 rfl) ?_
      refine lv_aload_n hx hb dX3_billedTo_23 rfl (lv_at hl 2 rfl) ?_
      refine va_get hx hb hts hinX3 hown hK hP 5 rfl rfl 9 (by decide) (hk2) (fun _ h9 => h9) rfl dX3_billedTo_24 ?_
      refine lv_iload_n hx hb dX3_billedTo_27 rfl (lv_at hl 1 rfl) ?_
      refine zald hx hb hK hP 37 0 rfl rfl (i := i) (by omega) (by decide) dX3_billedTo_28 ?_
      refine lv_iadd hx hb dX3_billedTo_29 ?_
      refine lv_istore_n (lv' := [(2, .int ((sumN (fBil g R) i) + (g 37 i))), (3, .int (nI i)), (0, .ref (ad 5)), (1, .int R)]) hx hb dX3_billedTo_30 rfl hl (by decide) rfl (fun ls hl => ?_)
      refine lv_iinc (v := nI (i + 1)) (lv' := [(3, .int (nI (i + 1))), (2, .int ((sumN (fBil g R) i) + (g 37 i))), (0, .ref (ad 5)), (1, .int R)]) hx hb dX3_billedTo_31 hl (k := 1) rfl (nI_add i 1) (by decide) rfl (fun ls hl => ?_)
      refine lv_goto (tgt := 4) hx hb dX3_billedTo_34 (by decide) ?_
      refine ih_i () ls (by omega) (show lv_has ls 4 [(2, .int (sumN (fBil g R) (i + 1))), (3, .int (nI (i + 1))), (0, .ref (ad 5)), (1, .int R)] from ?_)
      rw [show sumN (fBil g R) (i + 1) = (sumN (fBil g R) i) + (g 37 i) from by simp_all [sumN_s, fBil]]
      exact lv_sub hl [1, 0, 2, 3] rfl
set_option maxHeartbeats 4000000 in
set_option maxRecDepth 100000 in
theorem c_X3_due (l : Launch) (D : va_G) (ty : Nat → ClassId) (g : Nat → Nat → Int32) (ad : Nat → Nat) (n : Nat) (hn : g 5 0 = nI n) (hn40 : n ≤ 40) (hrd : ∀ r, r < n → nb (g 30 r) 8 ∧ nb (g 31 r) 6) (R : Int32) : Met l yX3_due wsX3_due ({ frames := 3, cells := 0, slots := 0, locals := 69 }) (va_Pc [.ref (ad 5), .int R, .ref (ad 21)] (zI D ty g ad)) (vp_Si (fun v => v = sumN (fDue g R 21) n)) 0 0 (fun _ => False) := by
  refine zMet (cc := cX3_due) (maxL := 5) (ret := (some .int)) (by decide) rfl (Nat.le_of_ble_eq_true rfl) ?_
  intro p e s m below meth c hx hb hr hts hown hlocks hml hB ls hl
  obtain ⟨hP, hK, hN⟩ := hB
  have hl : lv_has ls 5 [(0, .ref (ad 5)), (1, .int R), (2, .ref (ad 21))] := hl
  have hk0 := hts (.fieldLink RX3 9 "DatamarketDesk$Reads" "count" "I") (by decide +kernel)
  have hinX3 : ∀ w ∈ wsX30, w ∈ wsX3_due := by decide +kernel
  have hk2 := hts (.fieldLink RX3 40 "DatamarketDesk$Reads" "billed" "[I") (by decide +kernel)
  refine lv_iconst (v := nI 0) hx hb dX3_due_0 (by decide) ?_
  refine lv_istore_n (lv' := [(3, .int (nI 0)), (0, .ref (ad 5)), (1, .int R), (2, .ref (ad 21))]) hx hb dX3_due_1 rfl hl (by decide) rfl (fun ls hl => ?_)
  refine lv_iconst (v := nI 0) hx hb dX3_due_2 (by decide) ?_
  refine lv_istore (lv' := [(4, .int (nI 0)), (3, .int (nI 0)), (0, .ref (ad 5)), (1, .int R), (2, .ref (ad 21))]) hx hb dX3_due_3 hl (by decide) rfl (fun ls hl => ?_)
  refine zloopP (τ := Unit) (fun i _ ls => lv_has ls 5 [(3, .int (sumN (fDue g R 21) i)), (4, .int (nI i)), (0, .ref (ad 5)), (1, .int R), (2, .ref (ad 21))]) n ?_ 0 () ls (Nat.zero_le _) (lv_sub hl [1, 0, 2, 3, 4] rfl)
  intro i _ ls hi_i hl ih_i
  have hl : lv_has ls 5 [(3, .int (sumN (fDue g R 21) i)), (4, .int (nI i)), (0, .ref (ad 5)), (1, .int R), (2, .ref (ad 21))] := hl
  refine lv_iload hx hb dX3_due_5 (lv_at hl 1 rfl) ?_
  refine lv_aload_n hx hb dX3_due_7 rfl (lv_at hl 2 rfl) ?_
  refine va_get hx hb hts hinX3 hown hK hP 5 rfl rfl 0 (by decide) (hk0) (fun _ h9 => h9) rfl dX3_due_8 ?_
  refine zeq hn ?_
  refine lv_icmp_ge (tgt := 49) hx hb dX3_due_11 (by decide) (fun c_1 => ?_) (fun c_1 => ?_)
  · have c_1 := zn_geT (a := i) (b := n) (by omega) (by omega) c_1
    obtain rfl : i = n := by omega
    refine lv_iload_n hx hb dX3_due_49 rfl (lv_at hl 0 rfl) ?_
    exact W.iret (v := sumN (fDue g R 21) i) hx hb hr (fun t ht hW => ⟨_, rfl, rfl, ht⟩) (fun _ h => nomatch h) dX3_due_50
  · have c_1 := zn_geF (a := i) (b := n) (by omega) (by omega) c_1
    refine lv_aload_n hx hb dX3_due_14 rfl (lv_at hl 2 rfl) ?_
    refine lv_iload hx hb dX3_due_15 (lv_at hl 1 rfl) ?_
    refine lv_iload_n hx hb dX3_due_17 rfl (lv_at hl 3 rfl) ?_
    refine lv_iconst (v := -1) hx hb dX3_due_18 (by decide) ?_
    refine zcVi (As := [.int (nI i), .int R, .int (-1)]) (rest := []) ⟨hx, hb, hml, hown, hts⟩ (c_X3_isOf l D ty g ad i (by omega) R (-1)) (cwV 3 hts gX3_due_X3_isOf rfl rfl rfl (by decide +kernel) ⟨Nat.le_of_ble_eq_true rfl, Nat.le_of_ble_eq_true rfl⟩) zI_blind (zI_pre hP hK hN) (va_recv hK hP (ci := 3) (q0 := 5) rfl rfl) rfl hl.1 rfl (Nat.le_of_ble_eq_true rfl) dX3_due_19 ⟨Nat.le_of_ble_eq_true rfl, Nat.le_of_ble_eq_true rfl⟩ (fun r_2 hr_2 => ?_)
    subst hr_2
    refine lv_if_eq (tgt := 43) hx hb dX3_due_22 (by decide) (fun c_3 => ?_) (fun c_3 => ?_)
    · have c_3 := bI_f c_3
      refine lv_iinc (v := nI (i + 1)) (lv' := [(4, .int (nI (i + 1))), (3, .int (sumN (fDue g R 21) i)), (0, .ref (ad 5)), (1, .int R), (2, .ref (ad 21))]) hx hb dX3_due_43 hl (k := 1) rfl (nI_add i 1) (by decide) rfl (fun ls hl => ?_)
      refine lv_goto (tgt := 5) hx hb dX3_due_46 (by decide) ?_
      refine ih_i () ls (by omega) (show lv_has ls 5 [(3, .int (sumN (fDue g R 21) (i + 1))), (4, .int (nI (i + 1))), (0, .ref (ad 5)), (1, .int R), (2, .ref (ad 21))] from ?_)
      rw [show sumN (fDue g R 21) (i + 1) = sumN (fDue g R 21) i from by simp_all [sumN_s, fDue]]
      exact lv_sub hl [1, 0, 2, 3, 4] rfl
    · have c_3 := bI_t c_3
      refine lv_iload_n hx hb dX3_due_25 rfl (lv_at hl 0 rfl) ?_
      refine lv_aload_n hx hb dX3_due_26 rfl (lv_at hl 2 rfl) ?_
      refine lv_iload hx hb dX3_due_27 (lv_at hl 1 rfl) ?_
      refine lv_aload_n hx hb dX3_due_29 rfl (lv_at hl 4 rfl) ?_
      refine zcVi (As := [.int (nI i), .ref (ad 21)]) (rest := [.int (sumN (fDue g R 21) i)]) ⟨hx, hb, hml, hown, hts⟩ (c_X3_worthOf_21 l D ty g ad i n (by omega) (by omega) hrd) (cwV 2 hts gX3_due_X3_worthOf rfl rfl rfl (by decide +kernel) ⟨Nat.le_of_ble_eq_true rfl, Nat.le_of_ble_eq_true rfl⟩) zI_blind (zI_pre hP hK hN) (va_recv hK hP (ci := 3) (q0 := 5) rfl rfl) rfl hl.1 rfl (Nat.le_of_ble_eq_true rfl) dX3_due_30 ⟨Nat.le_of_ble_eq_true rfl, Nat.le_of_ble_eq_true rfl⟩ (fun r_4 hr_4 => ?_)
      subst hr_4
      refine lv_aload_n hx hb dX3_due_33 rfl (lv_at hl 2 rfl) ?_
      refine va_get hx hb hts hinX3 hown hK hP 5 rfl rfl 9 (by decide) (hk2) (fun _ h9 => h9) rfl dX3_due_34 ?_
      refine lv_iload hx hb dX3_due_37 (lv_at hl 1 rfl) ?_
      refine zald hx hb hK hP 37 0 rfl rfl (i := i) (by omega) (by decide) dX3_due_39 ?_
      refine lv_isub hx hb dX3_due_40 ?_
      refine lv_iadd hx hb dX3_due_41 ?_
      refine lv_istore_n (lv' := [(3, .int ((sumN (fDue g R 21) i) + ((chN g i - crN g 21 i) - (g 37 i)))), (4, .int (nI i)), (0, .ref (ad 5)), (1, .int R), (2, .ref (ad 21))]) hx hb dX3_due_42 rfl hl (by decide) rfl (fun ls hl => ?_)
      refine lv_iinc (v := nI (i + 1)) (lv' := [(4, .int (nI (i + 1))), (3, .int ((sumN (fDue g R 21) i) + ((chN g i - crN g 21 i) - (g 37 i)))), (0, .ref (ad 5)), (1, .int R), (2, .ref (ad 21))]) hx hb dX3_due_43 hl (k := 1) rfl (nI_add i 1) (by decide) rfl (fun ls hl => ?_)
      refine lv_goto (tgt := 5) hx hb dX3_due_46 (by decide) ?_
      refine ih_i () ls (by omega) (show lv_has ls 5 [(3, .int (sumN (fDue g R 21) (i + 1))), (4, .int (nI (i + 1))), (0, .ref (ad 5)), (1, .int R), (2, .ref (ad 21))] from ?_)
      rw [show sumN (fDue g R 21) (i + 1) = (sumN (fDue g R 21) i) + ((chN g i - crN g 21 i) - (g 37 i)) from by simp_all [sumN_s, fDue]]
      exact lv_sub hl [1, 0, 2, 3, 4] rfl
