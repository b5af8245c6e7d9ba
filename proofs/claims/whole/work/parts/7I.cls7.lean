set_option maxHeartbeats 4000000 in
set_option maxRecDepth 100000 in
theorem c_X5_meanWorth (l : Launch) (D : va_G) (ty : Nat → ClassId) (g : Nat → Nat → Int32) (ad : Nat → Nat) (n1 n2 nL n4 n5 : Nat) (hI : dI g n1 n2 nL n4 n5) : MetD lw_cs l yX5_meanWorth wsX5_meanWorth ({ frames := 3, cells := 0, slots := 0, locals := 72 }) (va_Pc [.ref (ad 0)] (zI D ty g ad)) (va_Qd (fun (v9 : UInt64) (_ : Unit) => alike64 v9 (mwN g n5) = true) (fun _ t => zI D ty g ad t) (fun _ => False)) 0 0 (fun _ => False) := by
  refine zMetD (cc := cX5_meanWorth) (maxL := 2) (ret := (some .double)) (by decide) rfl (Nat.le_of_ble_eq_true rfl) ?_
  intro p e s m below meth c hx hb hr hts hown hlocks hml hB hdr ls hl
  obtain ⟨hP, hK, hN⟩ := hB
  obtain ⟨⟨hn1, hn1b⟩, h78, ⟨hn2, hn2b⟩, h12, ⟨hnL, hnLb⟩, h15, ⟨hn4, hn4b⟩, ⟨hn5, hn5b⟩, hrd5, hd0⟩ := id hI
  have hl : lv_has ls 2 [(0, .ref (ad 0))] := hl
  have hk0 := hts (.fieldLink RX5 40 "DatamarketDesk" "reads" "LDatamarketDesk$Reads;") (by decide +kernel)
  have hinX5 : ∀ w ∈ wsX50, w ∈ wsX5_meanWorth := by decide +kernel
  have hinX3 : ∀ w ∈ wsX30, w ∈ wsX5_meanWorth := by decide +kernel
  have hk3 := hts (.fieldLink RX5 26 "DatamarketDesk" "harms" "LDatamarketDesk$Harms;") (by decide +kernel)
  have hinX1 : ∀ w ∈ wsX10, w ∈ wsX5_meanWorth := by decide +kernel
  refine lv_aload_n hx hb dX5_meanWorth_0 rfl (lv_at hl 0 rfl) ?_
  refine va_get hx hb hts hinX5 hown hK hP 0 rfl rfl 4 (by decide) (hk0) (fun _ h9 => h9) rfl dX5_meanWorth_1 ?_
  refine va_getN hx hb hts hinX3 hown hK hP 5 rfl rfl 0 (by decide) (zN.use hN (List.mem_of_getElem? (i := 16) rfl)) (fun _ h9 => h9) rfl dX5_meanWorth_4 ?_
  refine zeq hn5 ?_
  refine lv_if_gt (tgt := 12) hx hb dX5_meanWorth_7 (by decide) (fun c_1 => ?_) (fun c_1 => ?_)
  · have c_1 := zq_gtT (x := n5) (by omega) c_1
    refine lv_aload_n hx hb dX5_meanWorth_12 rfl (lv_at hl 0 rfl) ?_
    refine va_get hx hb hts hinX5 hown hK hP 0 rfl rfl 4 (by decide) (hk0) (fun _ h9 => h9) rfl dX5_meanWorth_13 ?_
    refine lv_iconst (v := -1) hx hb dX5_meanWorth_16 (by decide) ?_
    refine lv_iconst (v := -1) hx hb dX5_meanWorth_17 (by decide) ?_
    refine zcVi (As := [.int (-1), .int (-1)]) (rest := []) ⟨hx, hb, hml, hown, hts⟩ (c_X3_charge l D ty g ad n5 hn5 hn5b (-1) (-1)) (cwV 2 hts gX5_meanWorth_X3_charge rfl rfl rfl (by decide +kernel) ⟨Nat.le_of_ble_eq_true rfl, Nat.le_of_ble_eq_true rfl⟩) zI_blind (zI_pre hP hK hN) (va_recv hK hP (ci := 4) (q0 := 5) rfl rfl) rfl hl.1 rfl (Nat.le_of_ble_eq_true rfl) dX5_meanWorth_18 ⟨Nat.le_of_ble_eq_true rfl, Nat.le_of_ble_eq_true rfl⟩ (fun r_2 hr_2 => ?_)
    subst hr_2
    refine lv_aload_n hx hb dX5_meanWorth_21 rfl (lv_at hl 0 rfl) ?_
    refine va_get hx hb hts hinX5 hown hK hP 0 rfl rfl 4 (by decide) (hk0) (fun _ h9 => h9) rfl dX5_meanWorth_22 ?_
    refine lv_iconst (v := -1) hx hb dX5_meanWorth_25 (by decide) ?_
    refine lv_iconst (v := -1) hx hb dX5_meanWorth_26 (by decide) ?_
    refine lv_aload_n hx hb dX5_meanWorth_27 rfl (lv_at hl 0 rfl) ?_
    refine va_get hx hb hts hinX5 hown hK hP 0 rfl rfl 2 (by decide) (hk3) (fun _ h9 => h9) rfl dX5_meanWorth_28 ?_
    refine va_getN hx hb hts hinX1 hown hK hP 3 rfl rfl 2 (by decide) (zN.use hN (List.mem_of_getElem? (i := 11) rfl)) (fun _ h9 => h9) rfl dX5_meanWorth_31 ?_
    refine zcVi (As := [.int (-1), .int (-1), .ref (ad 21)]) (rest := [.int (sumN (fCh g (-1) (-1)) n5)]) ⟨hx, hb, hml, hown, hts⟩ (c_X3_credit_21 l D ty g ad n5 hn5 hn5b hrd5 (-1) (-1)) (cwV 3 hts gX5_meanWorth_X3_credit rfl rfl rfl (by decide +kernel) ⟨Nat.le_of_ble_eq_true rfl, Nat.le_of_ble_eq_true rfl⟩) zI_blind (zI_pre hP hK hN) (va_recv hK hP (ci := 4) (q0 := 5) rfl rfl) rfl hl.1 rfl (Nat.le_of_ble_eq_true rfl) dX5_meanWorth_34 ⟨Nat.le_of_ble_eq_true rfl, Nat.le_of_ble_eq_true rfl⟩ (fun r_3 hr_3 => ?_)
    subst hr_3
    refine lv_isub hx hb dX5_meanWorth_37 ?_
    refine lv_istore_n (lv' := [(1, .int ((sumN (fCh g (-1) (-1)) n5) - (sumN (fCr g (-1) (-1) 21) n5))), (0, .ref (ad 0))]) hx hb dX5_meanWorth_38 rfl hl (by decide) rfl (fun ls hl => ?_)
    refine lv_iload_n hx hb dX5_meanWorth_39 rfl (lv_at hl 0 rfl) ?_
    refine lv_i2d hx hb dX5_meanWorth_40 ?_
    refine lv_aload_n hx hb dX5_meanWorth_41 rfl (lv_at hl 1 rfl) ?_
    refine va_get hx hb hts hinX5 hown hK hP 0 rfl rfl 4 (by decide) (hk0) (fun _ h9 => h9) rfl dX5_meanWorth_42 ?_
    refine va_getN hx hb hts hinX3 hown hK hP 5 rfl rfl 0 (by decide) (zN.use hN (List.mem_of_getElem? (i := 16) rfl)) (fun _ h9 => h9) rfl dX5_meanWorth_45 ?_
    refine zeq hn5 ?_
    refine lv_i2d hx hb dX5_meanWorth_48 ?_
    refine lv_ddiv_any hdr lw_bits hx hb dX5_meanWorth_49 (fun r d1 hal hd1 => ?_)
    refine W.endD hd1 ?_
    exact W.dret hx hb hr (fun t ht hW => ⟨⟨r, (), rfl, by rw [show mwN g n5 = _ from if_neg (Nat.pos_iff_ne_zero.mp c_1)]; exact hal, ⟨by rw [ht]; exact hP, va_K.moved hW.alike hK, zN.warm (s := s) hW hN⟩⟩, (va_S.rf (A := fun _ => False) (H0 := s.heap)).F ht⟩) (fun q hq => absurd hq List.not_mem_nil) dX5_meanWorth_50
  · have c_1 := zq_gtF (x := n5) (by omega) c_1
    refine lv_dconst0 hx hb dX5_meanWorth_10 ?_
    refine W.endD hdr ?_
    exact W.dret hx hb hr (fun t ht hW => ⟨⟨_, (), rfl, by rw [show mwN g n5 = _ from if_pos c_1]; exact a64r _, ⟨by rw [ht]; exact hP, va_K.moved hW.alike hK, zN.warm (s := s) hW hN⟩⟩, (va_S.rf (A := fun _ => False) (H0 := s.heap)).F ht⟩) (fun q hq => absurd hq List.not_mem_nil) dX5_meanWorth_11
