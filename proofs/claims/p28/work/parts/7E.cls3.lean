set_option maxHeartbeats 4000000 in
set_option maxRecDepth 100000 in
theorem c_X1_copyOwn_21 (l : Launch) (D : va_G) (ty : Nat → ClassId) (g : Nat → Nat → Int32) (ad : Nat → Nat) (sz : Nat) (hij : zIj ad) : Met l yX1_copyOwn wsX1_copyOwn ({ frames := 0, cells := 0, slots := 0, locals := 0 }) (va_Pc [.ref (ad 3), .ref (ad 21)] (fun U => zI D ty g ad U ∧ U.heap.size = sz)) (va_Qv (fun g2 : Nat → Nat → Int32 => g2 = va_up g 21 (cpy (g 19) (g 21) 288)) (fun g2 t => zI D ty g2 ad t) (AC ad sz)) 0 0 (AC ad sz) := by
  refine zMet (cc := cX1_copyOwn) (maxL := 3) (ret := none) (by decide) rfl (Nat.le_of_ble_eq_true rfl) ?_
  intro p e s m below meth c hx hb hr hts hown hlocks hml hB ls hl
  obtain ⟨⟨hP, hK, hN⟩, hsz⟩ := hB
  subst hsz
  have hS : va_S (AC ad s.heap.size) s.heap s.heap [] := va_S.rf
  have hA9 : ∀ q : Nat, s.heap.size ≤ q → AC ad s.heap.size q := fun q h => Or.inr h
  have hl : lv_has ls 3 [(0, .ref (ad 3)), (1, .ref (ad 21))] := hl
  have hk0 := hts (.fieldLink RX1 9 "DatamarketDesk$Harms" "own" "[I") (by decide +kernel)
  have hinX1 : ∀ w ∈ wsX10, w ∈ wsX1_copyOwn := by decide +kernel
  refine lv_iconst (v := nI 0) hx hb dX1_copyOwn_0 (by decide) ?_
  refine lv_istore_n (lv' := [(2, .int (nI 0)), (0, .ref (ad 3)), (1, .ref (ad 21))]) hx hb dX1_copyOwn_1 rfl hl (by decide) rfl (fun ls hl => ?_)
  refine zloop (τ := Unit) (fun i _ ls H locs cells slots => cells = 0 ∧ slots = 0 ∧ lv_has ls 3 [(2, .int (nI i)), (0, .ref (ad 3)), (1, .ref (ad 21))] ∧ va_P D vwCl (zC ty (va_up g 21 (cpy (g 19) (g 21) i)) ad) H ∧ va_S (AC ad s.heap.size) s.heap H locs) 288 ?_ 0 () ls _ _ _ _ (Nat.zero_le _) (⟨rfl, rfl, lv_sub hl [0, 1, 2] rfl, (by rw [cpy_0, vu_self]; exact hP), hS⟩)
  intro i _ ls H locs cells slots hi_i hinv ih_i
  obtain ⟨rfl, rfl, hl, hP, hS⟩ := hinv
  obtain ⟨g_1, eg_1⟩ : ∃ z : Nat → Nat → Int32, z = va_up g 21 (cpy (g 19) (g 21) i) := ⟨_, rfl⟩
  rw [← eg_1] at hP
  have hl : lv_has ls 3 [(2, .int (nI i)), (0, .ref (ad 3)), (1, .ref (ad 21))] := hl
  refine lv_iload_n hx hb dX1_copyOwn_2 rfl (lv_at hl 0 rfl) ?_
  refine lv_sipush (v := nI 288) hx hb dX1_copyOwn_3 (by decide) ?_
  refine lv_icmp_ge (tgt := 24) hx hb dX1_copyOwn_6 (by decide) (fun c_2 => ?_) (fun c_2 => ?_)
  · have c_2 := zn_geT (a := i) (b := 288) (by omega) (by omega) c_2
    obtain rfl : i = 288 := by omega
    exact W.vret hx hb hr (fun t ht hW => ⟨⟨g_1, rfl, by rw [eg_1], ⟨by rw [ht]; exact hP, va_K.moved hW.alike hK, hN.warm hW⟩⟩, hS.F ht⟩) hS.2.2 dX1_copyOwn_24
  · have c_2 := zn_geF (a := i) (b := 288) (by omega) (by omega) c_2
    refine lv_aload_n hx hb dX1_copyOwn_9 rfl (lv_at hl 2 rfl) ?_
    refine lv_iload_n hx hb dX1_copyOwn_10 rfl (lv_at hl 0 rfl) ?_
    refine lv_aload_n hx hb dX1_copyOwn_11 rfl (lv_at hl 1 rfl) ?_
    refine va_get hx hb hts hinX1 hown hK hP 3 rfl rfl 0 (by decide) (hk0) (fun _ h9 => h9) rfl dX1_copyOwn_12 ?_
    refine lv_iload_n hx hb dX1_copyOwn_15 rfl (lv_at hl 0 rfl) ?_
    refine zald hx hb hK hP 19 0 rfl rfl (i := i) (by omega) (by decide) dX1_copyOwn_16 ?_
    refine zast hx hb hK hP (zD hij) hS 21 0 rfl rfl (i := i) (by omega) (by decide) dX1_copyOwn_17 (fun H locs hP hS => ?_)
    obtain ⟨g_3, eg_3⟩ : ∃ z : Nat → Nat → Int32, z = va_up g_1 21 (upd (g_1 21) i (g_1 19 i)) := ⟨_, rfl⟩
    have hP : va_P D vwCl (zC ty g_3 ad) H := by rw [eg_3]; exact hP
    refine lv_iinc (v := nI (i + 1)) (lv' := [(2, .int (nI (i + 1))), (0, .ref (ad 3)), (1, .ref (ad 21))]) hx hb dX1_copyOwn_18 hl (k := 0) rfl (nI_add i 1) (by decide) rfl (fun ls hl => ?_)
    refine lv_goto (tgt := 2) hx hb dX1_copyOwn_21 (by decide) ?_
    refine ih_i () ls _ _ _ _ (by omega) ⟨rfl, rfl, ?_, ?_, hS⟩
    · show lv_has ls 3 [(2, .int (nI (i + 1))), (0, .ref (ad 3)), (1, .ref (ad 21))]
      exact lv_sub hl [0, 1, 2] rfl
    · have e9 : g_3 = va_up g 21 (cpy (g 19) (g 21) ((i + 1))) := by rw [eg_3, eg_1, ← cpy_s]; exact vu_2 _ _ _ _
      rw [← e9]; exact hP
set_option maxHeartbeats 4000000 in
set_option maxRecDepth 100000 in
theorem c_X1_copyOwn_22 (l : Launch) (D : va_G) (ty : Nat → ClassId) (g : Nat → Nat → Int32) (ad : Nat → Nat) (sz : Nat) (hij : zIj ad) : Met l yX1_copyOwn wsX1_copyOwn ({ frames := 0, cells := 0, slots := 0, locals := 0 }) (va_Pc [.ref (ad 3), .ref (ad 22)] (fun U => zI D ty g ad U ∧ U.heap.size = sz)) (va_Qv (fun g2 : Nat → Nat → Int32 => g2 = va_up g 22 (cpy (g 19) (g 22) 288)) (fun g2 t => zI D ty g2 ad t) (AC ad sz)) 0 0 (AC ad sz) := by
  refine zMet (cc := cX1_copyOwn) (maxL := 3) (ret := none) (by decide) rfl (Nat.le_of_ble_eq_true rfl) ?_
  intro p e s m below meth c hx hb hr hts hown hlocks hml hB ls hl
  obtain ⟨⟨hP, hK, hN⟩, hsz⟩ := hB
  subst hsz
  have hS : va_S (AC ad s.heap.size) s.heap s.heap [] := va_S.rf
  have hA9 : ∀ q : Nat, s.heap.size ≤ q → AC ad s.heap.size q := fun q h => Or.inr h
  have hl : lv_has ls 3 [(0, .ref (ad 3)), (1, .ref (ad 22))] := hl
  have hk0 := hts (.fieldLink RX1 9 "DatamarketDesk$Harms" "own" "[I") (by decide +kernel)
  have hinX1 : ∀ w ∈ wsX10, w ∈ wsX1_copyOwn := by decide +kernel
  refine lv_iconst (v := nI 0) hx hb dX1_copyOwn_0 (by decide) ?_
  refine lv_istore_n (lv' := [(2, .int (nI 0)), (0, .ref (ad 3)), (1, .ref (ad 22))]) hx hb dX1_copyOwn_1 rfl hl (by decide) rfl (fun ls hl => ?_)
  refine zloop (τ := Unit) (fun i _ ls H locs cells slots => cells = 0 ∧ slots = 0 ∧ lv_has ls 3 [(2, .int (nI i)), (0, .ref (ad 3)), (1, .ref (ad 22))] ∧ va_P D vwCl (zC ty (va_up g 22 (cpy (g 19) (g 22) i)) ad) H ∧ va_S (AC ad s.heap.size) s.heap H locs) 288 ?_ 0 () ls _ _ _ _ (Nat.zero_le _) (⟨rfl, rfl, lv_sub hl [0, 1, 2] rfl, (by rw [cpy_0, vu_self]; exact hP), hS⟩)
  intro i _ ls H locs cells slots hi_i hinv ih_i
  obtain ⟨rfl, rfl, hl, hP, hS⟩ := hinv
  obtain ⟨g_1, eg_1⟩ : ∃ z : Nat → Nat → Int32, z = va_up g 22 (cpy (g 19) (g 22) i) := ⟨_, rfl⟩
  rw [← eg_1] at hP
  have hl : lv_has ls 3 [(2, .int (nI i)), (0, .ref (ad 3)), (1, .ref (ad 22))] := hl
  refine lv_iload_n hx hb dX1_copyOwn_2 rfl (lv_at hl 0 rfl) ?_
  refine lv_sipush (v := nI 288) hx hb dX1_copyOwn_3 (by decide) ?_
  refine lv_icmp_ge (tgt := 24) hx hb dX1_copyOwn_6 (by decide) (fun c_2 => ?_) (fun c_2 => ?_)
  · have c_2 := zn_geT (a := i) (b := 288) (by omega) (by omega) c_2
    obtain rfl : i = 288 := by omega
    exact W.vret hx hb hr (fun t ht hW => ⟨⟨g_1, rfl, by rw [eg_1], ⟨by rw [ht]; exact hP, va_K.moved hW.alike hK, hN.warm hW⟩⟩, hS.F ht⟩) hS.2.2 dX1_copyOwn_24
  · have c_2 := zn_geF (a := i) (b := 288) (by omega) (by omega) c_2
    refine lv_aload_n hx hb dX1_copyOwn_9 rfl (lv_at hl 2 rfl) ?_
    refine lv_iload_n hx hb dX1_copyOwn_10 rfl (lv_at hl 0 rfl) ?_
    refine lv_aload_n hx hb dX1_copyOwn_11 rfl (lv_at hl 1 rfl) ?_
    refine va_get hx hb hts hinX1 hown hK hP 3 rfl rfl 0 (by decide) (hk0) (fun _ h9 => h9) rfl dX1_copyOwn_12 ?_
    refine lv_iload_n hx hb dX1_copyOwn_15 rfl (lv_at hl 0 rfl) ?_
    refine zald hx hb hK hP 19 0 rfl rfl (i := i) (by omega) (by decide) dX1_copyOwn_16 ?_
    refine zast hx hb hK hP (zD hij) hS 22 0 rfl rfl (i := i) (by omega) (by decide) dX1_copyOwn_17 (fun H locs hP hS => ?_)
    obtain ⟨g_3, eg_3⟩ : ∃ z : Nat → Nat → Int32, z = va_up g_1 22 (upd (g_1 22) i (g_1 19 i)) := ⟨_, rfl⟩
    have hP : va_P D vwCl (zC ty g_3 ad) H := by rw [eg_3]; exact hP
    refine lv_iinc (v := nI (i + 1)) (lv' := [(2, .int (nI (i + 1))), (0, .ref (ad 3)), (1, .ref (ad 22))]) hx hb dX1_copyOwn_18 hl (k := 0) rfl (nI_add i 1) (by decide) rfl (fun ls hl => ?_)
    refine lv_goto (tgt := 2) hx hb dX1_copyOwn_21 (by decide) ?_
    refine ih_i () ls _ _ _ _ (by omega) ⟨rfl, rfl, ?_, ?_, hS⟩
    · show lv_has ls 3 [(2, .int (nI (i + 1))), (0, .ref (ad 3)), (1, .ref (ad 22))]
      exact lv_sub hl [0, 1, 2] rfl
    · have e9 : g_3 = va_up g 22 (cpy (g 19) (g 22) ((i + 1))) := by rw [eg_3, eg_1, ← cpy_s]; exact vu_2 _ _ _ _
      rw [← e9]; exact hP
set_option maxHeartbeats 4000000 in
set_option maxRecDepth 100000 in
theorem c_X2_carry_21 (l : Launch) (D : va_G) (ty : Nat → ClassId) (g : Nat → Nat → Int32) (ad : Nat → Nat) (sz : Nat) (hij : zIj ad) (nL : Nat) (hnL : g 2 1 = nI nL) (hnLb : nL ≤ 120) (h15 : ∀ j, j < nL → nb (g 15 j) 288 ∧ nb (g 16 j) 288) : Met l yX2_carry wsX2_carry ({ frames := 1, cells := 0, slots := 0, locals := 19 }) (va_Pc [.ref (ad 2), .ref (ad 21)] (fun U => zI D ty g ad U ∧ U.heap.size = sz)) (va_Qv (fun g2 : Nat → Nat → Int32 => g2 = va_up g 21 (carN g (g 21) nL)) (fun g2 t => zI D ty g2 ad t) (AC ad sz)) 0 0 (AC ad sz) := by
  refine zMet (cc := cX2_carry) (maxL := 5) (ret := none) (by decide) rfl (Nat.le_of_ble_eq_true rfl) ?_
  intro p e s m below meth c hx hb hr hts hown hlocks hml hB ls hl
  obtain ⟨⟨hP, hK, hN⟩, hsz⟩ := hB
  subst hsz
  have hS : va_S (AC ad s.heap.size) s.heap s.heap [] := va_S.rf
  have hA9 : ∀ q : Nat, s.heap.size ≤ q → AC ad s.heap.size q := fun q h => Or.inr h
  have hl : lv_has ls 5 [(0, .ref (ad 2)), (1, .ref (ad 21))] := hl
  have hk0 := hts (.fieldLink RX2 25 "DatamarketDesk$Lineage" "linkCount" "I") (by decide +kernel)
  have hinX2 : ∀ w ∈ wsX20, w ∈ wsX2_carry := by decide +kernel
  have hk2 := hts (.fieldLink RX2 28 "DatamarketDesk$Lineage" "linkChildren" "[I") (by decide +kernel)
  have hk3 := hts (.fieldLink RX2 31 "DatamarketDesk$Lineage" "linkParents" "[I") (by decide +kernel)
  have hk4 := hts (.fieldLink RX2 34 "DatamarketDesk$Lineage" "linkShares" "[I") (by decide +kernel)
  refine lv_iconst (v := nI 0) hx hb dX2_carry_0 (by decide) ?_
  refine lv_istore_n (lv' := [(2, .int (nI 0)), (0, .ref (ad 2)), (1, .ref (ad 21))]) hx hb dX2_carry_1 rfl hl (by decide) rfl (fun ls hl => ?_)
  refine zloop (τ := Unit) (fun i _ ls H locs cells slots => cells = 0 ∧ slots = 0 ∧ lv_has ls 5 [(2, .int (nI i)), (0, .ref (ad 2)), (1, .ref (ad 21))] ∧ va_P D vwCl (zC ty (va_up g 21 (carN g (g 21) i)) ad) H ∧ va_S (AC ad s.heap.size) s.heap H locs) nL ?_ 0 () ls _ _ _ _ (Nat.zero_le _) (⟨rfl, rfl, lv_sub hl [0, 1, 2] rfl, (by rw [show carN g (g 21) 0 = g 21 from rfl, vu_self]; exact hP), hS⟩)
  intro i _ ls H locs cells slots hi_i hinv ih_i
  obtain ⟨rfl, rfl, hl, hP, hS⟩ := hinv
  obtain ⟨g_1, eg_1⟩ : ∃ z : Nat → Nat → Int32, z = va_up g 21 (carN g (g 21) i) := ⟨_, rfl⟩
  rw [← eg_1] at hP
  have hl : lv_has ls 5 [(2, .int (nI i)), (0, .ref (ad 2)), (1, .ref (ad 21))] := hl
  refine lv_iload_n hx hb dX2_carry_2 rfl (lv_at hl 0 rfl) ?_
  refine lv_aload_n hx hb dX2_carry_3 rfl (lv_at hl 1 rfl) ?_
  refine va_get hx hb hts hinX2 hown hK hP 2 rfl rfl 4 (by decide) (hk0) (fun _ h9 => h9) rfl dX2_carry_4 ?_
  refine zeq (show g_1 2 1 = nI nL from (by rw [eg_1]; exact hnL)) ?_
  refine lv_icmp_ge (tgt := 54) hx hb dX2_carry_7 (by decide) (fun c_2 => ?_) (fun c_2 => ?_)
  · have c_2 := zn_geT (a := i) (b := nL) (by omega) (by omega) c_2
    obtain rfl : i = nL := by omega
    exact W.vret hx hb hr (fun t ht hW => ⟨⟨g_1, rfl, by rw [eg_1], ⟨by rw [ht]; exact hP, va_K.moved hW.alike hK, hN.warm hW⟩⟩, hS.F ht⟩) hS.2.2 dX2_carry_54
  · have c_2 := zn_geF (a := i) (b := nL) (by omega) (by omega) c_2
    refine lv_aload_n hx hb dX2_carry_10 rfl (lv_at hl 1 rfl) ?_
    refine va_get hx hb hts hinX2 hown hK hP 2 rfl rfl 5 (by decide) (hk2) (fun _ h9 => h9) rfl dX2_carry_11 ?_
    refine lv_iload_n hx hb dX2_carry_14 rfl (lv_at hl 0 rfl) ?_
    refine zald hx hb hK hP 15 0 rfl rfl (i := i) (by omega) (by decide) dX2_carry_15 ?_
    have b_3 : cn (g 15 i) < 288 := (h15 _ (by omega)).1.2
    refine zeq (show g_1 15 i = nI (cn (g 15 i)) from (by rw [eg_1]; exact (h15 _ (by omega)).1.1)) ?_
    refine lv_istore_n (lv' := [(3, .int (nI (cn (g 15 i)))), (2, .int (nI i)), (0, .ref (ad 2)), (1, .ref (ad 21))]) hx hb dX2_carry_16 rfl hl (by decide) rfl (fun ls hl => ?_)
    refine lv_aload_n hx hb dX2_carry_17 rfl (lv_at hl 3 rfl) ?_
    refine lv_aload_n hx hb dX2_carry_18 rfl (lv_at hl 2 rfl) ?_
    refine va_get hx hb hts hinX2 hown hK hP 2 rfl rfl 6 (by decide) (hk3) (fun _ h9 => h9) rfl dX2_carry_19 ?_
    refine lv_iload_n hx hb dX2_carry_22 rfl (lv_at hl 1 rfl) ?_
    refine zald hx hb hK hP 16 0 rfl rfl (i := i) (by omega) (by decide) dX2_carry_23 ?_
    have b_4 : cn (g 16 i) < 288 := (h15 _ (by omega)).2.2
    refine zeq (show g_1 16 i = nI (cn (g 16 i)) from (by rw [eg_1]; exact (h15 _ (by omega)).2.1)) ?_
    refine zald hx hb hK hP 21 0 rfl rfl (i := cn (g 16 i)) (by omega) (by decide) dX2_carry_24 ?_
    refine lv_aload_n hx hb dX2_carry_25 rfl (lv_at hl 2 rfl) ?_
    refine va_get hx hb hts hinX2 hown hK hP 2 rfl rfl 7 (by decide) (hk4) (fun _ h9 => h9) rfl dX2_carry_26 ?_
    refine lv_iload_n hx hb dX2_carry_29 rfl (lv_at hl 1 rfl) ?_
    refine zald hx hb hK hP 17 0 rfl rfl (i := i) (by omega) (by decide) dX2_carry_30 ?_
    refine lv_imul hx hb dX2_carry_31 ?_
    refine lv_bipush (v := nI 100) hx hb dX2_carry_32 (by decide) ?_
    refine lv_idiv hx hb dX2_carry_34 (by decide) ?_
    refine lv_istore (lv' := [(4, .int (((g_1 21 (cn (g 16 i))) * (g_1 17 i)) / (nI 100))), (3, .int (nI (cn (g 15 i)))), (2, .int (nI i)), (0, .ref (ad 2)), (1, .ref (ad 21))]) hx hb dX2_carry_35 hl (by decide) rfl (fun ls hl => ?_)
    refine lv_aload_n hx hb dX2_carry_37 rfl (lv_at hl 4 rfl) ?_
    refine lv_iload_n hx hb dX2_carry_38 rfl (lv_at hl 1 rfl) ?_
    refine lv_aload_n hx hb dX2_carry_39 rfl (lv_at hl 4 rfl) ?_
    refine lv_iload_n hx hb dX2_carry_40 rfl (lv_at hl 1 rfl) ?_
    refine zald hx hb hK hP 21 0 rfl rfl (i := cn (g 15 i)) (by omega) (by decide) dX2_carry_41 ?_
    refine lv_iload hx hb dX2_carry_42 (lv_at hl 0 rfl) ?_
    refine va_mmax hx hb (hml.trans hl.1.symm) hown (hts (.methodLink RX2 55 Lib.Math.max.name) (by decide +kernel)) (hts (.static Lib.Math.max.name) (by decide +kernel)) (hts (.initialized "java/lang/Math") (by decide +kernel)) (hts (.code Lib.Math.max.name Lib.Math.max.code 2 (some .int)) (by decide +kernel)) (Nat.le_of_ble_eq_true rfl) (Nat.le_of_ble_eq_true rfl) (Nat.le_of_ble_eq_true rfl) (Nat.le_of_ble_eq_true rfl) dX2_carry_44 ?_
    refine zeq (zmax_def (g_1 21 (cn (g 15 i))) (((g_1 21 (cn (g 16 i))) * (g_1 17 i)) / (nI 100))).symm ?_
    refine zast hx hb hK hP (zD hij) hS 21 0 rfl rfl (i := cn (g 15 i)) (by omega) (by decide) dX2_carry_47 (fun H locs hP hS => ?_)
    obtain ⟨g_5, eg_5⟩ : ∃ z : Nat → Nat → Int32, z = va_up g_1 21 (upd (g_1 21) (cn (g 15 i)) (zmax (g_1 21 (cn (g 15 i))) (((g_1 21 (cn (g 16 i))) * (g_1 17 i)) / (nI 100)))) := ⟨_, rfl⟩
    have hP : va_P D vwCl (zC ty g_5 ad) H := by rw [eg_5]; exact hP
    refine lv_iinc (v := nI (i + 1)) (lv' := [(2, .int (nI (i + 1))), (4, .int (((g_1 21 (cn (g 16 i))) * (g_1 17 i)) / (nI 100))), (3, .int (nI (cn (g 15 i)))), (0, .ref (ad 2)), (1, .ref (ad 21))]) hx hb dX2_carry_48 hl (k := 2) rfl (nI_add i 1) (by decide) rfl (fun ls hl => ?_)
    refine lv_goto (tgt := 2) hx hb dX2_carry_51 (by decide) ?_
    refine ih_i () ls _ _ _ _ (by omega) ⟨rfl, rfl, ?_, ?_, hS⟩
    · show lv_has ls 5 [(2, .int (nI (i + 1))), (0, .ref (ad 2)), (1, .ref (ad 21))]
      exact lv_sub hl [0, 3, 4] rfl
    · have e9 : g_5 = va_up g 21 (carN g (g 21) ((i + 1))) := by rw [eg_5, eg_1]; exact vu_2 _ _ _ _
      rw [← e9]; exact hP
set_option maxHeartbeats 4000000 in
set_option maxRecDepth 100000 in
theorem c_X2_carry_22 (l : Launch) (D : va_G) (ty : Nat → ClassId) (g : Nat → Nat → Int32) (ad : Nat → Nat) (sz : Nat) (hij : zIj ad) (nL : Nat) (hnL : g 2 1 = nI nL) (hnLb : nL ≤ 120) (h15 : ∀ j, j < nL → nb (g 15 j) 288 ∧ nb (g 16 j) 288) : Met l yX2_carry wsX2_carry ({ frames := 1, cells := 0, slots := 0, locals := 19 }) (va_Pc [.ref (ad 2), .ref (ad 22)] (fun U => zI D ty g ad U ∧ U.heap.size = sz)) (va_Qv (fun g2 : Nat → Nat → Int32 => g2 = va_up g 22 (carN g (g 22) nL)) (fun g2 t => zI D ty g2 ad t) (AC ad sz)) 0 0 (AC ad sz) := by
  refine zMet (cc := cX2_carry) (maxL := 5) (ret := none) (by decide) rfl (Nat.le_of_ble_eq_true rfl) ?_
  intro p e s m below meth c hx hb hr hts hown hlocks hml hB ls hl
  obtain ⟨⟨hP, hK, hN⟩, hsz⟩ := hB
  subst hsz
  have hS : va_S (AC ad s.heap.size) s.heap s.heap [] := va_S.rf
  have hA9 : ∀ q : Nat, s.heap.size ≤ q → AC ad s.heap.size q := fun q h => Or.inr h
  have hl : lv_has ls 5 [(0, .ref (ad 2)), (1, .ref (ad 22))] := hl
  have hk0 := hts (.fieldLink RX2 25 "DatamarketDesk$Lineage" "linkCount" "I") (by decide +kernel)
  have hinX2 : ∀ w ∈ wsX20, w ∈ wsX2_carry := by decide +kernel
  have hk2 := hts (.fieldLink RX2 28 "DatamarketDesk$Lineage" "linkChildren" "[I") (by decide +kernel)
  have hk3 := hts (.fieldLink RX2 31 "DatamarketDesk$Lineage" "linkParents" "[I") (by decide +kernel)
  have hk4 := hts (.fieldLink RX2 34 "DatamarketDesk$Lineage" "linkShares" "[I") (by decide +kernel)
  refine lv_iconst (v := nI 0) hx hb dX2_carry_0 (by decide) ?_
  refine lv_istore_n (lv' := [(2, .int (nI 0)), (0, .ref (ad 2)), (1, .ref (ad 22))]) hx hb dX2_carry_1 rfl hl (by decide) rfl (fun ls hl => ?_)
  refine zloop (τ := Unit) (fun i _ ls H locs cells slots => cells = 0 ∧ slots = 0 ∧ lv_has ls 5 [(2, .int (nI i)), (0, .ref (ad 2)), (1, .ref (ad 22))] ∧ va_P D vwCl (zC ty (va_up g 22 (carN g (g 22) i)) ad) H ∧ va_S (AC ad s.heap.size) s.heap H locs) nL ?_ 0 () ls _ _ _ _ (Nat.zero_le _) (⟨rfl, rfl, lv_sub hl [0, 1, 2] rfl, (by rw [show carN g (g 22) 0 = g 22 from rfl, vu_self]; exact hP), hS⟩)
  intro i _ ls H locs cells slots hi_i hinv ih_i
  obtain ⟨rfl, rfl, hl, hP, hS⟩ := hinv
  obtain ⟨g_1, eg_1⟩ : ∃ z : Nat → Nat → Int32, z = va_up g 22 (carN g (g 22) i) := ⟨_, rfl⟩
  rw [← eg_1] at hP
  have hl : lv_has ls 5 [(2, .int (nI i)), (0, .ref (ad 2)), (1, .ref (ad 22))] := hl
  refine lv_iload_n hx hb dX2_carry_2 rfl (lv_at hl 0 rfl) ?_
  refine lv_aload_n hx hb dX2_carry_3 rfl (lv_at hl 1 rfl) ?_
  refine va_get hx hb hts hinX2 hown hK hP 2 rfl rfl 4 (by decide) (hk0) (fun _ h9 => h9) rfl dX2_carry_4 ?_
  refine zeq (show g_1 2 1 = nI nL from (by rw [eg_1]; exact hnL)) ?_
  refine lv_icmp_ge (tgt := 54) hx hb dX2_carry_7 (by decide) (fun c_2 => ?_) (fun c_2 => ?_)
  · have c_2 := zn_geT (a := i) (b := nL) (by omega) (by omega) c_2
    obtain rfl : i = nL := by omega
    exact W.vret hx hb hr (fun t ht hW => ⟨⟨g_1, rfl, by rw [eg_1], ⟨by rw [ht]; exact hP, va_K.moved hW.alike hK, hN.warm hW⟩⟩, hS.F ht⟩) hS.2.2 dX2_carry_54
  · have c_2 := zn_geF (a := i) (b := nL) (by omega) (by omega) c_2
    refine lv_aload_n hx hb dX2_carry_10 rfl (lv_at hl 1 rfl) ?_
    refine va_get hx hb hts hinX2 hown hK hP 2 rfl rfl 5 (by decide) (hk2) (fun _ h9 => h9) rfl dX2_carry_11 ?_
    refine lv_iload_n hx hb dX2_carry_14 rfl (lv_at hl 0 rfl) ?_
    refine zald hx hb hK hP 15 0 rfl rfl (i := i) (by omega) (by decide) dX2_carry_15 ?_
    have b_3 : cn (g 15 i) < 288 := (h15 _ (by omega)).1.2
    refine zeq (show g_1 15 i = nI (cn (g 15 i)) from (by rw [eg_1]; exact (h15 _ (by omega)).1.1)) ?_
    refine lv_istore_n (lv' := [(3, .int (nI (cn (g 15 i)))), (2, .int (nI i)), (0, .ref (ad 2)), (1, .ref (ad 22))]) hx hb dX2_carry_16 rfl hl (by decide) rfl (fun ls hl => ?_)
    refine lv_aload_n hx hb dX2_carry_17 rfl (lv_at hl 3 rfl) ?_
    refine lv_aload_n hx hb dX2_carry_18 rfl (lv_at hl 2 rfl) ?_
    refine va_get hx hb hts hinX2 hown hK hP 2 rfl rfl 6 (by decide) (hk3) (fun _ h9 => h9) rfl dX2_carry_19 ?_
    refine lv_iload_n hx hb dX2_carry_22 rfl (lv_at hl 1 rfl) ?_
    refine zald hx hb hK hP 16 0 rfl rfl (i := i) (by omega) (by decide) dX2_carry_23 ?_
    have b_4 : cn (g 16 i) < 288 := (h15 _ (by omega)).2.2
    refine zeq (show g_1 16 i = nI (cn (g 16 i)) from (by rw [eg_1]; exact (h15 _ (by omega)).2.1)) ?_
    refine zald hx hb hK hP 22 0 rfl rfl (i := cn (g 16 i)) (by omega) (by decide) dX2_carry_24 ?_
    refine lv_aload_n hx hb dX2_carry_25 rfl (lv_at hl 2 rfl) ?_
    refine va_get hx hb hts hinX2 hown hK hP 2 rfl rfl 7 (by decide) (hk4) (fun _ h9 => h9) rfl dX2_carry_26 ?_
    refine lv_iload_n hx hb dX2_carry_29 rfl (lv_at hl 1 rfl) ?_
    refine zald hx hb hK hP 17 0 rfl rfl (i := i) (by omega) (by decide) dX2_carry_30 ?_
    refine lv_imul hx hb dX2_carry_31 ?_
    refine lv_bipush (v := nI 100) hx hb dX2_carry_32 (by decide) ?_
    refine lv_idiv hx hb dX2_carry_34 (by decide) ?_
    refine lv_istore (lv' := [(4, .int (((g_1 22 (cn (g 16 i))) * (g_1 17 i)) / (nI 100))), (3, .int (nI (cn (g 15 i)))), (2, .int (nI i)), (0, .ref (ad 2)), (1, .ref (ad 22))]) hx hb dX2_carry_35 hl (by decide) rfl (fun ls hl => ?_)
    refine lv_aload_n hx hb dX2_carry_37 rfl (lv_at hl 4 rfl) ?_
    refine lv_iload_n hx hb dX2_carry_38 rfl (lv_at hl 1 rfl) ?_
    refine lv_aload_n hx hb dX2_carry_39 rfl (lv_at hl 4 rfl) ?_
    refine lv_iload_n hx hb dX2_carry_40 rfl (lv_at hl 1 rfl) ?_
    refine zald hx hb hK hP 22 0 rfl rfl (i := cn (g 15 i)) (by omega) (by decide) dX2_carry_41 ?_
    refine lv_iload hx hb dX2_carry_42 (lv_at hl 0 rfl) ?_
    refine va_mmax hx hb (hml.trans hl.1.symm) hown (hts (.methodLink RX2 55 Lib.Math.max.name) (by decide +kernel)) (hts (.static Lib.Math.max.name) (by decide +kernel)) (hts (.initialized "java/lang/Math") (by decide +kernel)) (hts (.code Lib.Math.max.name Lib.Math.max.code 2 (some .int)) (by decide +kernel)) (Nat.le_of_ble_eq_true rfl) (Nat.le_of_ble_eq_true rfl) (Nat.le_of_ble_eq_true rfl) (Nat.le_of_ble_eq_true rfl) dX2_carry_44 ?_
    refine zeq (zmax_def (g_1 22 (cn (g 15 i))) (((g_1 22 (cn (g 16 i))) * (g_1 17 i)) / (nI 100))).symm ?_
    refine zast hx hb hK hP (zD hij) hS 22 0 rfl rfl (i := cn (g 15 i)) (by omega) (by decide) dX2_carry_47 (fun H locs hP hS => ?_)
    obtain ⟨g_5, eg_5⟩ : ∃ z : Nat → Nat → Int32, z = va_up g_1 22 (upd (g_1 22) (cn (g 15 i)) (zmax (g_1 22 (cn (g 15 i))) (((g_1 22 (cn (g 16 i))) * (g_1 17 i)) / (nI 100)))) := ⟨_, rfl⟩
    have hP : va_P D vwCl (zC ty g_5 ad) H := by rw [eg_5]; exact hP
    refine lv_iinc (v := nI (i + 1)) (lv' := [(2, .int (nI (i + 1))), (4, .int (((g_1 22 (cn (g 16 i))) * (g_1 17 i)) / (nI 100))), (3, .int (nI (cn (g 15 i)))), (0, .ref (ad 2)), (1, .ref (ad 22))]) hx hb dX2_carry_48 hl (k := 2) rfl (nI_add i 1) (by decide) rfl (fun ls hl => ?_)
    refine lv_goto (tgt := 2) hx hb dX2_carry_51 (by decide) ?_
    refine ih_i () ls _ _ _ _ (by omega) ⟨rfl, rfl, ?_, ?_, hS⟩
    · show lv_has ls 5 [(2, .int (nI (i + 1))), (0, .ref (ad 2)), (1, .ref (ad 22))]
      exact lv_sub hl [0, 3, 4] rfl
    · have e9 : g_5 = va_up g 22 (carN g (g 22) ((i + 1))) := by rw [eg_5, eg_1]; exact vu_2 _ _ _ _
      rw [← e9]; exact hP
set_option maxHeartbeats 4000000 in
set_option maxRecDepth 100000 in
theorem c_X1_settle (l : Launch) (D : va_G) (ty : Nat → ClassId) (g : Nat → Nat → Int32) (ad : Nat → Nat) (sz : Nat) (hij : zIj ad) (nL : Nat) (hnL : g 2 1 = nI nL) (hnLb : nL ≤ 120) (h15 : ∀ j, j < nL → nb (g 15 j) 288 ∧ nb (g 16 j) 288) : Met l yX1_settle wsX1_settle ({ frames := 2, cells := 0, slots := 0, locals := 43 }) (va_Pc [.ref (ad 3), .ref (ad 2)] (fun U => zI D ty g ad U ∧ U.heap.size = sz)) (va_Qv (fun g2 : Nat → Nat → Int32 => g2 = va_up g 21 (setlN g nL)) (fun g2 t => zI D ty g2 ad t) (AC ad sz)) 0 0 (AC ad sz) := by
  refine zMet (cc := cX1_settle) (maxL := 2) (ret := none) (by decide) rfl (Nat.le_of_ble_eq_true rfl) ?_
  intro p e s m below meth c hx hb hr hts hown hlocks hml hB ls hl
  obtain ⟨⟨hP, hK, hN⟩, hsz⟩ := hB
  subst hsz
  have hS : va_S (AC ad s.heap.size) s.heap s.heap [] := va_S.rf
  have hA9 : ∀ q : Nat, s.heap.size ≤ q → AC ad s.heap.size q := fun q h => Or.inr h
  have hl : lv_has ls 2 [(0, .ref (ad 3)), (1, .ref (ad 2))] := hl
  have hk0 := hts (.fieldLink RX1 19 "DatamarketDesk$Harms" "now" "[I") (by decide +kernel)
  have hinX1 : ∀ w ∈ wsX10, w ∈ wsX1_settle := by decide +kernel
  refine lv_aload_n hx hb dX1_settle_0 rfl (lv_at hl 0 rfl) ?_
  refine lv_aload_n hx hb dX1_settle_1 rfl (lv_at hl 0 rfl) ?_
  refine va_get hx hb hts hinX1 hown hK hP 3 rfl rfl 2 (by decide) (hk0) (fun _ h9 => h9) rfl dX1_settle_2 ?_
  have hFc : ∀ q, AC ad s.heap.size q → AC ad s.heap.size q := fun q h => h
  refine va_callv (va_runV (As := [.ref (ad 21)]) (rest := []) ⟨hx, hb, hml, hown, hts⟩ (c_X1_copyOwn_21 l D ty g ad s.heap.size hij ) (cwV 1 hts gX1_settle_X1_copyOwn rfl rfl rfl (by decide +kernel) ⟨Nat.le_of_ble_eq_true rfl, Nat.le_of_ble_eq_true rfl⟩) ⟨zBl (zW_blind), va_recv hK hP (ci := 1) (q0 := 3) rfl rfl, fun U h1 h2 => ⟨rfl, zI_pre hP hK hN U h1 h2, by rw [h1]⟩⟩ rfl rfl hl.1 rfl (lv_room (Nat.le_of_ble_eq_true rfl)) dX1_settle_5 ⟨Nat.le_of_ble_eq_true rfl, Nat.le_of_ble_eq_true rfl⟩) hS (fun q _ h => hFc q h) hFc (fun g_1 t H locs ht hvm hw hB _ _ hS => ?_)
  have eg_1 := hw
  have hP : va_P D vwCl (zC ty g_1 ad) H := by rw [← ht]; exact hB.1
  refine lv_aload_n hx hb dX1_settle_8 rfl (lv_at hl 1 rfl) ?_
  refine lv_aload_n hx hb dX1_settle_9 rfl (lv_at hl 0 rfl) ?_
  refine va_get hx hb hts hinX1 hown hK hP 3 rfl rfl 2 (by decide) (hk0) (fun _ h9 => h9) rfl dX1_settle_10 ?_
  have hFc : ∀ q, AC ad H.size q → AC ad s.heap.size q := fun q h => h.elim Or.inl (fun z => Or.inr (Nat.le_trans hS.1 z))
  refine va_callv (va_runV (As := [.ref (ad 21)]) (rest := []) ⟨hx, hb, hml, hown, hts⟩ (c_X2_carry_21 l D ty g_1 ad H.size hij nL (by rw [eg_1]; exact hnL) hnLb (by rw [eg_1]; exact h15)) (cwV 1 hts gX1_settle_X2_carry rfl rfl rfl (by decide +kernel) ⟨Nat.le_of_ble_eq_true rfl, Nat.le_of_ble_eq_true rfl⟩) ⟨zBl (zW_blind), va_recv hK hP (ci := 2) (q0 := 2) rfl rfl, fun U h1 h2 => ⟨rfl, zI_pre hP hK hN U h1 h2, by rw [h1]⟩⟩ rfl rfl hl.1 rfl (lv_room (Nat.le_of_ble_eq_true rfl)) dX1_settle_13 ⟨Nat.le_of_ble_eq_true rfl, Nat.le_of_ble_eq_true rfl⟩) hS (fun q _ h => hFc q h) hFc (fun g_3 t H locs ht hvm hw hB _ _ hS => ?_)
  have eg_3 := hw
  have hP : va_P D vwCl (zC ty g_3 ad) H := by rw [← ht]; exact hB.1
  exact W.vret hx hb hr (fun t ht hW => ⟨⟨g_3, rfl, by rw [eg_3, eg_1, carN_vu (by decide) (by decide) (by decide)]; exact vu_2 _ _ _ _, ⟨by rw [ht]; exact hP, va_K.moved hW.alike hK, hN.warm hW⟩⟩, hS.F ht⟩) hS.2.2 dX1_settle_16
set_option maxHeartbeats 4000000 in
set_option maxRecDepth 100000 in
theorem c_X1_raise (l : Launch) (D : va_G) (ty : Nat → ClassId) (g : Nat → Nat → Int32) (ad : Nat → Nat) (sz : Nat) (hij : zIj ad) (p0 : Nat) (hp0 : p0 < 288) (x : Int32) : Met l yX1_raise wsX1_raise ({ frames := 1, cells := 0, slots := 0, locals := 19 }) (va_Pc [.ref (ad 3), .int (nI p0), .int x] (fun U => zI D ty g ad U ∧ U.heap.size = sz)) (va_Qv (fun g2 : Nat → Nat → Int32 => g2 = va_up g 19 (upd (g 19) p0 (zmax (g 19 p0) x))) (fun g2 t => zI D ty g2 ad t) (AC ad sz)) 0 0 (AC ad sz) := by
  refine zMet (cc := cX1_raise) (maxL := 3) (ret := none) (by decide) rfl (Nat.le_of_ble_eq_true rfl) ?_
  intro p e s m below meth c hx hb hr hts hown hlocks hml hB ls hl
  obtain ⟨⟨hP, hK, hN⟩, hsz⟩ := hB
  subst hsz
  have hS : va_S (AC ad s.heap.size) s.heap s.heap [] := va_S.rf
  have hA9 : ∀ q : Nat, s.heap.size ≤ q → AC ad s.heap.size q := fun q h => Or.inr h
  have hl : lv_has ls 3 [(0, .ref (ad 3)), (1, .int (nI p0)), (2, .int x)] := hl
  have hk0 := hts (.fieldLink RX1 9 "DatamarketDesk$Harms" "own" "[I") (by decide +kernel)
  have hinX1 : ∀ w ∈ wsX10, w ∈ wsX1_raise := by decide +kernel
  refine lv_aload_n hx hb dX1_raise_0 rfl (lv_at hl 0 rfl) ?_
  refine va_get hx hb hts hinX1 hown hK hP 3 rfl rfl 0 (by decide) (hk0) (fun _ h9 => h9) rfl dX1_raise_1 ?_
  refine lv_iload_n hx hb dX1_raise_4 rfl (lv_at hl 1 rfl) ?_
  refine lv_aload_n hx hb dX1_raise_5 rfl (lv_at hl 0 rfl) ?_
  refine va_get hx hb hts hinX1 hown hK hP 3 rfl rfl 0 (by decide) (hk0) (fun _ h9 => h9) rfl dX1_raise_6 ?_
  refine lv_iload_n hx hb dX1_raise_9 rfl (lv_at hl 1 rfl) ?_
  refine zald hx hb hK hP 19 0 rfl rfl (i := p0) (by omega) (by decide) dX1_raise_10 ?_
  refine lv_iload_n hx hb dX1_raise_11 rfl (lv_at hl 2 rfl) ?_
  refine va_mmax hx hb (hml.trans hl.1.symm) hown (hts (.methodLink RX1 25 Lib.Math.max.name) (by decide +kernel)) (hts (.static Lib.Math.max.name) (by decide +kernel)) (hts (.initialized "java/lang/Math") (by decide +kernel)) (hts (.code Lib.Math.max.name Lib.Math.max.code 2 (some .int)) (by decide +kernel)) (Nat.le_of_ble_eq_true rfl) (Nat.le_of_ble_eq_true rfl) (Nat.le_of_ble_eq_true rfl) (Nat.le_of_ble_eq_true rfl) dX1_raise_12 ?_
  refine zeq (zmax_def (g 19 p0) x).symm ?_
  refine zast hx hb hK hP (zD hij) hS 19 0 rfl rfl (i := p0) (by omega) (by decide) dX1_raise_15 (fun H locs hP hS => ?_)
  obtain ⟨g_1, eg_1⟩ : ∃ z : Nat → Nat → Int32, z = va_up g 19 (upd (g 19) p0 (zmax (g 19 p0) x)) := ⟨_, rfl⟩
  have hP : va_P D vwCl (zC ty g_1 ad) H := by rw [eg_1]; exact hP
  exact W.vret hx hb hr (fun t ht hW => ⟨⟨g_1, rfl, by rw [eg_1], ⟨by rw [ht]; exact hP, va_K.moved hW.alike hK, hN.warm hW⟩⟩, hS.F ht⟩) hS.2.2 dX1_raise_16
set_option maxHeartbeats 4000000 in
set_option maxRecDepth 100000 in
theorem c_X2_addSource (l : Launch) (D : va_G) (ty : Nat → ClassId) (g : Nat → Nat → Int32) (ad : Nat → Nat) (sz : Nat) (hij : zIj ad) (n2 : Nat) (hn2 : g 2 0 = nI n2) (hn2b : n2 < 20) (a0 b0 : Nat) (x : Int32) : Met l yX2_addSource wsX2_addSource ({ frames := 0, cells := 0, slots := 0, locals := 0 }) (va_Pc [.ref (ad 2), .int (nI a0), .int (nI b0), .int x] (fun U => zI D ty g ad U ∧ U.heap.size = sz)) (va_Qv (fun g2 : Nat → Nat → Int32 => g2 = va_up (va_up (va_up (va_up g 12 (upd (g 12) n2 (nI a0))) 13 (upd (g 13) n2 (nI b0))) 14 (upd (g 14) n2 x)) 2 (upd (g 2) 0 (nI (n2 + 1)))) (fun g2 t => zI D ty g2 ad t) (AC ad sz)) 0 0 (AC ad sz) := by
  refine zMet (cc := cX2_addSource) (maxL := 4) (ret := none) (by decide) rfl (Nat.le_of_ble_eq_true rfl) ?_
  intro p e s m below meth c hx hb hr hts hown hlocks hml hB ls hl
  obtain ⟨⟨hP, hK, hN⟩, hsz⟩ := hB
  subst hsz
  have hS : va_S (AC ad s.heap.size) s.heap s.heap [] := va_S.rf
  have hA9 : ∀ q : Nat, s.heap.size ≤ q → AC ad s.heap.size q := fun q h => Or.inr h
  have hl : lv_has ls 4 [(0, .ref (ad 2)), (1, .int (nI a0)), (2, .int (nI b0)), (3, .int x)] := hl
  have hk0 := hts (.fieldLink RX2 15 "DatamarketDesk$Lineage" "sourceChildren" "[I") (by decide +kernel)
  have hinX2 : ∀ w ∈ wsX20, w ∈ wsX2_addSource := by decide +kernel
  have hk2 := hts (.fieldLink RX2 9 "DatamarketDesk$Lineage" "sourceCount" "I") (by decide +kernel)
  have hk3 := hts (.fieldLink RX2 19 "DatamarketDesk$Lineage" "sourceParents" "[I") (by decide +kernel)
  have hk4 := hts (.fieldLink RX2 22 "DatamarketDesk$Lineage" "sourceShares" "[I") (by decide +kernel)
  refine lv_aload_n hx hb dX2_addSource_0 rfl (lv_at hl 0 rfl) ?_
  refine va_get hx hb hts hinX2 hown hK hP 2 rfl rfl 1 (by decide) (hk0) (fun _ h9 => h9) rfl dX2_addSource_1 ?_
  refine lv_aload_n hx hb dX2_addSource_4 rfl (lv_at hl 0 rfl) ?_
  refine va_get hx hb hts hinX2 hown hK hP 2 rfl rfl 0 (by decide) (hk2) (fun _ h9 => h9) rfl dX2_addSource_5 ?_
  refine zeq (show g 2 0 = nI n2 from hn2) ?_
  refine lv_iload_n hx hb dX2_addSource_8 rfl (lv_at hl 1 rfl) ?_
  refine zast hx hb hK hP (zD hij) hS 12 0 rfl rfl (i := n2) (by omega) (by decide) dX2_addSource_9 (fun H locs hP hS => ?_)
  obtain ⟨g_1, eg_1⟩ : ∃ z : Nat → Nat → Int32, z = va_up g 12 (upd (g 12) n2 (nI a0)) := ⟨_, rfl⟩
  have hP : va_P D vwCl (zC ty g_1 ad) H := by rw [eg_1]; exact hP
  refine lv_aload_n hx hb dX2_addSource_10 rfl (lv_at hl 0 rfl) ?_
  refine va_get hx hb hts hinX2 hown hK hP 2 rfl rfl 2 (by decide) (hk3) (fun _ h9 => h9) rfl dX2_addSource_11 ?_
  refine lv_aload_n hx hb dX2_addSource_14 rfl (lv_at hl 0 rfl) ?_
  refine va_get hx hb hts hinX2 hown hK hP 2 rfl rfl 0 (by decide) (hk2) (fun _ h9 => h9) rfl dX2_addSource_15 ?_
  refine zeq (show g_1 2 0 = nI n2 from (by rw [eg_1]; exact hn2)) ?_
  refine lv_iload_n hx hb dX2_addSource_18 rfl (lv_at hl 2 rfl) ?_
  refine zast hx hb hK hP (zD hij) hS 13 0 rfl rfl (i := n2) (by omega) (by decide) dX2_addSource_19 (fun H locs hP hS => ?_)
  obtain ⟨g_2, eg_2⟩ : ∃ z : Nat → Nat → Int32, z = va_up g_1 13 (upd (g_1 13) n2 (nI b0)) := ⟨_, rfl⟩
  have hP : va_P D vwCl (zC ty g_2 ad) H := by rw [eg_2]; exact hP
  refine lv_aload_n hx hb dX2_addSource_20 rfl (lv_at hl 0 rfl) ?_
  refine va_get hx hb hts hinX2 hown hK hP 2 rfl rfl 3 (by decide) (hk4) (fun _ h9 => h9) rfl dX2_addSource_21 ?_
  refine lv_aload_n hx hb dX2_addSource_24 rfl (lv_at hl 0 rfl) ?_
  refine va_get hx hb hts hinX2 hown hK hP 2 rfl rfl 0 (by decide) (hk2) (fun _ h9 => h9) rfl dX2_addSource_25 ?_
  refine zeq (show g_2 2 0 = nI n2 from (by rw [eg_2, eg_1]; exact hn2)) ?_
  refine lv_iload_n hx hb dX2_addSource_28 rfl (lv_at hl 3 rfl) ?_
  refine zast hx hb hK hP (zD hij) hS 14 0 rfl rfl (i := n2) (by omega) (by decide) dX2_addSource_29 (fun H locs hP hS => ?_)
  obtain ⟨g_3, eg_3⟩ : ∃ z : Nat → Nat → Int32, z = va_up g_2 14 (upd (g_2 14) n2 x) := ⟨_, rfl⟩
  have hP : va_P D vwCl (zC ty g_3 ad) H := by rw [eg_3]; exact hP
  refine lv_aload_n hx hb dX2_addSource_30 rfl (lv_at hl 0 rfl) ?_
  refine lv_dup hx hb dX2_addSource_31 rfl ?_
  refine va_get hx hb hts hinX2 hown hK hP 2 rfl rfl 0 (by decide) (hk2) (fun _ h9 => h9) rfl dX2_addSource_32 ?_
  refine zeq (show g_3 2 0 = nI n2 from (by rw [eg_3, eg_2, eg_1]; exact hn2)) ?_
  refine lv_iconst (v := nI 1) hx hb dX2_addSource_35 (by decide) ?_
  refine lv_iadd hx hb dX2_addSource_36 ?_
  refine zeq (nI_add n2 1) ?_
  refine va_put (ty := .int) hx hb hts hinX2 tyX2 tyX2_ok nmX2 hown hK hP (zD hij) hS 2 rfl rfl 0 (by decide) (hk2) (fun _ h9 => h9) rfl (by decide +kernel) rfl rfl (Nat.le_of_ble_eq_true rfl) dX2_addSource_37 (fun H locs hP _ hS => ?_)
  obtain ⟨g_4, eg_4⟩ : ∃ z : Nat → Nat → Int32, z = va_up g_3 2 (upd (g_3 2) 0 (nI (n2 + 1))) := ⟨_, rfl⟩
  have hP : va_P D vwCl (zC ty g_4 ad) H := by rw [eg_4]; exact hP
  exact W.vret hx hb hr (fun t ht hW => ⟨⟨g_4, rfl, by rw [eg_4, eg_3, eg_2, eg_1]; try rfl, ⟨by rw [ht]; exact hP, va_K.moved hW.alike hK, hN.warm hW⟩⟩, hS.F ht⟩) hS.2.2 dX2_addSource_40
set_option maxHeartbeats 4000000 in
set_option maxRecDepth 100000 in
theorem c_X2_addLink_y (l : Launch) (D : va_G) (ty : Nat → ClassId) (g : Nat → Nat → Int32) (ad : Nat → Nat) (sz : Nat) (hij : zIj ad) (h2 : nb (g 2 1) 121) (h120 : cn (g 2 1) < 120) (a0 b0 : Nat) (x : Int32) : Met l yX2_addLink wsX2_addLink ({ frames := 0, cells := 0, slots := 0, locals := 0 }) (va_Pc [.ref (ad 2), .int (nI a0), .int (nI b0), .int x] (fun U => zI D ty g ad U ∧ U.heap.size = sz)) (va_Qv (fun g2 : Nat → Nat → Int32 => g2 = addLnk g (nI a0) (nI b0) x) (fun g2 t => zI D ty g2 ad t) (AC ad sz)) 0 0 (AC ad sz) := by
  refine zMet (cc := cX2_addLink) (maxL := 4) (ret := none) (by decide) rfl (Nat.le_of_ble_eq_true rfl) ?_
  intro p e s m below meth c hx hb hr hts hown hlocks hml hB ls hl
  obtain ⟨⟨hP, hK, hN⟩, hsz⟩ := hB
  subst hsz
  have hS : va_S (AC ad s.heap.size) s.heap s.heap [] := va_S.rf
  have hA9 : ∀ q : Nat, s.heap.size ≤ q → AC ad s.heap.size q := fun q h => Or.inr h
  have hl : lv_has ls 4 [(0, .ref (ad 2)), (1, .int (nI a0)), (2, .int (nI b0)), (3, .int x)] := hl
  have hk0 := hts (.fieldLink RX2 25 "DatamarketDesk$Lineage" "linkCount" "I") (by decide +kernel)
  have hinX2 : ∀ w ∈ wsX20, w ∈ wsX2_addLink := by decide +kernel
  have hk2 := hts (.fieldLink RX2 28 "DatamarketDesk$Lineage" "linkChildren" "[I") (by decide +kernel)
  have hk3 := hts (.fieldLink RX2 31 "DatamarketDesk$Lineage" "linkParents" "[I") (by decide +kernel)
  have hk4 := hts (.fieldLink RX2 34 "DatamarketDesk$Lineage" "linkShares" "[I") (by decide +kernel)
  refine lv_aload_n hx hb dX2_addLink_0 rfl (lv_at hl 0 rfl) ?_
  refine va_get hx hb hts hinX2 hown hK hP 2 rfl rfl 4 (by decide) (hk0) (fun _ h9 => h9) rfl dX2_addLink_1 ?_
  refine zeq (show g 2 1 = nI (cn (g 2 1)) from h2.1) ?_
  refine lv_bipush (v := nI 120) hx hb dX2_addLink_4 (by decide) ?_
  refine lv_icmp_ge (tgt := 49) hx hb dX2_addLink_6 (by decide) (fun c_1 => ?_) (fun c_1 => ?_)
  · have c_1 := zn_geT (a := (cn (g 2 1))) (b := 120) (by omega) (by omega) c_1
    omega
  · have c_1 := zn_geF (a := (cn (g 2 1))) (b := 120) (by omega) (by omega) c_1
    refine lv_aload_n hx hb dX2_addLink_9 rfl (lv_at hl 0 rfl) ?_
    refine va_get hx hb hts hinX2 hown hK hP 2 rfl rfl 5 (by decide) (hk2) (fun _ h9 => h9) rfl dX2_addLink_10 ?_
    refine lv_aload_n hx hb dX2_addLink_13 rfl (lv_at hl 0 rfl) ?_
    refine va_get hx hb hts hinX2 hown hK hP 2 rfl rfl 4 (by decide) (hk0) (fun _ h9 => h9) rfl dX2_addLink_14 ?_
    refine zeq (show g 2 1 = nI (cn (g 2 1)) from h2.1) ?_
    refine lv_iload_n hx hb dX2_addLink_17 rfl (lv_at hl 1 rfl) ?_
    refine zast hx hb hK hP (zD hij) hS 15 0 rfl rfl (i := cn (g 2 1)) (by omega) (by decide) dX2_addLink_18 (fun H locs hP hS => ?_)
    obtain ⟨g_2, eg_2⟩ : ∃ z : Nat → Nat → Int32, z = va_up g 15 (upd (g 15) (cn (g 2 1)) (nI a0)) := ⟨_, rfl⟩
    have hP : va_P D vwCl (zC ty g_2 ad) H := by rw [eg_2]; exact hP
    refine lv_aload_n hx hb dX2_addLink_19 rfl (lv_at hl 0 rfl) ?_
    refine va_get hx hb hts hinX2 hown hK hP 2 rfl rfl 6 (by decide) (hk3) (fun _ h9 => h9) rfl dX2_addLink_20 ?_
    refine lv_aload_n hx hb dX2_addLink_23 rfl (lv_at hl 0 rfl) ?_
    refine va_get hx hb hts hinX2 hown hK hP 2 rfl rfl 4 (by decide) (hk0) (fun _ h9 => h9) rfl dX2_addLink_24 ?_
    refine zeq (show g_2 2 1 = nI (cn (g 2 1)) from (by rw [eg_2]; exact h2.1)) ?_
    refine lv_iload_n hx hb dX2_addLink_27 rfl (lv_at hl 2 rfl) ?_
    refine zast hx hb hK hP (zD hij) hS 16 0 rfl rfl (i := cn (g 2 1)) (by omega) (by decide) dX2_addLink_28 (fun H locs hP hS => ?_)
    obtain ⟨g_3, eg_3⟩ : ∃ z : Nat → Nat → Int32, z = va_up g_2 16 (upd (g_2 16) (cn (g 2 1)) (nI b0)) := ⟨_, rfl⟩
    have hP : va_P D vwCl (zC ty g_3 ad) H := by rw [eg_3]; exact hP
    refine lv_aload_n hx hb dX2_addLink_29 rfl (lv_at hl 0 rfl) ?_
    refine va_get hx hb hts hinX2 hown hK hP 2 rfl rfl 7 (by decide) (hk4) (fun _ h9 => h9) rfl dX2_addLink_30 ?_
    refine lv_aload_n hx hb dX2_addLink_33 rfl (lv_at hl 0 rfl) ?_
    refine va_get hx hb hts hinX2 hown hK hP 2 rfl rfl 4 (by decide) (hk0) (fun _ h9 => h9) rfl dX2_addLink_34 ?_
    refine zeq (show g_3 2 1 = nI (cn (g 2 1)) from (by rw [eg_3, eg_2]; exact h2.1)) ?_
    refine lv_iload_n hx hb dX2_addLink_37 rfl (lv_at hl 3 rfl) ?_
    refine zast hx hb hK hP (zD hij) hS 17 0 rfl rfl (i := cn (g 2 1)) (by omega) (by decide) dX2_addLink_38 (fun H locs hP hS => ?_)
    obtain ⟨g_4, eg_4⟩ : ∃ z : Nat → Nat → Int32, z = va_up g_3 17 (upd (g_3 17) (cn (g 2 1)) x) := ⟨_, rfl⟩
    have hP : va_P D vwCl (zC ty g_4 ad) H := by rw [eg_4]; exact hP
    refine lv_aload_n hx hb dX2_addLink_39 rfl (lv_at hl 0 rfl) ?_
    refine lv_dup hx hb dX2_addLink_40 rfl ?_
    refine va_get hx hb hts hinX2 hown hK hP 2 rfl rfl 4 (by decide) (hk0) (fun _ h9 => h9) rfl dX2_addLink_41 ?_
    refine zeq (show g_4 2 1 = nI (cn (g 2 1)) from (by rw [eg_4, eg_3, eg_2]; exact h2.1)) ?_
    refine lv_iconst (v := nI 1) hx hb dX2_addLink_44 (by decide) ?_
    refine lv_iadd hx hb dX2_addLink_45 ?_
    refine zeq (nI_add (cn (g 2 1)) 1) ?_
    refine va_put (ty := .int) hx hb hts hinX2 tyX2 tyX2_ok nmX2 hown hK hP (zD hij) hS 2 rfl rfl 4 (by decide) (hk0) (fun _ h9 => h9) rfl (by decide +kernel) rfl rfl (Nat.le_of_ble_eq_true rfl) dX2_addLink_46 (fun H locs hP _ hS => ?_)
    obtain ⟨g_5, eg_5⟩ : ∃ z : Nat → Nat → Int32, z = va_up g_4 2 (upd (g_4 2) 1 (nI ((cn (g 2 1)) + 1))) := ⟨_, rfl⟩
    have hP : va_P D vwCl (zC ty g_5 ad) H := by rw [eg_5]; exact hP
    exact W.vret hx hb hr (fun t ht hW => ⟨⟨g_5, rfl, by rw [eg_5, eg_4, eg_3, eg_2]; unfold addLnk; rw [if_pos h120]; rfl, ⟨by rw [ht]; exact hP, va_K.moved hW.alike hK, hN.warm hW⟩⟩, hS.F ht⟩) hS.2.2 dX2_addLink_49
set_option maxHeartbeats 4000000 in
set_option maxRecDepth 100000 in
theorem c_X2_addLink_n (l : Launch) (D : va_G) (ty : Nat → ClassId) (g : Nat → Nat → Int32) (ad : Nat → Nat) (sz : Nat) (hij : zIj ad) (h2 : nb (g 2 1) 121) (h120 : ¬ cn (g 2 1) < 120) (a0 b0 : Nat) (x : Int32) : Met l yX2_addLink wsX2_addLink ({ frames := 0, cells := 0, slots := 0, locals := 0 }) (va_Pc [.ref (ad 2), .int (nI a0), .int (nI b0), .int x] (fun U => zI D ty g ad U ∧ U.heap.size = sz)) (va_Qv (fun g2 : Nat → Nat → Int32 => g2 = addLnk g (nI a0) (nI b0) x) (fun g2 t => zI D ty g2 ad t) (AC ad sz)) 0 0 (AC ad sz) := by
  refine zMet (cc := cX2_addLink) (maxL := 4) (ret := none) (by decide) rfl (Nat.le_of_ble_eq_true rfl) ?_
  intro p e s m below meth c hx hb hr hts hown hlocks hml hB ls hl
  obtain ⟨⟨hP, hK, hN⟩, hsz⟩ := hB
  subst hsz
  have hS : va_S (AC ad s.heap.size) s.heap s.heap [] := va_S.rf
  have hA9 : ∀ q : Nat, s.heap.size ≤ q → AC ad s.heap.size q := fun q h => Or.inr h
  have h2b := h2.2
  have hl : lv_has ls 4 [(0, .ref (ad 2)), (1, .int (nI a0)), (2, .int (nI b0)), (3, .int x)] := hl
  have hk0 := hts (.fieldLink RX2 25 "DatamarketDesk$Lineage" "linkCount" "I") (by decide +kernel)
  have hinX2 : ∀ w ∈ wsX20, w ∈ wsX2_addLink := by decide +kernel
  refine lv_aload_n hx hb dX2_addLink_0 rfl (lv_at hl 0 rfl) ?_
  refine va_get hx hb hts hinX2 hown hK hP 2 rfl rfl 4 (by decide) (hk0) (fun _ h9 => h9) rfl dX2_addLink_1 ?_
  refine zeq (show g 2 1 = nI (cn (g 2 1)) from h2.1) ?_
  refine lv_bipush (v := nI 120) hx hb dX2_addLink_4 (by decide) ?_
  refine lv_icmp_ge (tgt := 49) hx hb dX2_addLink_6 (by decide) (fun c_1 => ?_) (fun c_1 => ?_)
  · have c_1 := zn_geT (a := (cn (g 2 1))) (b := 120) (by omega) (by omega) c_1
    exact W.vret hx hb hr (fun t ht hW => ⟨⟨g, rfl, by unfold addLnk; rw [if_neg h120], ⟨by rw [ht]; exact hP, va_K.moved hW.alike hK, hN.warm hW⟩⟩, hS.F ht⟩) hS.2.2 dX2_addLink_49
  · have c_1 := zn_geF (a := (cn (g 2 1))) (b := 120) (by omega) (by omega) c_1
    omega
theorem c_X2_addLink (l : Launch) (D : va_G) (ty : Nat → ClassId) (g : Nat → Nat → Int32) (ad : Nat → Nat) (sz : Nat) (hij : zIj ad) (h2 : nb (g 2 1) 121) (a0 b0 : Nat) (x : Int32) : Met l yX2_addLink wsX2_addLink ({ frames := 0, cells := 0, slots := 0, locals := 0 }) (va_Pc [.ref (ad 2), .int (nI a0), .int (nI b0), .int x] (fun U => zI D ty g ad U ∧ U.heap.size = sz)) (va_Qv (fun g2 : Nat → Nat → Int32 => g2 = addLnk g (nI a0) (nI b0) x) (fun g2 t => zI D ty g2 ad t) (AC ad sz)) 0 0 (AC ad sz) := by
  by_cases h : cn (g 2 1) < 120
  · exact c_X2_addLink_y l D ty g ad sz hij h2 h a0 b0 x
  · exact c_X2_addLink_n l D ty g ad sz hij h2 h a0 b0 x
set_option maxHeartbeats 4000000 in
set_option maxRecDepth 100000 in
theorem c_X2_linkVersion (l : Launch) (D : va_G) (ty : Nat → ClassId) (g : Nat → Nat → Int32) (ad : Nat → Nat) (sz : Nat) (hij : zIj ad) (i0 v0 : Nat) (hi0 : i0 < 8) (hv0b : v0 < 6) (n2 : Nat) (hn2 : g 2 0 = nI n2) (hn2b : n2 ≤ 20) (h21 : nb (g 2 1) 121) (h12 : ∀ j, j < n2 → nb (g 12 j) 48 ∧ nb (g 13 j) 48) (h8 : ∀ j, j < n2 → nb (g 8 (cn (g 13 j) / 6)) 7) : Met l yX2_linkVersion wsX2_linkVersion ({ frames := 1, cells := 0, slots := 0, locals := 23 }) (va_Pc [.ref (ad 2), .ref (ad 1), .int (nI i0), .int (nI v0)] (fun U => zI D ty g ad U ∧ U.heap.size = sz)) (va_Qv (fun g2 : Nat → Nat → Int32 => g2 = lkN i0 v0 g n2) (fun g2 t => zI D ty g2 ad t) (AC ad sz)) 0 0 (AC ad sz) := by
  refine zMet (cc := cX2_linkVersion) (maxL := 9) (ret := none) (by decide) rfl (Nat.le_of_ble_eq_true rfl) ?_
  intro p e s m below meth c hx hb hr hts hown hlocks hml hB ls hl
  obtain ⟨⟨hP, hK, hN⟩, hsz⟩ := hB
  subst hsz
  have hS : va_S (AC ad s.heap.size) s.heap s.heap [] := va_S.rf
  have hA9 : ∀ q : Nat, s.heap.size ≤ q → AC ad s.heap.size q := fun q h => Or.inr h
  have nV_lk : ∀ (i v n x : Nat), nV (lkN i v g n) x = nV g x := fun i v n x => by unfold nV; rw [lkN_r ⟨by decide, by decide, by decide, by decide⟩]
  have hl : lv_has ls 9 [(0, .ref (ad 2)), (1, .ref (ad 1)), (2, .int (nI i0)), (3, .int (nI v0))] := hl
  have hk0 := hts (.fieldLink RX2 9 "DatamarketDesk$Lineage" "sourceCount" "I") (by decide +kernel)
  have hinX2 : ∀ w ∈ wsX20, w ∈ wsX2_linkVersion := by decide +kernel
  have hk2 := hts (.fieldLink RX2 15 "DatamarketDesk$Lineage" "sourceChildren" "[I") (by decide +kernel)
  have hk3 := hts (.fieldLink RX2 19 "DatamarketDesk$Lineage" "sourceParents" "[I") (by decide +kernel)
  have hk4 := hts (.fieldLink RX2 22 "DatamarketDesk$Lineage" "sourceShares" "[I") (by decide +kernel)
  refine lv_iconst (v := nI 0) hx hb dX2_linkVersion_0 (by decide) ?_
  refine lv_istore (lv' := [(4, .int (nI 0)), (0, .ref (ad 2)), (1, .ref (ad 1)), (2, .int (nI i0)), (3, .int (nI v0))]) hx hb dX2_linkVersion_1 hl (by decide) rfl (fun ls hl => ?_)
  refine zloop (τ := Unit) (fun j _ ls H locs cells slots => cells = 0 ∧ slots = 0 ∧ lv_has ls 9 [(4, .int (nI j)), (0, .ref (ad 2)), (1, .ref (ad 1)), (2, .int (nI i0)), (3, .int (nI v0))] ∧ va_P D vwCl (zC ty (lkN i0 v0 g j) ad) H ∧ va_S (AC ad s.heap.size) s.heap H locs) n2 ?_ 0 () ls _ _ _ _ (Nat.zero_le _) (⟨rfl, rfl, lv_sub hl [0, 1, 2, 3, 4] rfl, hP, hS⟩)
  intro j _ ls H locs cells slots hi_j hinv ih_j
  obtain ⟨rfl, rfl, hl, hP, hS⟩ := hinv
  obtain ⟨g_1, eg_1⟩ : ∃ z : Nat → Nat → Int32, z = lkN i0 v0 g j := ⟨_, rfl⟩
  rw [← eg_1] at hP
  have hl : lv_has ls 9 [(4, .int (nI j)), (0, .ref (ad 2)), (1, .ref (ad 1)), (2, .int (nI i0)), (3, .int (nI v0))] := hl
  refine lv_iload hx hb dX2_linkVersion_3 (lv_at hl 0 rfl) ?_
  refine lv_aload_n hx hb dX2_linkVersion_5 rfl (lv_at hl 1 rfl) ?_
  refine va_get hx hb hts hinX2 hown hK hP 2 rfl rfl 0 (by decide) (hk0) (fun _ h9 => h9) rfl dX2_linkVersion_6 ?_
  refine zeq (show g_1 2 0 = nI n2 from (by rw [eg_1]; exact (lkN_0.trans hn2))) ?_
  refine lv_icmp_ge (tgt := 99) hx hb dX2_linkVersion_9 (by decide) (fun c_2 => ?_) (fun c_2 => ?_)
  · have c_2 := zn_geT (a := j) (b := n2) (by omega) (by omega) c_2
    obtain rfl : j = n2 := by omega
    exact W.vret hx hb hr (fun t ht hW => ⟨⟨g_1, rfl, by rw [eg_1], ⟨by rw [ht]; exact hP, va_K.moved hW.alike hK, hN.warm hW⟩⟩, hS.F ht⟩) hS.2.2 dX2_linkVersion_99
  · have c_2 := zn_geF (a := j) (b := n2) (by omega) (by omega) c_2
    refine lv_aload_n hx hb dX2_linkVersion_12 rfl (lv_at hl 1 rfl) ?_
    refine va_get hx hb hts hinX2 hown hK hP 2 rfl rfl 1 (by decide) (hk2) (fun _ h9 => h9) rfl dX2_linkVersion_13 ?_
    refine lv_iload hx hb dX2_linkVersion_16 (lv_at hl 0 rfl) ?_
    refine zald hx hb hK hP 12 0 rfl rfl (i := j) (by omega) (by decide) dX2_linkVersion_18 ?_
    have b_3 : cn (g 12 j) < 48 := (h12 _ (by omega)).1.2
    refine zeq (show g_1 12 j = nI (cn (g 12 j)) from (by rw [eg_1]; exact ((congrFun (lkN_r ⟨by decide, by decide, by decide, by decide⟩) _).trans (h12 _ (by omega)).1.1))) ?_
    refine lv_istore (lv' := [(5, .int (nI (cn (g 12 j)))), (4, .int (nI j)), (0, .ref (ad 2)), (1, .ref (ad 1)), (2, .int (nI i0)), (3, .int (nI v0))]) hx hb dX2_linkVersion_19 hl (by decide) rfl (fun ls hl => ?_)
    refine lv_aload_n hx hb dX2_linkVersion_21 rfl (lv_at hl 2 rfl) ?_
    refine va_get hx hb hts hinX2 hown hK hP 2 rfl rfl 2 (by decide) (hk3) (fun _ h9 => h9) rfl dX2_linkVersion_22 ?_
    refine lv_iload hx hb dX2_linkVersion_25 (lv_at hl 1 rfl) ?_
    refine zald hx hb hK hP 13 0 rfl rfl (i := j) (by omega) (by decide) dX2_linkVersion_27 ?_
    have b_4 : cn (g 13 j) < 48 := (h12 _ (by omega)).2.2
    refine zeq (show g_1 13 j = nI (cn (g 13 j)) from (by rw [eg_1]; exact ((congrFun (lkN_r ⟨by decide, by decide, by decide, by decide⟩) _).trans (h12 _ (by omega)).2.1))) ?_
    refine lv_istore (lv' := [(6, .int (nI (cn (g 13 j)))), (5, .int (nI (cn (g 12 j)))), (4, .int (nI j)), (0, .ref (ad 2)), (1, .ref (ad 1)), (2, .int (nI i0)), (3, .int (nI v0))]) hx hb dX2_linkVersion_28 hl (by decide) rfl (fun ls hl => ?_)
    refine lv_iload hx hb dX2_linkVersion_30 (lv_at hl 0 rfl) ?_
    refine lv_bipush (v := nI 6) hx hb dX2_linkVersion_32 (by decide) ?_
    refine lv_idiv hx hb dX2_linkVersion_34 (by decide) ?_
    refine zeq (pk_div (a := cn (g 13 j)) (d := 6) (by omega) (by omega) (by omega)) ?_
    refine lv_istore (lv' := [(7, .int (nI ((cn (g 13 j)) / 6))), (6, .int (nI (cn (g 13 j)))), (5, .int (nI (cn (g 12 j)))), (4, .int (nI j)), (0, .ref (ad 2)), (1, .ref (ad 1)), (2, .int (nI i0)), (3, .int (nI v0))]) hx hb dX2_linkVersion_35 hl (by decide) rfl (fun ls hl => ?_)
    refine lv_aload_n hx hb dX2_linkVersion_37 rfl (lv_at hl 5 rfl) ?_
    refine lv_iload hx hb dX2_linkVersion_38 (lv_at hl 0 rfl) ?_
    rcases Nat.eq_zero_or_pos (nV g (cn (g 13 j) / 6)) with hv9 | hv9
    · have hb9 : nV g (cn (g 13 j) / 6) < 7   := (h8 j (by omega)).2
      refine zcVi (As := [.int (nI ((cn (g 13 j)) / 6))]) (rest := []) ⟨hx, hb, hml, hown, hts⟩ (c_X4_latestVersion_0 l D ty g_1 ad ((cn (g 13 j)) / 6) (by omega) (by rw [eg_1]; exact (by rw [show lkN i0 v0 g j 8 = g 8 from lkN_r ⟨by decide, by decide, by decide, by decide⟩]; exact h8 j (by omega))) (by rw [eg_1]; exact ((nV_lk i0 v0 j _).trans hv9))) (cwV 1 hts gX2_linkVersion_X4_latestVersion rfl rfl rfl (by decide +kernel) ⟨Nat.le_of_ble_eq_true rfl, Nat.le_of_ble_eq_true rfl⟩) zI_blind (zI_pre hP hK hN) (va_recv hK hP (ci := 4) (q0 := 1) rfl rfl) rfl hl.1 rfl (Nat.le_of_ble_eq_true rfl) dX2_linkVersion_40 ⟨Nat.le_of_ble_eq_true rfl, Nat.le_of_ble_eq_true rfl⟩ (fun r_5 hr_5 => ?_)
      subst hr_5
      refine lv_istore (lv' := [(8, .int (-1)), (7, .int (nI ((cn (g 13 j)) / 6))), (6, .int (nI (cn (g 13 j)))), (5, .int (nI (cn (g 12 j)))), (4, .int (nI j)), (0, .ref (ad 2)), (1, .ref (ad 1)), (2, .int (nI i0)), (3, .int (nI v0))]) hx hb dX2_linkVersion_43 hl (by decide) rfl (fun ls hl => ?_)
      refine lv_iload hx hb dX2_linkVersion_45 (lv_at hl 3 rfl) ?_
      refine lv_bipush (v := nI 6) hx hb dX2_linkVersion_47 (by decide) ?_
      refine lv_idiv hx hb dX2_linkVersion_49 (by decide) ?_
      refine zeq (pk_div (a := cn (g 12 j)) (d := 6) (by omega) (by omega) (by omega)) ?_
      refine lv_iload_n hx hb dX2_linkVersion_50 rfl (lv_at hl 7 rfl) ?_
      refine lv_icmp_ne (tgt := 93) hx hb dX2_linkVersion_51 (by decide) (fun c_6 => ?_) (fun c_6 => ?_)
      · have c_6 := zn_neT (a := ((cn (g 12 j)) / 6)) (b := i0) (by omega) (by omega) c_6
        refine lv_iinc (v := nI (j + 1)) (lv' := [(4, .int (nI (j + 1))), (8, .int (-1)), (7, .int (nI ((cn (g 13 j)) / 6))), (6, .int (nI (cn (g 13 j)))), (5, .int (nI (cn (g 12 j)))), (0, .ref (ad 2)), (1, .ref (ad 1)), (2, .int (nI i0)), (3, .int (nI v0))]) hx hb dX2_linkVersion_93 hl (k := 4) rfl (nI_add j 1) (by decide) rfl (fun ls hl => ?_)
        refine lv_goto (tgt := 3) hx hb dX2_linkVersion_96 (by decide) ?_
        refine ih_j () ls _ _ _ _ (by omega) ⟨rfl, rfl, ?_, ?_, hS⟩
        · show lv_has ls 9 [(4, .int (nI (j + 1))), (0, .ref (ad 2)), (1, .ref (ad 1)), (2, .int (nI i0)), (3, .int (nI v0))]
          exact lv_sub hl [0, 5, 6, 7, 8] rfl
        · have e9 : g_1 = lkN i0 v0 g ((j + 1)) := by rw [eg_1]; show _ = lkS i0 v0 _ j; unfold lkS; rw [lkN_r (k := 12) ⟨by decide, by decide, by decide, by decide⟩, lkN_r (k := 13) ⟨by decide, by decide, by decide, by decide⟩, nV_lk, if_neg (by rintro ⟨q1, q2⟩; omega)]
          rw [← e9]; exact hP
      · have c_6 := zn_neF (a := ((cn (g 12 j)) / 6)) (b := i0) (by omega) (by omega) c_6
        refine lv_iload hx hb dX2_linkVersion_54 (lv_at hl 0 rfl) ?_
        refine lv_iconst (v := -1) hx hb dX2_linkVersion_56 (by decide) ?_
        refine lv_icmp_eq (tgt := 93) hx hb dX2_linkVersion_57 (by decide) (fun c_7 => ?_) (fun c_7 => ?_)
        · refine lv_iinc (v := nI (j + 1)) (lv' := [(4, .int (nI (j + 1))), (8, .int (-1)), (7, .int (nI ((cn (g 13 j)) / 6))), (6, .int (nI (cn (g 13 j)))), (5, .int (nI (cn (g 12 j)))), (0, .ref (ad 2)), (1, .ref (ad 1)), (2, .int (nI i0)), (3, .int (nI v0))]) hx hb dX2_linkVersion_93 hl (k := 4) rfl (nI_add j 1) (by decide) rfl (fun ls hl => ?_)
          refine lv_goto (tgt := 3) hx hb dX2_linkVersion_96 (by decide) ?_
          refine ih_j () ls _ _ _ _ (by omega) ⟨rfl, rfl, ?_, ?_, hS⟩
          · show lv_has ls 9 [(4, .int (nI (j + 1))), (0, .ref (ad 2)), (1, .ref (ad 1)), (2, .int (nI i0)), (3, .int (nI v0))]
            exact lv_sub hl [0, 5, 6, 7, 8] rfl
          · have e9 : g_1 = lkN i0 v0 g ((j + 1)) := by rw [eg_1]; show _ = lkS i0 v0 _ j; unfold lkS; rw [lkN_r (k := 12) ⟨by decide, by decide, by decide, by decide⟩, lkN_r (k := 13) ⟨by decide, by decide, by decide, by decide⟩, nV_lk, if_neg (by rintro ⟨q1, q2⟩; omega)]
            rw [← e9]; exact hP
        · exact absurd rfl c_7
    · have hb9 : nV g (cn (g 13 j) / 6) < 7   := (h8 j (by omega)).2
      refine zcVi (As := [.int (nI ((cn (g 13 j)) / 6))]) (rest := []) ⟨hx, hb, hml, hown, hts⟩ (c_X4_latestVersion_p l D ty g_1 ad ((cn (g 13 j)) / 6) (by omega) (by rw [eg_1]; exact (by rw [show lkN i0 v0 g j 8 = g 8 from lkN_r ⟨by decide, by decide, by decide, by decide⟩]; exact h8 j (by omega))) (by rw [eg_1, nV_lk]; exact hv9)) (cwV 1 hts gX2_linkVersion_X4_latestVersion rfl rfl rfl (by decide +kernel) ⟨Nat.le_of_ble_eq_true rfl, Nat.le_of_ble_eq_true rfl⟩) zI_blind (zI_pre hP hK hN) (va_recv hK hP (ci := 4) (q0 := 1) rfl rfl) rfl hl.1 rfl (Nat.le_of_ble_eq_true rfl) dX2_linkVersion_40 ⟨Nat.le_of_ble_eq_true rfl, Nat.le_of_ble_eq_true rfl⟩ (fun r_8 hr_8 => ?_)
      subst hr_8
      refine zeq (show nI (nV g_1 ((cn (g 13 j)) / 6) - 1) = nI (nV g ((cn (g 13 j)) / 6) - 1) from by rw [eg_1, nV_lk]) ?_
      refine lv_istore (lv' := [(8, .int (nI (nV g ((cn (g 13 j)) / 6) - 1))), (7, .int (nI ((cn (g 13 j)) / 6))), (6, .int (nI (cn (g 13 j)))), (5, .int (nI (cn (g 12 j)))), (4, .int (nI j)), (0, .ref (ad 2)), (1, .ref (ad 1)), (2, .int (nI i0)), (3, .int (nI v0))]) hx hb dX2_linkVersion_43 hl (by decide) rfl (fun ls hl => ?_)
      refine lv_iload hx hb dX2_linkVersion_45 (lv_at hl 3 rfl) ?_
      refine lv_bipush (v := nI 6) hx hb dX2_linkVersion_47 (by decide) ?_
      refine lv_idiv hx hb dX2_linkVersion_49 (by decide) ?_
      refine zeq (pk_div (a := cn (g 12 j)) (d := 6) (by omega) (by omega) (by omega)) ?_
      refine lv_iload_n hx hb dX2_linkVersion_50 rfl (lv_at hl 7 rfl) ?_
      refine lv_icmp_ne (tgt := 93) hx hb dX2_linkVersion_51 (by decide) (fun c_9 => ?_) (fun c_9 => ?_)
      · have c_9 := zn_neT (a := ((cn (g 12 j)) / 6)) (b := i0) (by omega) (by omega) c_9
        refine lv_iinc (v := nI (j + 1)) (lv' := [(4, .int (nI (j + 1))), (8, .int (nI (nV g ((cn (g 13 j)) / 6) - 1))), (7, .int (nI ((cn (g 13 j)) / 6))), (6, .int (nI (cn (g 13 j)))), (5, .int (nI (cn (g 12 j)))), (0, .ref (ad 2)), (1, .ref (ad 1)), (2, .int (nI i0)), (3, .int (nI v0))]) hx hb dX2_linkVersion_93 hl (k := 4) rfl (nI_add j 1) (by decide) rfl (fun ls hl => ?_)
        refine lv_goto (tgt := 3) hx hb dX2_linkVersion_96 (by decide) ?_
        refine ih_j () ls _ _ _ _ (by omega) ⟨rfl, rfl, ?_, ?_, hS⟩
        · show lv_has ls 9 [(4, .int (nI (j + 1))), (0, .ref (ad 2)), (1, .ref (ad 1)), (2, .int (nI i0)), (3, .int (nI v0))]
          exact lv_sub hl [0, 5, 6, 7, 8] rfl
        · have e9 : g_1 = lkN i0 v0 g ((j + 1)) := by rw [eg_1]; show _ = lkS i0 v0 _ j; unfold lkS; rw [lkN_r (k := 12) ⟨by decide, by decide, by decide, by decide⟩, lkN_r (k := 13) ⟨by decide, by decide, by decide, by decide⟩, nV_lk, if_neg (by rintro ⟨q1, q2⟩; omega)]
          rw [← e9]; exact hP
      · have c_9 := zn_neF (a := ((cn (g 12 j)) / 6)) (b := i0) (by omega) (by omega) c_9
        refine lv_iload hx hb dX2_linkVersion_54 (lv_at hl 0 rfl) ?_
        refine lv_iconst (v := -1) hx hb dX2_linkVersion_56 (by decide) ?_
        refine lv_icmp_eq (tgt := 93) hx hb dX2_linkVersion_57 (by decide) (fun c_10 => ?_) (fun c_10 => ?_)
        · exact absurd c_10 (nI_ne_m1 (by omega))
        · refine lv_aload_n hx hb dX2_linkVersion_60 rfl (lv_at hl 5 rfl) ?_
          refine lv_iload_n hx hb dX2_linkVersion_61 rfl (lv_at hl 7 rfl) ?_
          refine lv_iload_n hx hb dX2_linkVersion_62 rfl (lv_at hl 8 rfl) ?_
          refine lv_iload hx hb dX2_linkVersion_63 (lv_at hl 3 rfl) ?_
          refine lv_bipush (v := nI 6) hx hb dX2_linkVersion_65 (by decide) ?_
          refine lv_irem hx hb dX2_linkVersion_67 (by decide) ?_
          refine zeq (pk_rem (a := cn (g 12 j)) (d := 6) (by omega) (by omega) (by omega)) ?_
          refine zcSNi (As := [.int (nI i0), .int (nI v0), .int (nI ((cn (g 12 j)) % 6))]) (rest := [.ref (ad 2)]) ⟨hx, hb, hml, hown, hts⟩ (c_X5_placeAt l _ i0 v0 ((cn (g 12 j)) % 6)) ⟨va_cnB 3 hts ggX2_linkVersion_X5_placeAt rfl rfl rfl (hN _ (List.mem_of_getElem? (i := 37) rfl)) (hts (.initialized RX5) (by decide +kernel)) (by decide +kernel) ⟨Nat.le_of_ble_eq_true rfl, Nat.le_of_ble_eq_true rfl⟩, hts (.static yX5_placeAt) (by decide +kernel), trivial⟩ (B := fun _ => True) (fun _ _ _ _ _ => trivial) (fun _ _ _ => trivial) rfl hl.1 rfl (Nat.le_of_ble_eq_true rfl) dX2_linkVersion_68 ⟨Nat.le_of_ble_eq_true rfl, Nat.le_of_ble_eq_true rfl⟩ (fun r_11 hr_11 => ?_)
          subst hr_11
          refine lv_iload hx hb dX2_linkVersion_71 (lv_at hl 1 rfl) ?_
          refine lv_iload hx hb dX2_linkVersion_73 (lv_at hl 0 rfl) ?_
          refine lv_iload hx hb dX2_linkVersion_75 (lv_at hl 2 rfl) ?_
          refine lv_bipush (v := nI 6) hx hb dX2_linkVersion_77 (by decide) ?_
          refine lv_irem hx hb dX2_linkVersion_79 (by decide) ?_
          refine zeq (pk_rem (a := cn (g 13 j)) (d := 6) (by omega) (by omega) (by omega)) ?_
          refine zcSNi (As := [.int (nI ((cn (g 13 j)) / 6)), .int (nI (nV g ((cn (g 13 j)) / 6) - 1)), .int (nI ((cn (g 13 j)) % 6))]) (rest := [.int (nI ((i0 * 6 + v0) * 6 + ((cn (g 12 j)) % 6))), .ref (ad 2)]) ⟨hx, hb, hml, hown, hts⟩ (c_X5_placeAt l _ ((cn (g 13 j)) / 6) (nV g ((cn (g 13 j)) / 6) - 1) ((cn (g 13 j)) % 6)) ⟨va_cnB 3 hts ggX2_linkVersion_X5_placeAt rfl rfl rfl (hN _ (List.mem_of_getElem? (i := 37) rfl)) (hts (.initialized RX5) (by decide +kernel)) (by decide +kernel) ⟨Nat.le_of_ble_eq_true rfl, Nat.le_of_ble_eq_true rfl⟩, hts (.static yX5_placeAt) (by decide +kernel), trivial⟩ (B := fun _ => True) (fun _ _ _ _ _ => trivial) (fun _ _ _ => trivial) rfl hl.1 rfl (Nat.le_of_ble_eq_true rfl) dX2_linkVersion_80 ⟨Nat.le_of_ble_eq_true rfl, Nat.le_of_ble_eq_true rfl⟩ (fun r_12 hr_12 => ?_)
          subst hr_12
          refine lv_aload_n hx hb dX2_linkVersion_83 rfl (lv_at hl 5 rfl) ?_
          refine va_get hx hb hts hinX2 hown hK hP 2 rfl rfl 3 (by decide) (hk4) (fun _ h9 => h9) rfl dX2_linkVersion_84 ?_
          refine lv_iload hx hb dX2_linkVersion_87 (lv_at hl 4 rfl) ?_
          refine zald hx hb hK hP 14 0 rfl rfl (i := j) (by omega) (by decide) dX2_linkVersion_89 ?_
          have hFc : ∀ q, AC ad H.size q → AC ad s.heap.size q := fun q h => h.elim Or.inl (fun z => Or.inr (Nat.le_trans hS.1 z))
          refine va_callv (va_runV (As := [.int (nI ((i0 * 6 + v0) * 6 + ((cn (g 12 j)) % 6))), .int (nI ((((cn (g 13 j)) / 6) * 6 + (nV g ((cn (g 13 j)) / 6) - 1)) * 6 + ((cn (g 13 j)) % 6))), .int (g_1 14 j)]) (rest := []) ⟨hx, hb, hml, hown, hts⟩ (c_X2_addLink l D ty g_1 ad H.size hij (by rw [eg_1]; exact (lkN_n h21)) ((i0 * 6 + v0) * 6 + ((cn (g 12 j)) % 6)) ((((cn (g 13 j)) / 6) * 6 + (nV g ((cn (g 13 j)) / 6) - 1)) * 6 + ((cn (g 13 j)) % 6)) (g_1 14 j)) (cwV 3 hts gX2_linkVersion_X2_addLink rfl rfl rfl (by decide +kernel) ⟨Nat.le_of_ble_eq_true rfl, Nat.le_of_ble_eq_true rfl⟩) ⟨zBl (zW_blind), va_recv hK hP (ci := 2) (q0 := 2) rfl rfl, fun U h1 h2 => ⟨rfl, zI_pre hP hK hN U h1 h2, by rw [h1]⟩⟩ rfl rfl hl.1 rfl (lv_room (Nat.le_of_ble_eq_true rfl)) dX2_linkVersion_90 ⟨Nat.le_of_ble_eq_true rfl, Nat.le_of_ble_eq_true rfl⟩) hS (fun q _ h => hFc q h) hFc (fun g_13 t H locs ht hvm hw hB _ _ hS => ?_)
          have eg_13 := hw
          have hP : va_P D vwCl (zC ty g_13 ad) H := by rw [← ht]; exact hB.1
          refine lv_iinc (v := nI (j + 1)) (lv' := [(4, .int (nI (j + 1))), (8, .int (nI (nV g ((cn (g 13 j)) / 6) - 1))), (7, .int (nI ((cn (g 13 j)) / 6))), (6, .int (nI (cn (g 13 j)))), (5, .int (nI (cn (g 12 j)))), (0, .ref (ad 2)), (1, .ref (ad 1)), (2, .int (nI i0)), (3, .int (nI v0))]) hx hb dX2_linkVersion_93 hl (k := 4) rfl (nI_add j 1) (by decide) rfl (fun ls hl => ?_)
          refine lv_goto (tgt := 3) hx hb dX2_linkVersion_96 (by decide) ?_
          refine ih_j () ls _ _ _ _ (by omega) ⟨rfl, rfl, ?_, ?_, hS⟩
          · show lv_has ls 9 [(4, .int (nI (j + 1))), (0, .ref (ad 2)), (1, .ref (ad 1)), (2, .int (nI i0)), (3, .int (nI v0))]
            exact lv_sub hl [0, 5, 6, 7, 8] rfl
          · have e9 : g_13 = lkN i0 v0 g ((j + 1)) := by rw [eg_13, eg_1]; show _ = lkS i0 v0 _ j; unfold lkS; rw [lkN_r (k := 12) ⟨by decide, by decide, by decide, by decide⟩, lkN_r (k := 13) ⟨by decide, by decide, by decide, by decide⟩, nV_lk, if_pos ⟨c_9, hv9⟩]; rfl
            rw [← e9]; exact hP

set_option maxHeartbeats 4000000 in
set_option maxRecDepth 100000 in
theorem c_X0_add (l : Launch) (D : va_G) (ty : Nat → ClassId) (g : Nat → Nat → Int32) (ad : Nat → Nat) (sz : Nat) (hij : zIj ad) (n4 : Nat) (hn4 : g 4 0 = nI n4) (hn4b : n4 < 16) (a1 a2 a3 a4 a5 a6 : Int32) : Met l yX0_add wsX0_add ({ frames := 0, cells := 0, slots := 0, locals := 0 }) (va_Pc [.ref (ad 4), .int a1, .int a2, .int a3, .int a4, .int a5, .int a6] (fun U => zI D ty g ad U ∧ U.heap.size = sz)) (va_Qi (fun (v9 : Int32) (g2 : Nat → Nat → Int32) => v9 = nI n4 ∧ g2 = va_up (va_up (va_up (va_up (va_up (va_up (va_up g 23 (upd (g 23) n4 a1)) 24 (upd (g 24) n4 a2)) 25 (upd (g 25) n4 a3)) 26 (upd (g 26) n4 a4)) 27 (upd (g 27) n4 a5)) 28 (upd (g 28) n4 a6)) 4 (upd (g 4) 0 (nI (n4 + 1)))) (fun g2 t => zI D ty g2 ad t) (AC ad sz)) 0 0 (AC ad sz) := by
  refine zMet (cc := cX0_add) (maxL := 8) (ret := (some .int)) (by decide) rfl (Nat.le_of_ble_eq_true rfl) ?_
  intro p e s m below meth c hx hb hr hts hown hlocks hml hB ls hl
  obtain ⟨⟨hP, hK, hN⟩, hsz⟩ := hB
  subst hsz
  have hS : va_S (AC ad s.heap.size) s.heap s.heap [] := va_S.rf
  have hA9 : ∀ q : Nat, s.heap.size ≤ q → AC ad s.heap.size q := fun q h => Or.inr h
  have hl : lv_has ls 8 [(0, .ref (ad 4)), (1, .int a1), (2, .int a2), (3, .int a3), (4, .int a4), (5, .int a5), (6, .int a6)] := hl
  have hk0 := hts (.fieldLink RX0 9 "DatamarketDesk$Contracts" "count" "I") (by decide +kernel)
  have hinX0 : ∀ w ∈ wsX00, w ∈ wsX0_add := by decide +kernel
  have hk2 := hts (.fieldLink RX0 15 "DatamarketDesk$Contracts" "readers" "[I") (by decide +kernel)
  have hk3 := hts (.fieldLink RX0 19 "DatamarketDesk$Contracts" "sets" "[I") (by decide +kernel)
  have hk4 := hts (.fieldLink RX0 22 "DatamarketDesk$Contracts" "fields" "[I") (by decide +kernel)
  have hk5 := hts (.fieldLink RX0 25 "DatamarketDesk$Contracts" "purposes" "[I") (by decide +kernel)
  have hk6 := hts (.fieldLink RX0 28 "DatamarketDesk$Contracts" "firstDays" "[I") (by decide +kernel)
  have hk7 := hts (.fieldLink RX0 31 "DatamarketDesk$Contracts" "lastDays" "[I") (by decide +kernel)
  refine lv_aload_n hx hb dX0_add_0 rfl (lv_at hl 0 rfl) ?_
  refine va_get hx hb hts hinX0 hown hK hP 4 rfl rfl 0 (by decide) (hk0) (fun _ h9 => h9) rfl dX0_add_1 ?_
  refine zeq (show g 4 0 = nI n4 from hn4) ?_
  refine lv_istore (lv' := [(7, .int (nI n4)), (0, .ref (ad 4)), (1, .int a1), (2, .int a2), (3, .int a3), (4, .int a4), (5, .int a5), (6, .int a6)]) hx hb dX0_add_4 hl (by decide) rfl (fun ls hl => ?_)
  refine lv_aload_n hx hb dX0_add_6 rfl (lv_at hl 1 rfl) ?_
  refine va_get hx hb hts hinX0 hown hK hP 4 rfl rfl 1 (by decide) (hk2) (fun _ h9 => h9) rfl dX0_add_7 ?_
  refine lv_iload hx hb dX0_add_10 (lv_at hl 0 rfl) ?_
  refine lv_iload_n hx hb dX0_add_12 rfl (lv_at hl 2 rfl) ?_
  refine zast hx hb hK hP (zD hij) hS 23 0 rfl rfl (i := n4) (by omega) (by decide) dX0_add_13 (fun H locs hP hS => ?_)
  obtain ⟨g_1, eg_1⟩ : ∃ z : Nat → Nat → Int32, z = va_up g 23 (upd (g 23) n4 a1) := ⟨_, rfl⟩
  have hP : va_P D vwCl (zC ty g_1 ad) H := by rw [eg_1]; exact hP
  refine lv_aload_n hx hb dX0_add_14 rfl (lv_at hl 1 rfl) ?_
  refine va_get hx hb hts hinX0 hown hK hP 4 rfl rfl 2 (by decide) (hk3) (fun _ h9 => h9) rfl dX0_add_15 ?_
  refine lv_iload hx hb dX0_add_18 (lv_at hl 0 rfl) ?_
  refine lv_iload_n hx hb dX0_add_20 rfl (lv_at hl 3 rfl) ?_
  refine zast hx hb hK hP (zD hij) hS 24 0 rfl rfl (i := n4) (by omega) (by decide) dX0_add_21 (fun H locs hP hS => ?_)
  obtain ⟨g_2, eg_2⟩ : ∃ z : Nat → Nat → Int32, z = va_up g_1 24 (upd (g_1 24) n4 a2) := ⟨_, rfl⟩
  have hP : va_P D vwCl (zC ty g_2 ad) H := by rw [eg_2]; exact hP
  refine lv_aload_n hx hb dX0_add_22 rfl (lv_at hl 1 rfl) ?_
  refine va_get hx hb hts hinX0 hown hK hP 4 rfl rfl 3 (by decide) (hk4) (fun _ h9 => h9) rfl dX0_add_23 ?_
  refine lv_iload hx hb dX0_add_26 (lv_at hl 0 rfl) ?_
  refine lv_iload_n hx hb dX0_add_28 rfl (lv_at hl 4 rfl) ?_
  refine zast hx hb hK hP (zD hij) hS 25 0 rfl rfl (i := n4) (by omega) (by decide) dX0_add_29 (fun H locs hP hS => ?_)
  obtain ⟨g_3, eg_3⟩ : ∃ z : Nat → Nat → Int32, z = va_up g_2 25 (upd (g_2 25) n4 a3) := ⟨_, rfl⟩
  have hP : va_P D vwCl (zC ty g_3 ad) H := by rw [eg_3]; exact hP
  refine lv_aload_n hx hb dX0_add_30 rfl (lv_at hl 1 rfl) ?_
  refine va_get hx hb hts hinX0 hown hK hP 4 rfl rfl 4 (by decide) (hk5) (fun _ h9 => h9) rfl dX0_add_31 ?_
  refine lv_iload hx hb dX0_add_34 (lv_at hl 0 rfl) ?_
  refine lv_iload hx hb dX0_add_36 (lv_at hl 5 rfl) ?_
  refine zast hx hb hK hP (zD hij) hS 26 0 rfl rfl (i := n4) (by omega) (by decide) dX0_add_38 (fun H locs hP hS => ?_)
  obtain ⟨g_4, eg_4⟩ : ∃ z : Nat → Nat → Int32, z = va_up g_3 26 (upd (g_3 26) n4 a4) := ⟨_, rfl⟩
  have hP : va_P D vwCl (zC ty g_4 ad) H := by rw [eg_4]; exact hP
  refine lv_aload_n hx hb dX0_add_39 rfl (lv_at hl 1 rfl) ?_
  refine va_get hx hb hts hinX0 hown hK hP 4 rfl rfl 5 (by decide) (hk6) (fun _ h9 => h9) rfl dX0_add_40 ?_
  refine lv_iload hx hb dX0_add_43 (lv_at hl 0 rfl) ?_
  refine lv_iload hx hb dX0_add_45 (lv_at hl 6 rfl) ?_
  refine zast hx hb hK hP (zD hij) hS 27 0 rfl rfl (i := n4) (by omega) (by decide) dX0_add_47 (fun H locs hP hS => ?_)
  obtain ⟨g_5, eg_5⟩ : ∃ z : Nat → Nat → Int32, z = va_up g_4 27 (upd (g_4 27) n4 a5) := ⟨_, rfl⟩
  have hP : va_P D vwCl (zC ty g_5 ad) H := by rw [eg_5]; exact hP
  refine lv_aload_n hx hb dX0_add_48 rfl (lv_at hl 1 rfl) ?_
  refine va_get hx hb hts hinX0 hown hK hP 4 rfl rfl 6 (by decide) (hk7) (fun _ h9 => h9) rfl dX0_add_49 ?_
  refine lv_iload hx hb dX0_add_52 (lv_at hl 0 rfl) ?_
  refine lv_iload hx hb dX0_add_54 (lv_at hl 7 rfl) ?_
  refine zast hx hb hK hP (zD hij) hS 28 0 rfl rfl (i := n4) (by omega) (by decide) dX0_add_56 (fun H locs hP hS => ?_)
  obtain ⟨g_6, eg_6⟩ : ∃ z : Nat → Nat → Int32, z = va_up g_5 28 (upd (g_5 28) n4 a6) := ⟨_, rfl⟩
  have hP : va_P D vwCl (zC ty g_6 ad) H := by rw [eg_6]; exact hP
  refine lv_aload_n hx hb dX0_add_57 rfl (lv_at hl 1 rfl) ?_
  refine lv_dup hx hb dX0_add_58 rfl ?_
  refine va_get hx hb hts hinX0 hown hK hP 4 rfl rfl 0 (by decide) (hk0) (fun _ h9 => h9) rfl dX0_add_59 ?_
  refine zeq (show g_6 4 0 = nI n4 from (by rw [eg_6, eg_5, eg_4, eg_3, eg_2, eg_1]; exact hn4)) ?_
  refine lv_iconst (v := nI 1) hx hb dX0_add_62 (by decide) ?_
  refine lv_iadd hx hb dX0_add_63 ?_
  refine zeq (nI_add n4 1) ?_
  refine va_put (ty := .int) hx hb hts hinX0 tyX0 tyX0_ok nmX0 hown hK hP (zD hij) hS 4 rfl rfl 0 (by decide) (hk0) (fun _ h9 => h9) rfl (by decide +kernel) rfl rfl (Nat.le_of_ble_eq_true rfl) dX0_add_64 (fun H locs hP _ hS => ?_)
  obtain ⟨g_7, eg_7⟩ : ∃ z : Nat → Nat → Int32, z = va_up g_6 4 (upd (g_6 4) 0 (nI (n4 + 1))) := ⟨_, rfl⟩
  have hP : va_P D vwCl (zC ty g_7 ad) H := by rw [eg_7]; exact hP
  refine lv_iload hx hb dX0_add_67 (lv_at hl 0 rfl) ?_
  exact W.iret (v := nI n4) hx hb hr (fun t ht hW => ⟨⟨_, g_7, rfl, ⟨rfl, by rw [eg_7, eg_6, eg_5, eg_4, eg_3, eg_2, eg_1]; try rfl⟩, ⟨by rw [ht]; exact hP, va_K.moved hW.alike hK, hN.warm hW⟩⟩, hS.F ht⟩) hS.2.2 dX0_add_69

set_option maxHeartbeats 4000000 in
set_option maxRecDepth 100000 in
theorem c_X4_addSet (l : Launch) (D : va_G) (ty : Nat → ClassId) (g : Nat → Nat → Int32) (ad : Nat → Nat) (sz : Nat) (hij : zIj ad) (n1 : Nat) (hn1 : g 1 0 = nI n1) (hn1b : n1 < 8) (k0 : Nat) (hk0b : k0 < 7) : Met l yX4_addSet wsX4_addSet ({ frames := 1, cells := 0, slots := 0, locals := 21 }) (va_Pc [.ref (ad 1), .int (nI k0)] (fun U => zI D ty g ad U ∧ U.heap.size = sz)) (va_Qi (fun (v9 : Int32) (g2 : Nat → Nat → Int32) => v9 = nI n1 ∧ g2 = setG g n1 k0) (fun g2 t => zI D ty g2 ad t) (AC ad sz)) 0 0 (AC ad sz) := by
  refine zMet (cc := cX4_addSet) (maxL := 4) (ret := (some .int)) (by decide) rfl (Nat.le_of_ble_eq_true rfl) ?_
  intro p e s m below meth c hx hb hr hts hown hlocks hml hB ls hl
  obtain ⟨⟨hP, hK, hN⟩, hsz⟩ := hB
  subst hsz
  have hS : va_S (AC ad s.heap.size) s.heap s.heap [] := va_S.rf
  have hA9 : ∀ q : Nat, s.heap.size ≤ q → AC ad s.heap.size q := fun q h => Or.inr h
  have hl : lv_has ls 4 [(0, .ref (ad 1)), (1, .int (nI k0))] := hl
  have hk0 := hts (.fieldLink RX4 9 "DatamarketDesk$Shelf" "setCount" "I") (by decide +kernel)
  have hinX4 : ∀ w ∈ wsX40, w ∈ wsX4_addSet := by decide +kernel
  have hk2 := hts (.fieldLink RX4 15 "DatamarketDesk$Shelf" "fields" "[I") (by decide +kernel)
  have hk3 := hts (.fieldLink RX4 25 "DatamarketDesk$Shelf" "prices" "[I") (by decide +kernel)
  have hk4 := hts (.fieldLink RX4 28 "DatamarketDesk$Shelf" "rules" "[I") (by decide +kernel)
  refine lv_aload_n hx hb dX4_addSet_0 rfl (lv_at hl 0 rfl) ?_
  refine va_get hx hb hts hinX4 hown hK hP 1 rfl rfl 0 (by decide) (hk0) (fun _ h9 => h9) rfl dX4_addSet_1 ?_
  refine zeq (show g 1 0 = nI n1 from hn1) ?_
  refine lv_istore_n (lv' := [(2, .int (nI n1)), (0, .ref (ad 1)), (1, .int (nI k0))]) hx hb dX4_addSet_4 rfl hl (by decide) rfl (fun ls hl => ?_)
  refine lv_aload_n hx hb dX4_addSet_5 rfl (lv_at hl 1 rfl) ?_
  refine va_get hx hb hts hinX4 hown hK hP 1 rfl rfl 1 (by decide) (hk2) (fun _ h9 => h9) rfl dX4_addSet_6 ?_
  refine lv_iload_n hx hb dX4_addSet_9 rfl (lv_at hl 0 rfl) ?_
  refine lv_iload_n hx hb dX4_addSet_10 rfl (lv_at hl 2 rfl) ?_
  refine zast hx hb hK hP (zD hij) hS 7 0 rfl rfl (i := n1) (by omega) (by decide) dX4_addSet_11 (fun H locs hP hS => ?_)
  obtain ⟨g_1, eg_1⟩ : ∃ z : Nat → Nat → Int32, z = va_up g 7 (upd (g 7) n1 (nI k0)) := ⟨_, rfl⟩
  have hP : va_P D vwCl (zC ty g_1 ad) H := by rw [eg_1]; exact hP
  refine lv_iconst (v := nI 0) hx hb dX4_addSet_12 (by decide) ?_
  refine lv_istore_n (lv' := [(3, .int (nI 0)), (2, .int (nI n1)), (0, .ref (ad 1)), (1, .int (nI k0))]) hx hb dX4_addSet_13 rfl hl (by decide) rfl (fun ls hl => ?_)
  refine zloop (τ := Unit) (fun j _ ls H locs cells slots => cells = 0 ∧ slots = 0 ∧ lv_has ls 4 [(2, .int (nI n1)), (3, .int (nI j)), (0, .ref (ad 1)), (1, .int (nI k0))] ∧ va_P D vwCl (zC ty (va_up (va_up (va_up g 7 (upd (g 7) n1 (nI k0))) 10 (rng (g 10) (n1 * 6) j (nI 10))) 11 (rng (g 11) (n1 * 6) j (nI 1000))) ad) H ∧ va_S (AC ad s.heap.size) s.heap H locs) k0 ?_ 0 () ls _ _ _ _ (Nat.zero_le _) (⟨rfl, rfl, lv_sub hl [1, 0, 2, 3] rfl, (by rw [rng_0, rng_0, ← eg_1, show va_up g_1 10 (g 10) = g_1 from by rw [eg_1, vu_c _ (by decide), vu_self], show va_up g_1 11 (g 11) = g_1 from by rw [eg_1, vu_c _ (by decide), vu_self]]; exact hP), hS⟩)
  intro j _ ls H locs cells slots hi_j hinv ih_j
  obtain ⟨rfl, rfl, hl, hP, hS⟩ := hinv
  obtain ⟨g_2, eg_2⟩ : ∃ z : Nat → Nat → Int32, z = va_up (va_up (va_up g 7 (upd (g 7) n1 (nI k0))) 10 (rng (g 10) (n1 * 6) j (nI 10))) 11 (rng (g 11) (n1 * 6) j (nI 1000)) := ⟨_, rfl⟩
  rw [← eg_2] at hP
  have hl : lv_has ls 4 [(2, .int (nI n1)), (3, .int (nI j)), (0, .ref (ad 1)), (1, .int (nI k0))] := hl
  refine lv_iload_n hx hb dX4_addSet_14 rfl (lv_at hl 1 rfl) ?_
  refine lv_iload_n hx hb dX4_addSet_15 rfl (lv_at hl 3 rfl) ?_
  refine lv_icmp_ge (tgt := 50) hx hb dX4_addSet_16 (by decide) (fun c_3 => ?_) (fun c_3 => ?_)
  · have c_3 := zn_geT (a := j) (b := k0) (by omega) (by omega) c_3
    obtain rfl : k0 = j := by omega
    refine lv_aload_n hx hb dX4_addSet_50 rfl (lv_at hl 2 rfl) ?_
    refine lv_dup hx hb dX4_addSet_51 rfl ?_
    have hP9 : va_P D vwCl (zC ty g_2 ad) H := hP
    refine va_get hx hb hts hinX4 hown hK hP 1 rfl rfl 0 (by decide) (hk0) (fun _ h9 => h9) rfl dX4_addSet_52 ?_
    refine zeq (show g_2 1 0 = nI n1 from (by rw [eg_2]; exact hn1)) ?_
    refine lv_iconst (v := nI 1) hx hb dX4_addSet_55 (by decide) ?_
    refine lv_iadd hx hb dX4_addSet_56 ?_
    refine zeq (nI_add n1 1) ?_
    refine va_put (ty := .int) hx hb hts hinX4 tyX4 tyX4_ok nmX4 hown hK hP (zD hij) hS 1 rfl rfl 0 (by decide) (hk0) (fun _ h9 => h9) rfl (by decide +kernel) rfl rfl (Nat.le_of_ble_eq_true rfl) dX4_addSet_57 (fun H locs hP _ hS => ?_)
    obtain ⟨g_4, eg_4⟩ : ∃ z : Nat → Nat → Int32, z = va_up g_2 1 (upd (g_2 1) 0 (nI (n1 + 1))) := ⟨_, rfl⟩
    have hP : va_P D vwCl (zC ty g_4 ad) H := by rw [eg_4]; exact hP
    refine lv_iload_n hx hb dX4_addSet_60 rfl (lv_at hl 0 rfl) ?_
    exact W.iret (v := nI n1) hx hb hr (fun t ht hW => ⟨⟨_, g_4, rfl, ⟨rfl, by rw [eg_4, eg_2]; rfl⟩, ⟨by rw [ht]; exact hP, va_K.moved hW.alike hK, hN.warm hW⟩⟩, hS.F ht⟩) hS.2.2 dX4_addSet_61
  · have c_3 := zn_geF (a := j) (b := k0) (by omega) (by omega) c_3
    refine lv_aload_n hx hb dX4_addSet_19 rfl (lv_at hl 2 rfl) ?_
    refine va_get hx hb hts hinX4 hown hK hP 1 rfl rfl 4 (by decide) (hk3) (fun _ h9 => h9) rfl dX4_addSet_20 ?_
    refine lv_iload_n hx hb dX4_addSet_23 rfl (lv_at hl 0 rfl) ?_
    refine lv_iload_n hx hb dX4_addSet_24 rfl (lv_at hl 1 rfl) ?_
    refine zcSNi (As := [.int (nI n1), .int (nI j)]) (rest := [.ref (ad 10)]) ⟨hx, hb, hml, hown, hts⟩ (c_X5_fieldAt l _ n1 j) ⟨va_cnB 2 hts ggX4_addSet_X5_fieldAt rfl rfl rfl (hN _ (List.mem_of_getElem? (i := 34) rfl)) (hts (.initialized RX5) (by decide +kernel)) (by decide +kernel) ⟨Nat.le_of_ble_eq_true rfl, Nat.le_of_ble_eq_true rfl⟩, hts (.static yX5_fieldAt) (by decide +kernel), trivial⟩ (B := fun _ => True) (fun _ _ _ _ _ => trivial) (fun _ _ _ => trivial) rfl hl.1 rfl (Nat.le_of_ble_eq_true rfl) dX4_addSet_25 ⟨Nat.le_of_ble_eq_true rfl, Nat.le_of_ble_eq_true rfl⟩ (fun r_5 hr_5 => ?_)
    subst hr_5
    refine lv_bipush (v := nI 10) hx hb dX4_addSet_28 (by decide) ?_
    refine zast hx hb hK hP (zD hij) hS 10 0 rfl rfl (i := n1 * 6 + j) (by omega) (by decide) dX4_addSet_30 (fun H locs hP hS => ?_)
    obtain ⟨g_6, eg_6⟩ : ∃ z : Nat → Nat → Int32, z = va_up g_2 10 (upd (g_2 10) (n1 * 6 + j) (nI 10)) := ⟨_, rfl⟩
    have hP : va_P D vwCl (zC ty g_6 ad) H := by rw [eg_6]; exact hP
    refine lv_aload_n hx hb dX4_addSet_31 rfl (lv_at hl 2 rfl) ?_
    refine va_get hx hb hts hinX4 hown hK hP 1 rfl rfl 5 (by decide) (hk4) (fun _ h9 => h9) rfl dX4_addSet_32 ?_
    refine lv_iload_n hx hb dX4_addSet_35 rfl (lv_at hl 0 rfl) ?_
    refine lv_iload_n hx hb dX4_addSet_36 rfl (lv_at hl 1 rfl) ?_
    refine zcSNi (As := [.int (nI n1), .int (nI j)]) (rest := [.ref (ad 11)]) ⟨hx, hb, hml, hown, hts⟩ (c_X5_fieldAt l _ n1 j) ⟨va_cnB 2 hts ggX4_addSet_X5_fieldAt rfl rfl rfl (hN _ (List.mem_of_getElem? (i := 34) rfl)) (hts (.initialized RX5) (by decide +kernel)) (by decide +kernel) ⟨Nat.le_of_ble_eq_true rfl, Nat.le_of_ble_eq_true rfl⟩, hts (.static yX5_fieldAt) (by decide +kernel), trivial⟩ (B := fun _ => True) (fun _ _ _ _ _ => trivial) (fun _ _ _ => trivial) rfl hl.1 rfl (Nat.le_of_ble_eq_true rfl) dX4_addSet_37 ⟨Nat.le_of_ble_eq_true rfl, Nat.le_of_ble_eq_true rfl⟩ (fun r_7 hr_7 => ?_)
    subst hr_7
    refine lv_sipush (v := nI 1000) hx hb dX4_addSet_40 (by decide) ?_
    refine zast hx hb hK hP (zD hij) hS 11 0 rfl rfl (i := n1 * 6 + j) (by omega) (by decide) dX4_addSet_43 (fun H locs hP hS => ?_)
    obtain ⟨g_8, eg_8⟩ : ∃ z : Nat → Nat → Int32, z = va_up g_6 11 (upd (g_6 11) (n1 * 6 + j) (nI 1000)) := ⟨_, rfl⟩
    have hP : va_P D vwCl (zC ty g_8 ad) H := by rw [eg_8]; exact hP
    refine lv_iinc (v := nI (j + 1)) (lv' := [(3, .int (nI (j + 1))), (2, .int (nI n1)), (0, .ref (ad 1)), (1, .int (nI k0))]) hx hb dX4_addSet_44 hl (k := 1) rfl (nI_add j 1) (by decide) rfl (fun ls hl => ?_)
    refine lv_goto (tgt := 14) hx hb dX4_addSet_47 (by decide) ?_
    refine ih_j () ls _ _ _ _ (by omega) ⟨rfl, rfl, ?_, ?_, hS⟩
    · show lv_has ls 4 [(2, .int (nI n1)), (3, .int (nI (j + 1))), (0, .ref (ad 1)), (1, .int (nI k0))]
      exact lv_sub hl [1, 0, 2, 3] rfl
    · have e9 : g_8 = va_up (va_up (va_up g 7 (upd (g 7) n1 (nI k0))) 10 (rng (g 10) (n1 * 6) ((j + 1)) (nI 10))) 11 (rng (g 11) (n1 * 6) ((j + 1)) (nI 1000)) := by rw [eg_8, eg_6, eg_2, ← rng_s, ← rng_s]; exact vu_4 _ (by decide) _ _ _ _
      rw [← e9]; exact hP
set_option maxHeartbeats 4000000 in
set_option maxRecDepth 100000 in
theorem c_X4_addVersion (l : Launch) (D : va_G) (ty : Nat → ClassId) (g : Nat → Nat → Int32) (ad : Nat → Nat) (sz : Nat) (hij : zIj ad) (i : Nat) (hi : i < 8) (h8 : nb (g 8 i) 7) (hv6 : nV g i < 6) (x : Int32) : Met l yX4_addVersion wsX4_addVersion ({ frames := 1, cells := 0, slots := 0, locals := 21 }) (va_Pc [.ref (ad 1), .int (nI i), .int x] (fun U => zI D ty g ad U ∧ U.heap.size = sz)) (va_Qi (fun (v9 : Int32) (g2 : Nat → Nat → Int32) => v9 = nI (nV g i) ∧ g2 = va_up (va_up g 9 (upd (g 9) (i * 6 + nV g i) x)) 8 (upd (g 8) i (nI (nV g i + 1)))) (fun g2 t => zI D ty g2 ad t) (AC ad sz)) 0 0 (AC ad sz) := by
  refine zMet (cc := cX4_addVersion) (maxL := 4) (ret := (some .int)) (by decide) rfl (Nat.le_of_ble_eq_true rfl) ?_
  intro p e s m below meth c hx hb hr hts hown hlocks hml hB ls hl
  obtain ⟨⟨hP, hK, hN⟩, hsz⟩ := hB
  subst hsz
  have hS : va_S (AC ad s.heap.size) s.heap s.heap [] := va_S.rf
  have hA9 : ∀ q : Nat, s.heap.size ≤ q → AC ad s.heap.size q := fun q h => Or.inr h
  have hl : lv_has ls 4 [(0, .ref (ad 1)), (1, .int (nI i)), (2, .int x)] := hl
  have hk0 := hts (.fieldLink RX4 19 "DatamarketDesk$Shelf" "versions" "[I") (by decide +kernel)
  have hinX4 : ∀ w ∈ wsX40, w ∈ wsX4_addVersion := by decide +kernel
  have hk2 := hts (.fieldLink RX4 22 "DatamarketDesk$Shelf" "rows" "[I") (by decide +kernel)
  refine lv_aload_n hx hb dX4_addVersion_0 rfl (lv_at hl 0 rfl) ?_
  refine va_get hx hb hts hinX4 hown hK hP 1 rfl rfl 2 (by decide) (hk0) (fun _ h9 => h9) rfl dX4_addVersion_1 ?_
  refine lv_iload_n hx hb dX4_addVersion_4 rfl (lv_at hl 1 rfl) ?_
  refine zald hx hb hK hP 8 0 rfl rfl (i := i) (by omega) (by decide) dX4_addVersion_5 ?_
  have b_1 : nV g i < 7 := h8.2
  refine zeq (show g 8 i = nI (nV g i) from h8.1) ?_
  refine lv_istore_n (lv' := [(3, .int (nI (nV g i))), (0, .ref (ad 1)), (1, .int (nI i)), (2, .int x)]) hx hb dX4_addVersion_6 rfl hl (by decide) rfl (fun ls hl => ?_)
  refine lv_aload_n hx hb dX4_addVersion_7 rfl (lv_at hl 1 rfl) ?_
  refine va_get hx hb hts hinX4 hown hK hP 1 rfl rfl 3 (by decide) (hk2) (fun _ h9 => h9) rfl dX4_addVersion_8 ?_
  refine lv_iload_n hx hb dX4_addVersion_11 rfl (lv_at hl 2 rfl) ?_
  refine lv_iload_n hx hb dX4_addVersion_12 rfl (lv_at hl 0 rfl) ?_
  refine zcSNi (As := [.int (nI i), .int (nI (nV g i))]) (rest := [.ref (ad 9)]) ⟨hx, hb, hml, hown, hts⟩ (c_X5_versionAt l _ i (nV g i)) ⟨va_cnB 2 hts ggX4_addVersion_X5_versionAt rfl rfl rfl (hN _ (List.mem_of_getElem? (i := 36) rfl)) (hts (.initialized RX5) (by decide +kernel)) (by decide +kernel) ⟨Nat.le_of_ble_eq_true rfl, Nat.le_of_ble_eq_true rfl⟩, hts (.static yX5_versionAt) (by decide +kernel), trivial⟩ (B := fun _ => True) (fun _ _ _ _ _ => trivial) (fun _ _ _ => trivial) rfl hl.1 rfl (Nat.le_of_ble_eq_true rfl) dX4_addVersion_13 ⟨Nat.le_of_ble_eq_true rfl, Nat.le_of_ble_eq_true rfl⟩ (fun r_2 hr_2 => ?_)
  subst hr_2
  refine lv_iload_n hx hb dX4_addVersion_16 rfl (lv_at hl 3 rfl) ?_
  refine zast hx hb hK hP (zD hij) hS 9 0 rfl rfl (i := i * 6 + (nV g i)) (by omega) (by decide) dX4_addVersion_17 (fun H locs hP hS => ?_)
  obtain ⟨g_3, eg_3⟩ : ∃ z : Nat → Nat → Int32, z = va_up g 9 (upd (g 9) (i * 6 + (nV g i)) x) := ⟨_, rfl⟩
  have hP : va_P D vwCl (zC ty g_3 ad) H := by rw [eg_3]; exact hP
  refine lv_aload_n hx hb dX4_addVersion_18 rfl (lv_at hl 1 rfl) ?_
  refine va_get hx hb hts hinX4 hown hK hP 1 rfl rfl 2 (by decide) (hk0) (fun _ h9 => h9) rfl dX4_addVersion_19 ?_
  refine lv_iload_n hx hb dX4_addVersion_22 rfl (lv_at hl 2 rfl) ?_
  refine lv_dup2_11 hx hb dX4_addVersion_23 rfl rfl ?_
  refine zald hx hb hK hP 8 0 rfl rfl (i := i) (by omega) (by decide) dX4_addVersion_24 ?_
  have b_4 : nV g i < 7 := h8.2
  refine zeq (show g_3 8 i = nI (nV g i) from (by rw [eg_3]; exact h8.1)) ?_
  refine lv_iconst (v := nI 1) hx hb dX4_addVersion_25 (by decide) ?_
  refine lv_iadd hx hb dX4_addVersion_26 ?_
  refine zeq (nI_add (nV g i) 1) ?_
  refine zast hx hb hK hP (zD hij) hS 8 0 rfl rfl (i := i) (by omega) (by decide) dX4_addVersion_27 (fun H locs hP hS => ?_)
  obtain ⟨g_5, eg_5⟩ : ∃ z : Nat → Nat → Int32, z = va_up g_3 8 (upd (g_3 8) i (nI ((nV g i) + 1))) := ⟨_, rfl⟩
  have hP : va_P D vwCl (zC ty g_5 ad) H := by rw [eg_5]; exact hP
  refine lv_iload_n hx hb dX4_addVersion_28 rfl (lv_at hl 0 rfl) ?_
  exact W.iret (v := nI (nV g i)) hx hb hr (fun t ht hW => ⟨⟨_, g_5, rfl, ⟨rfl, by rw [eg_5, eg_3]; try rfl⟩, ⟨by rw [ht]; exact hP, va_K.moved hW.alike hK, hN.warm hW⟩⟩, hS.F ht⟩) hS.2.2 dX4_addVersion_29
set_option maxHeartbeats 4000000 in
set_option maxRecDepth 100000 in
theorem c_X3_add (l : Launch) (D : va_G) (ty : Nat → ClassId) (g : Nat → Nat → Int32) (ad : Nat → Nat) (sz : Nat) (hij : zIj ad) (n5 : Nat) (hn5 : g 5 0 = nI n5) (hn5c : n5 < 40) (a1 a2 a3 a4 a5 a6 a7 : Int32) : Met l yX3_add wsX3_add ({ frames := 4, cells := 0, slots := 0, locals := 88 }) (va_Pc [.ref (ad 5), .int a1, .int a2, .int a3, .int a4, .int a5, .int a6, .int a7] (fun U => zI D ty g ad U ∧ U.heap.size = sz)) (va_Qi (fun (v9 : Int32) (g2 : Nat → Nat → Int32) => v9 = nI n5 ∧ g2 = va_up (va_up (va_up (va_up (va_up (va_up (va_up (va_up (va_up g 36 (upd (g 36) n5 (tierN (sumN (fUn g a1 a7) n5)))) 29 (upd (g 29) n5 a1)) 30 (upd (g 30) n5 a2)) 31 (upd (g 31) n5 a3)) 32 (upd (g 32) n5 a4)) 33 (upd (g 33) n5 a5)) 34 (upd (g 34) n5 a6)) 35 (upd (g 35) n5 a7)) 5 (upd (g 5) 0 (nI (n5 + 1)))) (fun g2 t => zI D ty g2 ad t) (AC ad sz)) 0 0 (AC ad sz) := by
  refine zMet (cc := cX3_add) (maxL := 9) (ret := (some .int)) (by decide) rfl (Nat.le_of_ble_eq_true rfl) ?_
  intro p e s m below meth c hx hb hr hts hown hlocks hml hB ls hl
  obtain ⟨⟨hP, hK, hN⟩, hsz⟩ := hB
  subst hsz
  have hS : va_S (AC ad s.heap.size) s.heap s.heap [] := va_S.rf
  have hA9 : ∀ q : Nat, s.heap.size ≤ q → AC ad s.heap.size q := fun q h => Or.inr h
  have hn5b : n5 ≤ 40 := by omega
  have hl : lv_has ls 9 [(0, .ref (ad 5)), (1, .int a1), (2, .int a2), (3, .int a3), (4, .int a4), (5, .int a5), (6, .int a6), (7, .int a7)] := hl
  have hk0 := hts (.fieldLink RX3 9 "DatamarketDesk$Reads" "count" "I") (by decide +kernel)
  have hinX3 : ∀ w ∈ wsX30, w ∈ wsX3_add := by decide +kernel
  have hk2 := hts (.fieldLink RX3 37 "DatamarketDesk$Reads" "tiers" "[I") (by decide +kernel)
  have hk3 := hts (.fieldLink RX3 15 "DatamarketDesk$Reads" "readers" "[I") (by decide +kernel)
  have hk4 := hts (.fieldLink RX3 19 "DatamarketDesk$Reads" "sets" "[I") (by decide +kernel)
  have hk5 := hts (.fieldLink RX3 22 "DatamarketDesk$Reads" "versions" "[I") (by decide +kernel)
  have hk6 := hts (.fieldLink RX3 25 "DatamarketDesk$Reads" "fields" "[I") (by decide +kernel)
  have hk7 := hts (.fieldLink RX3 28 "DatamarketDesk$Reads" "rows" "[I") (by decide +kernel)
  have hk8 := hts (.fieldLink RX3 31 "DatamarketDesk$Reads" "purposes" "[I") (by decide +kernel)
  have hk9 := hts (.fieldLink RX3 34 "DatamarketDesk$Reads" "days" "[I") (by decide +kernel)
  refine lv_aload_n hx hb dX3_add_0 rfl (lv_at hl 0 rfl) ?_
  refine va_get hx hb hts hinX3 hown hK hP 5 rfl rfl 0 (by decide) (hk0) (fun _ h9 => h9) rfl dX3_add_1 ?_
  refine zeq (show g 5 0 = nI n5 from hn5) ?_
  refine lv_istore (lv' := [(8, .int (nI n5)), (0, .ref (ad 5)), (1, .int a1), (2, .int a2), (3, .int a3), (4, .int a4), (5, .int a5), (6, .int a6), (7, .int a7)]) hx hb dX3_add_4 hl (by decide) rfl (fun ls hl => ?_)
  refine lv_aload_n hx hb dX3_add_6 rfl (lv_at hl 1 rfl) ?_
  refine va_get hx hb hts hinX3 hown hK hP 5 rfl rfl 8 (by decide) (hk2) (fun _ h9 => h9) rfl dX3_add_7 ?_
  refine lv_iload hx hb dX3_add_10 (lv_at hl 0 rfl) ?_
  refine lv_aload_n hx hb dX3_add_12 rfl (lv_at hl 1 rfl) ?_
  refine lv_iload_n hx hb dX3_add_13 rfl (lv_at hl 2 rfl) ?_
  refine lv_iload hx hb dX3_add_14 (lv_at hl 8 rfl) ?_
  refine zcVi (As := [.int a1, .int a7]) (rest := [.int (nI n5), .ref (ad 36)]) ⟨hx, hb, hml, hown, hts⟩ (c_X3_tier l D ty g ad n5 hn5 hn5b a1 a7) (cwV 2 hts gX3_add_X3_tier rfl rfl rfl (by decide +kernel) ⟨Nat.le_of_ble_eq_true rfl, Nat.le_of_ble_eq_true rfl⟩) zI_blind (zI_pre hP hK hN) (va_recv hK hP (ci := 3) (q0 := 5) rfl rfl) rfl hl.1 rfl (Nat.le_of_ble_eq_true rfl) dX3_add_16 ⟨Nat.le_of_ble_eq_true rfl, Nat.le_of_ble_eq_true rfl⟩ (fun r_1 hr_1 => ?_)
  subst hr_1
  refine zast hx hb hK hP (zD hij) hS 36 0 rfl rfl (i := n5) (by omega) (by decide) dX3_add_19 (fun H locs hP hS => ?_)
  obtain ⟨g_2, eg_2⟩ : ∃ z : Nat → Nat → Int32, z = va_up g 36 (upd (g 36) n5 (tierN (sumN (fUn g a1 a7) n5))) := ⟨_, rfl⟩
  have hP : va_P D vwCl (zC ty g_2 ad) H := by rw [eg_2]; exact hP
  refine lv_aload_n hx hb dX3_add_20 rfl (lv_at hl 1 rfl) ?_
  refine va_get hx hb hts hinX3 hown hK hP 5 rfl rfl 1 (by decide) (hk3) (fun _ h9 => h9) rfl dX3_add_21 ?_
  refine lv_iload hx hb dX3_add_24 (lv_at hl 0 rfl) ?_
  refine lv_iload_n hx hb dX3_add_26 rfl (lv_at hl 2 rfl) ?_
  refine zast hx hb hK hP (zD hij) hS 29 0 rfl rfl (i := n5) (by omega) (by decide) dX3_add_27 (fun H locs hP hS => ?_)
  obtain ⟨g_3, eg_3⟩ : ∃ z : Nat → Nat → Int32, z = va_up g_2 29 (upd (g_2 29) n5 a1) := ⟨_, rfl⟩
  have hP : va_P D vwCl (zC ty g_3 ad) H := by rw [eg_3]; exact hP
  refine lv_aload_n hx hb dX3_add_28 rfl (lv_at hl 1 rfl) ?_
  refine va_get hx hb hts hinX3 hown hK hP 5 rfl rfl 2 (by decide) (hk4) (fun _ h9 => h9) rfl dX3_add_29 ?_
  refine lv_iload hx hb dX3_add_32 (lv_at hl 0 rfl) ?_
  refine lv_iload_n hx hb dX3_add_34 rfl (lv_at hl 3 rfl) ?_
  refine zast hx hb hK hP (zD hij) hS 30 0 rfl rfl (i := n5) (by omega) (by decide) dX3_add_35 (fun H locs hP hS => ?_)
  obtain ⟨g_4, eg_4⟩ : ∃ z : Nat → Nat → Int32, z = va_up g_3 30 (upd (g_3 30) n5 a2) := ⟨_, rfl⟩
  have hP : va_P D vwCl (zC ty g_4 ad) H := by rw [eg_4]; exact hP
  refine lv_aload_n hx hb dX3_add_36 rfl (lv_at hl 1 rfl) ?_
  refine va_get hx hb hts hinX3 hown hK hP 5 rfl rfl 3 (by decide) (hk5) (fun _ h9 => h9) rfl dX3_add_37 ?_
  refine lv_iload hx hb dX3_add_40 (lv_at hl 0 rfl) ?_
  refine lv_iload_n hx hb dX3_add_42 rfl (lv_at hl 4 rfl) ?_
  refine zast hx hb hK hP (zD hij) hS 31 0 rfl rfl (i := n5) (by omega) (by decide) dX3_add_43 (fun H locs hP hS => ?_)
  obtain ⟨g_5, eg_5⟩ : ∃ z : Nat → Nat → Int32, z = va_up g_4 31 (upd (g_4 31) n5 a3) := ⟨_, rfl⟩
  have hP : va_P D vwCl (zC ty g_5 ad) H := by rw [eg_5]; exact hP
  refine lv_aload_n hx hb dX3_add_44 rfl (lv_at hl 1 rfl) ?_
  refine va_get hx hb hts hinX3 hown hK hP 5 rfl rfl 4 (by decide) (hk6) (fun _ h9 => h9) rfl dX3_add_45 ?_
  refine lv_iload hx hb dX3_add_48 (lv_at hl 0 rfl) ?_
  refine lv_iload hx hb dX3_add_50 (lv_at hl 5 rfl) ?_
  refine zast hx hb hK hP (zD hij) hS 32 0 rfl rfl (i := n5) (by omega) (by decide) dX3_add_52 (fun H locs hP hS => ?_)
  obtain ⟨g_6, eg_6⟩ : ∃ z : Nat → Nat → Int32, z = va_up g_5 32 (upd (g_5 32) n5 a4) := ⟨_, rfl⟩
  have hP : va_P D vwCl (zC ty g_6 ad) H := by rw [eg_6]; exact hP
  refine lv_aload_n hx hb dX3_add_53 rfl (lv_at hl 1 rfl) ?_
  refine va_get hx hb hts hinX3 hown hK hP 5 rfl rfl 5 (by decide) (hk7) (fun _ h9 => h9) rfl dX3_add_54 ?_
  refine lv_iload hx hb dX3_add_57 (lv_at hl 0 rfl) ?_
  refine lv_iload hx hb dX3_add_59 (lv_at hl 6 rfl) ?_
  refine zast hx hb hK hP (zD hij) hS 33 0 rfl rfl (i := n5) (by omega) (by decide) dX3_add_61 (fun H locs hP hS => ?_)
  obtain ⟨g_7, eg_7⟩ : ∃ z : Nat → Nat → Int32, z = va_up g_6 33 (upd (g_6 33) n5 a5) := ⟨_, rfl⟩
  have hP : va_P D vwCl (zC ty g_7 ad) H := by rw [eg_7]; exact hP
  refine lv_aload_n hx hb dX3_add_62 rfl (lv_at hl 1 rfl) ?_
  refine va_get hx hb hts hinX3 hown hK hP 5 rfl rfl 6 (by decide) (hk8) (fun _ h9 => h9) rfl dX3_add_63 ?_
  refine lv_iload hx hb dX3_add_66 (lv_at hl 0 rfl) ?_
  refine lv_iload hx hb dX3_add_68 (lv_at hl 7 rfl) ?_
  refine zast hx hb hK hP (zD hij) hS 34 0 rfl rfl (i := n5) (by omega) (by decide) dX3_add_70 (fun H locs hP hS => ?_)
  obtain ⟨g_8, eg_8⟩ : ∃ z : Nat → Nat → Int32, z = va_up g_7 34 (upd (g_7 34) n5 a6) := ⟨_, rfl⟩
  have hP : va_P D vwCl (zC ty g_8 ad) H := by rw [eg_8]; exact hP
  refine lv_aload_n hx hb dX3_add_71 rfl (lv_at hl 1 rfl) ?_
  refine va_get hx hb hts hinX3 hown hK hP 5 rfl rfl 7 (by decide) (hk9) (fun _ h9 => h9) rfl dX3_add_72 ?_
  refine lv_iload hx hb dX3_add_75 (lv_at hl 0 rfl) ?_
  refine lv_iload hx hb dX3_add_77 (lv_at hl 8 rfl) ?_
  refine zast hx hb hK hP (zD hij) hS 35 0 rfl rfl (i := n5) (by omega) (by decide) dX3_add_79 (fun H locs hP hS => ?_)
  obtain ⟨g_9, eg_9⟩ : ∃ z : Nat → Nat → Int32, z = va_up g_8 35 (upd (g_8 35) n5 a7) := ⟨_, rfl⟩
  have hP : va_P D vwCl (zC ty g_9 ad) H := by rw [eg_9]; exact hP
  refine lv_aload_n hx hb dX3_add_80 rfl (lv_at hl 1 rfl) ?_
  refine lv_dup hx hb dX3_add_81 rfl ?_
  refine va_get hx hb hts hinX3 hown hK hP 5 rfl rfl 0 (by decide) (hk0) (fun _ h9 => h9) rfl dX3_add_82 ?_
  refine zeq (show g_9 5 0 = nI n5 from (by rw [eg_9, eg_8, eg_7, eg_6, eg_5, eg_4, eg_3, eg_2]; exact hn5)) ?_
  refine lv_iconst (v := nI 1) hx hb dX3_add_85 (by decide) ?_
  refine lv_iadd hx hb dX3_add_86 ?_
  refine zeq (nI_add n5 1) ?_
  refine va_put (ty := .int) hx hb hts hinX3 tyX3 tyX3_ok nmX3 hown hK hP (zD hij) hS 5 rfl rfl 0 (by decide) (hk0) (fun _ h9 => h9) rfl (by decide +kernel) rfl rfl (Nat.le_of_ble_eq_true rfl) dX3_add_87 (fun H locs hP _ hS => ?_)
  obtain ⟨g_10, eg_10⟩ : ∃ z : Nat → Nat → Int32, z = va_up g_9 5 (upd (g_9 5) 0 (nI (n5 + 1))) := ⟨_, rfl⟩
  have hP : va_P D vwCl (zC ty g_10 ad) H := by rw [eg_10]; exact hP
  refine lv_iload hx hb dX3_add_90 (lv_at hl 0 rfl) ?_
  exact W.iret (v := nI n5) hx hb hr (fun t ht hW => ⟨⟨_, g_10, rfl, ⟨rfl, by rw [eg_10, eg_9, eg_8, eg_7, eg_6, eg_5, eg_4, eg_3, eg_2]; try rfl⟩, ⟨by rw [ht]; exact hP, va_K.moved hW.alike hK, hN.warm hW⟩⟩, hS.F ht⟩) hS.2.2 dX3_add_92
set_option maxHeartbeats 4000000 in
set_option maxRecDepth 100000 in
theorem c_X3_settle (l : Launch) (D : va_G) (ty : Nat → ClassId) (g : Nat → Nat → Int32) (ad : Nat → Nat) (sz : Nat) (hij : zIj ad) (n5 : Nat) (hn5 : g 5 0 = nI n5) (hn5b : n5 ≤ 40) (hrd5 : ∀ r, r < n5 → nb (g 30 r) 8 ∧ nb (g 31 r) 6) (x : Int32) : Met l yX3_settle wsX3_settle ({ frames := 3, cells := 0, slots := 0, locals := 69 }) (va_Pc [.ref (ad 5), .int x, .ref (ad 21)] (fun U => zI D ty g ad U ∧ U.heap.size = sz)) (va_Qv (fun g2 : Nat → Nat → Int32 => g2 = va_up g 37 (bilN g x n5)) (fun g2 t => zI D ty g2 ad t) (AC ad sz)) 0 0 (AC ad sz) := by
  refine zMet (cc := cX3_settle) (maxL := 4) (ret := none) (by decide) rfl (Nat.le_of_ble_eq_true rfl) ?_
  intro p e s m below meth c hx hb hr hts hown hlocks hml hB ls hl
  obtain ⟨⟨hP, hK, hN⟩, hsz⟩ := hB
  subst hsz
  have hS : va_S (AC ad s.heap.size) s.heap s.heap [] := va_S.rf
  have hA9 : ∀ q : Nat, s.heap.size ≤ q → AC ad s.heap.size q := fun q h => Or.inr h
  have hl : lv_has ls 4 [(0, .ref (ad 5)), (1, .int x), (2, .ref (ad 21))] := hl
  have hk0 := hts (.fieldLink RX3 9 "DatamarketDesk$Reads" "count" "I") (by decide +kernel)
  have hinX3 : ∀ w ∈ wsX30, w ∈ wsX3_settle := by decide +kernel
  have hk2 := hts (.fieldLink RX3 40 "DatamarketDesk$Reads" "billed" "[I") (by decide +kernel)
  refine lv_iconst (v := nI 0) hx hb dX3_settle_0 (by decide) ?_
  refine lv_istore_n (lv' := [(3, .int (nI 0)), (0, .ref (ad 5)), (1, .int x), (2, .ref (ad 21))]) hx hb dX3_settle_1 rfl hl (by decide) rfl (fun ls hl => ?_)
  refine zloop (τ := Unit) (fun i _ ls H locs cells slots => cells = 0 ∧ slots = 0 ∧ lv_has ls 4 [(3, .int (nI i)), (0, .ref (ad 5)), (1, .int x), (2, .ref (ad 21))] ∧ va_P D vwCl (zC ty (va_up g 37 (bilN g x i)) ad) H ∧ va_S (AC ad s.heap.size) s.heap H locs) n5 ?_ 0 () ls _ _ _ _ (Nat.zero_le _) (⟨rfl, rfl, lv_sub hl [0, 1, 2, 3] rfl, (by rw [bilN_0, vu_self]; exact hP), hS⟩)
  intro i _ ls H locs cells slots hi_i hinv ih_i
  obtain ⟨rfl, rfl, hl, hP, hS⟩ := hinv
  obtain ⟨g_1, eg_1⟩ : ∃ z : Nat → Nat → Int32, z = va_up g 37 (bilN g x i) := ⟨_, rfl⟩
  rw [← eg_1] at hP
  have hl : lv_has ls 4 [(3, .int (nI i)), (0, .ref (ad 5)), (1, .int x), (2, .ref (ad 21))] := hl
  refine lv_iload_n hx hb dX3_settle_2 rfl (lv_at hl 0 rfl) ?_
  refine lv_aload_n hx hb dX3_settle_3 rfl (lv_at hl 1 rfl) ?_
  refine va_get hx hb hts hinX3 hown hK hP 5 rfl rfl 0 (by decide) (hk0) (fun _ h9 => h9) rfl dX3_settle_4 ?_
  refine zeq (show g_1 5 0 = nI n5 from (by rw [eg_1]; exact hn5)) ?_
  refine lv_icmp_ge (tgt := 38) hx hb dX3_settle_7 (by decide) (fun c_2 => ?_) (fun c_2 => ?_)
  · have c_2 := zn_geT (a := i) (b := n5) (by omega) (by omega) c_2
    obtain rfl : i = n5 := by omega
    exact W.vret hx hb hr (fun t ht hW => ⟨⟨g_1, rfl, by rw [eg_1], ⟨by rw [ht]; exact hP, va_K.moved hW.alike hK, hN.warm hW⟩⟩, hS.F ht⟩) hS.2.2 dX3_settle_38
  · have c_2 := zn_geF (a := i) (b := n5) (by omega) (by omega) c_2
    refine lv_aload_n hx hb dX3_settle_10 rfl (lv_at hl 1 rfl) ?_
    refine lv_iload_n hx hb dX3_settle_11 rfl (lv_at hl 0 rfl) ?_
    refine lv_iload_n hx hb dX3_settle_12 rfl (lv_at hl 2 rfl) ?_
    refine lv_iconst (v := -1) hx hb dX3_settle_13 (by decide) ?_
    refine zcVi (As := [.int (nI i), .int x, .int (-1)]) (rest := []) ⟨hx, hb, hml, hown, hts⟩ (c_X3_isOf l D ty g_1 ad i (by omega) x (-1)) (cwV 3 hts gX3_settle_X3_isOf rfl rfl rfl (by decide +kernel) ⟨Nat.le_of_ble_eq_true rfl, Nat.le_of_ble_eq_true rfl⟩) zI_blind (zI_pre hP hK hN) (va_recv hK hP (ci := 3) (q0 := 5) rfl rfl) rfl hl.1 rfl (Nat.le_of_ble_eq_true rfl) dX3_settle_14 ⟨Nat.le_of_ble_eq_true rfl, Nat.le_of_ble_eq_true rfl⟩ (fun r_3 hr_3 => ?_)
    subst hr_3
    refine lv_if_eq (tgt := 32) hx hb dX3_settle_17 (by decide) (fun c_4 => ?_) (fun c_4 => ?_)
    · have c_4 := bI_f c_4
      refine lv_iinc (v := nI (i + 1)) (lv' := [(3, .int (nI (i + 1))), (0, .ref (ad 5)), (1, .int x), (2, .ref (ad 21))]) hx hb dX3_settle_32 hl (k := 0) rfl (nI_add i 1) (by decide) rfl (fun ls hl => ?_)
      refine lv_goto (tgt := 2) hx hb dX3_settle_35 (by decide) ?_
      refine ih_i () ls _ _ _ _ (by omega) ⟨rfl, rfl, ?_, ?_, hS⟩
      · show lv_has ls 4 [(3, .int (nI (i + 1))), (0, .ref (ad 5)), (1, .int x), (2, .ref (ad 21))]
        exact lv_sub hl [0, 1, 2, 3] rfl
      · have e9 : g_1 = va_up g 37 (bilN g x ((i + 1))) := by rw [eg_1, ← bilN_n (by have q9 := c_4; rw [eg_1] at q9; exact q9)]
        rw [← e9]; exact hP
    · have c_4 := bI_t c_4
      refine lv_aload_n hx hb dX3_settle_20 rfl (lv_at hl 1 rfl) ?_
      refine va_get hx hb hts hinX3 hown hK hP 5 rfl rfl 9 (by decide) (hk2) (fun _ h9 => h9) rfl dX3_settle_21 ?_
      refine lv_iload_n hx hb dX3_settle_24 rfl (lv_at hl 0 rfl) ?_
      refine lv_aload_n hx hb dX3_settle_25 rfl (lv_at hl 1 rfl) ?_
      refine lv_iload_n hx hb dX3_settle_26 rfl (lv_at hl 0 rfl) ?_
      refine lv_aload_n hx hb dX3_settle_27 rfl (lv_at hl 3 rfl) ?_
      refine zcVi (As := [.int (nI i), .ref (ad 21)]) (rest := [.int (nI i), .ref (ad 37)]) ⟨hx, hb, hml, hown, hts⟩ (c_X3_worthOf_21 l D ty g_1 ad i n5 (by omega) (by omega) (by rw [eg_1]; exact hrd5)) (cwV 2 hts gX3_settle_X3_worthOf rfl rfl rfl (by decide +kernel) ⟨Nat.le_of_ble_eq_true rfl, Nat.le_of_ble_eq_true rfl⟩) zI_blind (zI_pre hP hK hN) (va_recv hK hP (ci := 3) (q0 := 5) rfl rfl) rfl hl.1 rfl (Nat.le_of_ble_eq_true rfl) dX3_settle_28 ⟨Nat.le_of_ble_eq_true rfl, Nat.le_of_ble_eq_true rfl⟩ (fun r_5 hr_5 => ?_)
      subst hr_5
      refine zast hx hb hK hP (zD hij) hS 37 0 rfl rfl (i := i) (by omega) (by decide) dX3_settle_31 (fun H locs hP hS => ?_)
      obtain ⟨g_6, eg_6⟩ : ∃ z : Nat → Nat → Int32, z = va_up g_1 37 (upd (g_1 37) i (chN g_1 i - crN g_1 21 i)) := ⟨_, rfl⟩
      have hP : va_P D vwCl (zC ty g_6 ad) H := by rw [eg_6]; exact hP
      refine lv_iinc (v := nI (i + 1)) (lv' := [(3, .int (nI (i + 1))), (0, .ref (ad 5)), (1, .int x), (2, .ref (ad 21))]) hx hb dX3_settle_32 hl (k := 0) rfl (nI_add i 1) (by decide) rfl (fun ls hl => ?_)
      refine lv_goto (tgt := 2) hx hb dX3_settle_35 (by decide) ?_
      refine ih_i () ls _ _ _ _ (by omega) ⟨rfl, rfl, ?_, ?_, hS⟩
      · show lv_has ls 4 [(3, .int (nI (i + 1))), (0, .ref (ad 5)), (1, .int x), (2, .ref (ad 21))]
        exact lv_sub hl [0, 1, 2, 3] rfl
      · have e9 : g_6 = va_up g 37 (bilN g x ((i + 1))) := by rw [eg_6, eg_1, ← bilN_y (by have q9 := c_4; rw [eg_1] at q9; exact q9)]; exact vu_2 _ _ _ _
        rw [← e9]; exact hP
