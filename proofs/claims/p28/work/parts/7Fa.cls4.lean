set_option maxHeartbeats 4000000 in
set_option maxRecDepth 100000 in
theorem c_X5_set (l : Launch) (D : va_G) (ty : Nat → ClassId) (g : Nat → Nat → Int32) (ad : Nat → Nat) (sz : Nat) (hij : zIj ad) (n1 n2 nL n4 n5 : Nat) (hI : dI g n1 n2 nL n4 n5) (k0 : Nat) (hk1 : 1 ≤ k0) (hk6 : k0 ≤ 6) (hn8 : n1 < 8) : Met l yX5_set wsX5_set ({ frames := 2, cells := 0, slots := 0, locals := 44 }) (va_Pc [.ref (ad 0), .int (nI k0)] (fun U => zI D ty g ad U ∧ U.heap.size = sz)) (va_Qi (fun (v9 : Int32) (g2 : Nat → Nat → Int32) => v9 = nI n1 ∧ g2 = setG g n1 k0) (fun g2 t => zI D ty g2 ad t) (AC ad sz)) 0 0 (AC ad sz) := by
  refine zMet (cc := cX5_set) (maxL := 2) (ret := (some .int)) (by decide) rfl (Nat.le_of_ble_eq_true rfl) ?_
  intro p e s m below meth c hx hb hr hts hown hlocks hml hB ls hl
  obtain ⟨⟨hP, hK, hN⟩, hsz⟩ := hB
  subst hsz
  have hS : va_S (AC ad s.heap.size) s.heap s.heap [] := va_S.rf
  have hA9 : ∀ q : Nat, s.heap.size ≤ q → AC ad s.heap.size q := fun q h => Or.inr h
  obtain ⟨⟨hn1, hn1b⟩, h78, ⟨hn2, hn2b⟩, h12, ⟨hnL, hnLb⟩, h15, ⟨hn4, hn4b⟩, ⟨hn5, hn5b⟩, hrd5, hd0⟩ := id hI
  have hl : lv_has ls 2 [(0, .ref (ad 0)), (1, .int (nI k0))] := hl
  have hk0 := hts (.fieldLink RX5 12 "DatamarketDesk" "shelf" "LDatamarketDesk$Shelf;") (by decide +kernel)
  have hinX5 : ∀ w ∈ wsX50, w ∈ wsX5_set := by decide +kernel
  have hinX4 : ∀ w ∈ wsX40, w ∈ wsX5_set := by decide +kernel
  refine lv_iload_n hx hb dX5_set_0 rfl (lv_at hl 1 rfl) ?_
  refine lv_iconst (v := nI 1) hx hb dX5_set_1 (by decide) ?_
  refine lv_icmp_lt (tgt := 11) hx hb dX5_set_2 (by decide) (fun c_1 => ?_) (fun c_1 => ?_)
  · have c_1 := zn_ltT (a := k0) (b := 1) (by omega) (by omega) c_1
    omega
  · have c_1 := zn_ltF (a := k0) (b := 1) (by omega) (by omega) c_1
    refine lv_iload_n hx hb dX5_set_5 rfl (lv_at hl 1 rfl) ?_
    refine lv_bipush (v := nI 6) hx hb dX5_set_6 (by decide) ?_
    refine lv_icmp_le (tgt := 21) hx hb dX5_set_8 (by decide) (fun c_2 => ?_) (fun c_2 => ?_)
    · have c_2 := zn_leT (a := k0) (b := 6) (by omega) (by omega) c_2
      refine lv_aload_n hx hb dX5_set_21 rfl (lv_at hl 0 rfl) ?_
      refine va_get hx hb hts hinX5 hown hK hP 0 rfl rfl 0 (by decide) (hk0) (fun _ h9 => h9) rfl dX5_set_22 ?_
      refine va_getN hx hb hts hinX4 hown hK hP 1 rfl rfl 0 (by decide) (zN.use hN (List.mem_of_getElem? (i := 1) rfl)) (fun _ h9 => h9) rfl dX5_set_25 ?_
      refine zeq (show g 1 0 = nI n1 from hn1) ?_
      refine lv_bipush (v := nI 8) hx hb dX5_set_28 (by decide) ?_
      refine lv_icmp_lt (tgt := 43) hx hb dX5_set_30 (by decide) (fun c_3 => ?_) (fun c_3 => ?_)
      · have c_3 := zn_ltT (a := n1) (b := 8) (by omega) (by omega) c_3
        refine lv_aload_n hx hb dX5_set_43 rfl (lv_at hl 0 rfl) ?_
        refine va_get hx hb hts hinX5 hown hK hP 0 rfl rfl 0 (by decide) (hk0) (fun _ h9 => h9) rfl dX5_set_44 ?_
        refine lv_iload_n hx hb dX5_set_47 rfl (lv_at hl 1 rfl) ?_
        have hFc : ∀ q, AC ad s.heap.size q → AC ad s.heap.size q := fun q h => h
        refine va_calli (va_runV (As := [.int (nI k0)]) (rest := []) ⟨hx, hb, hml, hown, hts⟩ (c_X4_addSet l D ty g ad s.heap.size hij n1 hn1 (by omega) k0 (by omega)) (cwV 1 hts gX5_set_X4_addSet rfl rfl rfl (by decide +kernel) ⟨Nat.le_of_ble_eq_true rfl, Nat.le_of_ble_eq_true rfl⟩) ⟨zBl (zW_blind), va_recv hK hP (ci := 4) (q0 := 1) rfl rfl, fun U h1 h2 => ⟨rfl, zI_pre hP hK hN U h1 h2, by rw [h1]⟩⟩ rfl rfl hl.1 rfl (lv_room (Nat.le_of_ble_eq_true rfl)) dX5_set_48 ⟨Nat.le_of_ble_eq_true rfl, Nat.le_of_ble_eq_true rfl⟩) hS (fun q _ h => hFc q h) hFc (fun r_5 g_4 t H locs ht hvm hw hB _ _ hS => ?_)
        obtain ⟨hr_5, eg_4⟩ := hw
        subst hr_5
        have hP : va_P D vwCl (zC ty g_4 ad) H := by rw [← ht]; exact hB.1
        exact W.iret (v := nI n1) hx hb hr (fun t ht hW => ⟨⟨_, g_4, rfl, ⟨rfl, by rw [eg_4]⟩, ⟨by rw [ht]; exact hP, va_K.moved hW.alike hK, hN.warm hW⟩⟩, hS.F ht⟩) hS.2.2 dX5_set_51
      · have c_3 := zn_ltF (a := n1) (b := 8) (by omega) (by omega) c_3
        omega
    · have c_2 := zn_leF (a := k0) (b := 6) (by omega) (by omega) c_2
      omega
set_option maxHeartbeats 4000000 in
set_option maxRecDepth 100000 in
theorem c_X5_terms (l : Launch) (D : va_G) (ty : Nat → ClassId) (g : Nat → Nat → Int32) (ad : Nat → Nat) (sz : Nat) (hij : zIj ad) (n1 n2 nL n4 n5 : Nat) (hI : dI g n1 n2 nL n4 n5) (i f : Nat) (hi : i < n1) (hf : f < nF g i) (pr ru : Int32) (hp1 : ¬ pr < nI 1) (hp2 : ¬ nI 99 < pr) (hr1 : ¬ ru < 0) (hr2 : ¬ nI 1000 < ru) : Met l yX5_terms wsX5_terms ({ frames := 3, cells := 0, slots := 0, locals := 64 }) (va_Pc [.ref (ad 0), .int (nI i), .int (nI f), .int pr, .int ru] (fun U => zI D ty g ad U ∧ U.heap.size = sz)) (va_Qi (fun (v9 : Int32) (g2 : Nat → Nat → Int32) => v9 = g 10 (i * 6 + f) ∧ g2 = va_up (va_up g 10 (upd (g 10) (i * 6 + f) pr)) 11 (upd (g 11) (i * 6 + f) ru)) (fun g2 t => zI D ty g2 ad t) (AC ad sz)) 0 0 (AC ad sz) := by
  refine zMet (cc := cX5_terms) (maxL := 7) (ret := (some .int)) (by decide) rfl (Nat.le_of_ble_eq_true rfl) ?_
  intro p e s m below meth c hx hb hr hts hown hlocks hml hB ls hl
  obtain ⟨⟨hP, hK, hN⟩, hsz⟩ := hB
  subst hsz
  have hS : va_S (AC ad s.heap.size) s.heap s.heap [] := va_S.rf
  have hA9 : ∀ q : Nat, s.heap.size ≤ q → AC ad s.heap.size q := fun q h => Or.inr h
  obtain ⟨⟨hn1, hn1b⟩, h78, ⟨hn2, hn2b⟩, h12, ⟨hnL, hnLb⟩, h15, ⟨hn4, hn4b⟩, ⟨hn5, hn5b⟩, hrd5, hd0⟩ := id hI
  have hq7 : nF g i < 7 := (h78 i hi).1.2
  have hq8 : nV g i < 7 := (h78 i hi).2.1.2
  have hl : lv_has ls 7 [(0, .ref (ad 0)), (1, .int (nI i)), (2, .int (nI f)), (3, .int pr), (4, .int ru)] := hl
  have hk0 := hts (.fieldLink RX5 12 "DatamarketDesk" "shelf" "LDatamarketDesk$Shelf;") (by decide +kernel)
  have hinX5 : ∀ w ∈ wsX50, w ∈ wsX5_terms := by decide +kernel
  have hinX4 : ∀ w ∈ wsX40, w ∈ wsX5_terms := by decide +kernel
  refine lv_aload_n hx hb dX5_terms_0 rfl (lv_at hl 0 rfl) ?_
  refine lv_iload_n hx hb dX5_terms_1 rfl (lv_at hl 1 rfl) ?_
  refine lv_iload_n hx hb dX5_terms_2 rfl (lv_at hl 2 rfl) ?_
  refine zcVv (As := [.int (nI i), .int (nI f)]) (rest := []) ⟨hx, hb, hml, hown, hts⟩ (c_X5_needField l D ty g ad n1 n2 nL n4 n5 hI i f (by omega) (by omega)) (cwV 2 hts gX5_terms_X5_needField rfl rfl rfl (by decide +kernel) ⟨Nat.le_of_ble_eq_true rfl, Nat.le_of_ble_eq_true rfl⟩) zI_blind (zI_pre hP hK hN) (va_recv hK hP (ci := 5) (q0 := 0) rfl rfl) rfl hl.1 rfl (Nat.le_of_ble_eq_true rfl) dX5_terms_3 ⟨Nat.le_of_ble_eq_true rfl, Nat.le_of_ble_eq_true rfl⟩ (fun _ => ?_)
  refine lv_iload_n hx hb dX5_terms_6 rfl (lv_at hl 3 rfl) ?_
  refine lv_iconst (v := nI 1) hx hb dX5_terms_7 (by decide) ?_
  refine lv_icmp_lt (tgt := 17) hx hb dX5_terms_8 (by decide) (fun c_2 => ?_) (fun c_2 => ?_)
  · exact absurd c_2 hp1
  · refine lv_iload_n hx hb dX5_terms_11 rfl (lv_at hl 3 rfl) ?_
    refine lv_bipush (v := nI 99) hx hb dX5_terms_12 (by decide) ?_
    refine lv_icmp_le (tgt := 27) hx hb dX5_terms_14 (by decide) (fun c_3 => ?_) (fun c_3 => ?_)
    · refine lv_iload hx hb dX5_terms_27 (lv_at hl 4 rfl) ?_
      refine lv_if_lt (tgt := 40) hx hb dX5_terms_29 (by decide) (fun c_4 => ?_) (fun c_4 => ?_)
      · exact absurd c_4 hr1
      · refine lv_iload hx hb dX5_terms_32 (lv_at hl 4 rfl) ?_
        refine lv_sipush (v := nI 1000) hx hb dX5_terms_34 (by decide) ?_
        refine lv_icmp_le (tgt := 50) hx hb dX5_terms_37 (by decide) (fun c_5 => ?_) (fun c_5 => ?_)
        · refine lv_iload_n hx hb dX5_terms_50 rfl (lv_at hl 1 rfl) ?_
          refine lv_iload_n hx hb dX5_terms_51 rfl (lv_at hl 2 rfl) ?_
          refine zcSi (As := [.int (nI i), .int (nI f)]) (rest := []) ⟨hx, hb, hml, hown, hts⟩ (c_X5_fieldAt l _ i f) (cwS 2 hts gX5_terms_X5_fieldAt rfl rfl rfl (by decide +kernel) ⟨Nat.le_of_ble_eq_true rfl, Nat.le_of_ble_eq_true rfl⟩) (B := fun _ => True) (fun _ _ _ _ _ => trivial) (fun _ _ _ => trivial) rfl hl.1 rfl (Nat.le_of_ble_eq_true rfl) dX5_terms_52 ⟨Nat.le_of_ble_eq_true rfl, Nat.le_of_ble_eq_true rfl⟩ (fun r_6 hr_6 => ?_)
          subst hr_6
          refine lv_istore (lv' := [(5, .int (nI (i * 6 + f))), (0, .ref (ad 0)), (1, .int (nI i)), (2, .int (nI f)), (3, .int pr), (4, .int ru)]) hx hb dX5_terms_55 hl (by decide) rfl (fun ls hl => ?_)
          refine lv_aload_n hx hb dX5_terms_57 rfl (lv_at hl 1 rfl) ?_
          refine va_get hx hb hts hinX5 hown hK hP 0 rfl rfl 0 (by decide) (hk0) (fun _ h9 => h9) rfl dX5_terms_58 ?_
          refine va_getN hx hb hts hinX4 hown hK hP 1 rfl rfl 4 (by decide) (zN.use hN (List.mem_of_getElem? (i := 4) rfl)) (fun _ h9 => h9) rfl dX5_terms_61 ?_
          refine lv_iload hx hb dX5_terms_64 (lv_at hl 0 rfl) ?_
          refine zald hx hb hK hP 10 0 rfl rfl (i := i * 6 + f) (by omega) (by decide) dX5_terms_66 ?_
          refine lv_istore (lv' := [(6, .int (g 10 (i * 6 + f))), (5, .int (nI (i * 6 + f))), (0, .ref (ad 0)), (1, .int (nI i)), (2, .int (nI f)), (3, .int pr), (4, .int ru)]) hx hb dX5_terms_67 hl (by decide) rfl (fun ls hl => ?_)
          refine lv_aload_n hx hb dX5_terms_69 rfl (lv_at hl 2 rfl) ?_
          refine va_get hx hb hts hinX5 hown hK hP 0 rfl rfl 0 (by decide) (hk0) (fun _ h9 => h9) rfl dX5_terms_70 ?_
          refine va_getN hx hb hts hinX4 hown hK hP 1 rfl rfl 4 (by decide) (zN.use hN (List.mem_of_getElem? (i := 4) rfl)) (fun _ h9 => h9) rfl dX5_terms_73 ?_
          refine lv_iload hx hb dX5_terms_76 (lv_at hl 1 rfl) ?_
          refine lv_iload_n hx hb dX5_terms_78 rfl (lv_at hl 5 rfl) ?_
          refine zast hx hb hK hP (zD hij) hS 10 0 rfl rfl (i := i * 6 + f) (by omega) (by decide) dX5_terms_79 (fun H locs hP hS => ?_)
          obtain ⟨g_7, eg_7⟩ : ∃ z : Nat → Nat → Int32, z = va_up g 10 (upd (g 10) (i * 6 + f) pr) := ⟨_, rfl⟩
          have hP : va_P D vwCl (zC ty g_7 ad) H := by rw [eg_7]; exact hP
          refine lv_aload_n hx hb dX5_terms_80 rfl (lv_at hl 2 rfl) ?_
          refine va_get hx hb hts hinX5 hown hK hP 0 rfl rfl 0 (by decide) (hk0) (fun _ h9 => h9) rfl dX5_terms_81 ?_
          refine va_getN hx hb hts hinX4 hown hK hP 1 rfl rfl 5 (by decide) (zN.use hN (List.mem_of_getElem? (i := 5) rfl)) (fun _ h9 => h9) rfl dX5_terms_84 ?_
          refine lv_iload hx hb dX5_terms_87 (lv_at hl 1 rfl) ?_
          refine lv_iload hx hb dX5_terms_89 (lv_at hl 6 rfl) ?_
          refine zast hx hb hK hP (zD hij) hS 11 0 rfl rfl (i := i * 6 + f) (by omega) (by decide) dX5_terms_91 (fun H locs hP hS => ?_)
          obtain ⟨g_8, eg_8⟩ : ∃ z : Nat → Nat → Int32, z = va_up g_7 11 (upd (g_7 11) (i * 6 + f) ru) := ⟨_, rfl⟩
          have hP : va_P D vwCl (zC ty g_8 ad) H := by rw [eg_8]; exact hP
          refine lv_iload hx hb dX5_terms_92 (lv_at hl 0 rfl) ?_
          exact W.iret (v := g 10 (i * 6 + f)) hx hb hr (fun t ht hW => ⟨⟨_, g_8, rfl, ⟨rfl, by rw [eg_8, eg_7]; try rfl⟩, ⟨by rw [ht]; exact hP, va_K.moved hW.alike hK, hN.warm hW⟩⟩, hS.F ht⟩) hS.2.2 dX5_terms_94
        · exact absurd (Int32.not_le.mp c_5) hr2
    · exact absurd (Int32.not_le.mp c_3) hp2
set_option maxHeartbeats 4000000 in
set_option maxRecDepth 100000 in
theorem c_X2_countS (l : Launch) (D : va_G) (ty : Nat → ClassId) (g : Nat → Nat → Int32) (ad : Nat → Nat) (m2 : Nat) (hm2 : g 2 0 = nI m2) (hm2b : m2 ≤ 20) (a0 : Nat) : Met l yX2_countSources wsX2_countSources ({ frames := 0, cells := 0, slots := 0, locals := 0 }) (va_Pc [.ref (ad 2), .int (nI a0)] (zI D ty g ad)) (vp_Si (fun v => v = sumN (fSrc g a0) m2)) 0 0 (fun _ => False) := by
  refine zMet (cc := cX2_countSources) (maxL := 4) (ret := (some .int)) (by decide) rfl (Nat.le_of_ble_eq_true rfl) ?_
  intro p e s m below meth c hx hb hr hts hown hlocks hml hB ls hl
  obtain ⟨hP, hK, hN⟩ := hB
  have hl : lv_has ls 4 [(0, .ref (ad 2)), (1, .int (nI a0))] := hl
  have hk0 := hts (.fieldLink RX2 9 "DatamarketDesk$Lineage" "sourceCount" "I") (by decide +kernel)
  have hinX2 : ∀ w ∈ wsX20, w ∈ wsX2_countSources := by decide +kernel
  have hk2 := hts (.fieldLink RX2 15 "DatamarketDesk$Lineage" "sourceChildren" "[I") (by decide +kernel)
  refine lv_iconst (v := nI 0) hx hb dX2_countSources_0 (by decide) ?_
  refine lv_istore_n (lv' := [(2, .int (nI 0)), (0, .ref (ad 2)), (1, .int (nI a0))]) hx hb dX2_countSources_1 rfl hl (by decide) rfl (fun ls hl => ?_)
  refine lv_iconst (v := nI 0) hx hb dX2_countSources_2 (by decide) ?_
  refine lv_istore_n (lv' := [(3, .int (nI 0)), (2, .int (nI 0)), (0, .ref (ad 2)), (1, .int (nI a0))]) hx hb dX2_countSources_3 rfl hl (by decide) rfl (fun ls hl => ?_)
  refine zloopP (τ := Unit) (fun i _ ls => lv_has ls 4 [(2, .int (sumN (fSrc g a0) i)), (3, .int (nI i)), (0, .ref (ad 2)), (1, .int (nI a0))]) m2 ?_ 0 () ls (Nat.zero_le _) (lv_sub hl [1, 0, 2, 3] rfl)
  intro i _ ls hi_i hl ih_i
  have hl : lv_has ls 4 [(2, .int (sumN (fSrc g a0) i)), (3, .int (nI i)), (0, .ref (ad 2)), (1, .int (nI a0))] := hl
  refine lv_iload_n hx hb dX2_countSources_4 rfl (lv_at hl 1 rfl) ?_
  refine lv_aload_n hx hb dX2_countSources_5 rfl (lv_at hl 2 rfl) ?_
  refine va_get hx hb hts hinX2 hown hK hP 2 rfl rfl 0 (by decide) (hk0) (fun _ h9 => h9) rfl dX2_countSources_6 ?_
  refine zeq hm2 ?_
  refine lv_icmp_ge (tgt := 31) hx hb dX2_countSources_9 (by decide) (fun c_1 => ?_) (fun c_1 => ?_)
  · have c_1 := zn_geT (a := i) (b := m2) (by omega) (by omega) c_1
    obtain rfl : i = m2 := by omega
    refine lv_iload_n hx hb dX2_countSources_31 rfl (lv_at hl 0 rfl) ?_
    exact W.iret (v := sumN (fSrc g a0) i) hx hb hr (fun t ht hW => ⟨_, rfl, rfl, ht⟩) (fun _ h => nomatch h) dX2_countSources_32
  · have c_1 := zn_geF (a := i) (b := m2) (by omega) (by omega) c_1
    refine lv_aload_n hx hb dX2_countSources_12 rfl (lv_at hl 2 rfl) ?_
    refine va_get hx hb hts hinX2 hown hK hP 2 rfl rfl 1 (by decide) (hk2) (fun _ h9 => h9) rfl dX2_countSources_13 ?_
    refine lv_iload_n hx hb dX2_countSources_16 rfl (lv_at hl 1 rfl) ?_
    refine zald hx hb hK hP 12 0 rfl rfl (i := i) (by omega) (by decide) dX2_countSources_17 ?_
    refine lv_iload_n hx hb dX2_countSources_18 rfl (lv_at hl 3 rfl) ?_
    refine lv_icmp_ne (tgt := 25) hx hb dX2_countSources_19 (by decide) (fun c_2 => ?_) (fun c_2 => ?_)
    · refine lv_iinc (v := nI (i + 1)) (lv' := [(3, .int (nI (i + 1))), (2, .int (sumN (fSrc g a0) i)), (0, .ref (ad 2)), (1, .int (nI a0))]) hx hb dX2_countSources_25 hl (k := 1) rfl (nI_add i 1) (by decide) rfl (fun ls hl => ?_)
      refine lv_goto (tgt := 4) hx hb dX2_countSources_28 (by decide) ?_
      refine ih_i () ls (by omega) (show lv_has ls 4 [(2, .int (sumN (fSrc g a0) (i + 1))), (3, .int (nI (i + 1))), (0, .ref (ad 2)), (1, .int (nI a0))] from ?_)
      rw [show sumN (fSrc g a0) (i + 1) = sumN (fSrc g a0) i from by simp_all [sumN_s, fSrc]]
      exact lv_sub hl [1, 0, 2, 3] rfl
    · refine lv_iinc (v := (sumN (fSrc g a0) i) + 1) (lv' := [(2, .int ((sumN (fSrc g a0) i) + 1)), (3, .int (nI i)), (0, .ref (ad 2)), (1, .int (nI a0))]) hx hb dX2_countSources_22 hl (k := 0) rfl (rfl) (by decide) rfl (fun ls hl => ?_)
      refine lv_iinc (v := nI (i + 1)) (lv' := [(3, .int (nI (i + 1))), (2, .int ((sumN (fSrc g a0) i) + 1)), (0, .ref (ad 2)), (1, .int (nI a0))]) hx hb dX2_countSources_25 hl (k := 1) rfl (nI_add i 1) (by decide) rfl (fun ls hl => ?_)
      refine lv_goto (tgt := 4) hx hb dX2_countSources_28 (by decide) ?_
      refine ih_i () ls (by omega) (show lv_has ls 4 [(2, .int (sumN (fSrc g a0) (i + 1))), (3, .int (nI (i + 1))), (0, .ref (ad 2)), (1, .int (nI a0))] from ?_)
      rw [show sumN (fSrc g a0) (i + 1) = (sumN (fSrc g a0) i) + 1 from by simp_all [sumN_s, fSrc]]
      exact lv_sub hl [1, 0, 2, 3] rfl
set_option maxHeartbeats 4000000 in
set_option maxRecDepth 100000 in
theorem c_X5_source_k (l : Launch) (D : va_G) (ty : Nat → ClassId) (g : Nat → Nat → Int32) (ad : Nat → Nat) (sz : Nat) (hij : zIj ad) (n1 n2 nL n4 n5 : Nat) (hI : dI g n1 n2 nL n4 n5) (i f i2 f2 : Nat) (hi : i < n1) (hf : f < nF g i) (hii : i2 < i) (hf2 : f2 < nF g i2) (sh : Int32) (hs1 : ¬ sh < nI 1) (hs2 : ¬ nI 100 < sh) (j0 : Nat) (hj0 : j0 < n2) (hj1 : g 12 j0 = nI (i * 6 + f) ∧ g 13 j0 = nI (i2 * 6 + f2)) (hj2 : ∀ j, j < j0 → ¬ (g 12 j = nI (i * 6 + f) ∧ g 13 j = nI (i2 * 6 + f2))) : Met l yX5_source wsX5_source ({ frames := 3, cells := 0, slots := 0, locals := 64 }) (va_Pc [.ref (ad 0), .int (nI i), .int (nI f), .int (nI i2), .int (nI f2), .int sh] (fun U => zI D ty g ad U ∧ U.heap.size = sz)) (va_Qi (fun (v9 : Int32) (g2 : Nat → Nat → Int32) => v9 = sumN (fSrc g (i * 6 + f)) n2 ∧ g2 = va_up g 14 (upd (g 14) j0 sh)) (fun g2 t => zI D ty g2 ad t) (AC ad sz)) 0 0 (AC ad sz) := by
  refine zMet (cc := cX5_source) (maxL := 9) (ret := (some .int)) (by decide) rfl (Nat.le_of_ble_eq_true rfl) ?_
  intro p e s m below meth c hx hb hr hts hown hlocks hml hB ls hl
  obtain ⟨⟨hP, hK, hN⟩, hsz⟩ := hB
  subst hsz
  have hS : va_S (AC ad s.heap.size) s.heap s.heap [] := va_S.rf
  have hA9 : ∀ q : Nat, s.heap.size ≤ q → AC ad s.heap.size q := fun q h => Or.inr h
  obtain ⟨⟨hn1, hn1b⟩, h78, ⟨hn2, hn2b⟩, h12, ⟨hnL, hnLb⟩, h15, ⟨hn4, hn4b⟩, ⟨hn5, hn5b⟩, hrd5, hd0⟩ := id hI
  have hq7 : nF g i < 7 := (h78 i hi).1.2
  have hq8 : nV g i < 7 := (h78 i hi).2.1.2
  have hi2 : i2 < n1 := by omega
  have hq72 : nF g i2 < 7 := (h78 i2 hi2).1.2
  have hl : lv_has ls 9 [(0, .ref (ad 0)), (1, .int (nI i)), (2, .int (nI f)), (3, .int (nI i2)), (4, .int (nI f2)), (5, .int sh)] := hl
  have hk0 := hts (.fieldLink RX5 19 "DatamarketDesk" "lineage" "LDatamarketDesk$Lineage;") (by decide +kernel)
  have hinX5 : ∀ w ∈ wsX50, w ∈ wsX5_source := by decide +kernel
  have hinX2 : ∀ w ∈ wsX20, w ∈ wsX5_source := by decide +kernel
  refine lv_aload_n hx hb dX5_source_0 rfl (lv_at hl 0 rfl) ?_
  refine lv_iload_n hx hb dX5_source_1 rfl (lv_at hl 1 rfl) ?_
  refine lv_iload_n hx hb dX5_source_2 rfl (lv_at hl 2 rfl) ?_
  refine zcVv (As := [.int (nI i), .int (nI f)]) (rest := []) ⟨hx, hb, hml, hown, hts⟩ (c_X5_needField l D ty g ad n1 n2 nL n4 n5 hI i f (by omega) (by omega)) (cwV 2 hts gX5_source_X5_needField rfl rfl rfl (by decide +kernel) ⟨Nat.le_of_ble_eq_true rfl, Nat.le_of_ble_eq_true rfl⟩) zI_blind (zI_pre hP hK hN) (va_recv hK hP (ci := 5) (q0 := 0) rfl rfl) rfl hl.1 rfl (Nat.le_of_ble_eq_true rfl) dX5_source_3 ⟨Nat.le_of_ble_eq_true rfl, Nat.le_of_ble_eq_true rfl⟩ (fun _ => ?_)
  refine lv_aload_n hx hb dX5_source_6 rfl (lv_at hl 0 rfl) ?_
  refine lv_iload_n hx hb dX5_source_7 rfl (lv_at hl 3 rfl) ?_
  refine lv_iload hx hb dX5_source_8 (lv_at hl 4 rfl) ?_
  refine zcVv (As := [.int (nI i2), .int (nI f2)]) (rest := []) ⟨hx, hb, hml, hown, hts⟩ (c_X5_needField l D ty g ad n1 n2 nL n4 n5 hI i2 f2 (by omega) (by omega)) (cwV 2 hts gX5_source_X5_needField rfl rfl rfl (by decide +kernel) ⟨Nat.le_of_ble_eq_true rfl, Nat.le_of_ble_eq_true rfl⟩) zI_blind (zI_pre hP hK hN) (va_recv hK hP (ci := 5) (q0 := 0) rfl rfl) rfl hl.1 rfl (Nat.le_of_ble_eq_true rfl) dX5_source_10 ⟨Nat.le_of_ble_eq_true rfl, Nat.le_of_ble_eq_true rfl⟩ (fun _ => ?_)
  refine lv_iload_n hx hb dX5_source_13 rfl (lv_at hl 3 rfl) ?_
  refine lv_iload_n hx hb dX5_source_14 rfl (lv_at hl 1 rfl) ?_
  refine lv_icmp_lt (tgt := 28) hx hb dX5_source_15 (by decide) (fun c_3 => ?_) (fun c_3 => ?_)
  · have c_3 := zn_ltT (a := i2) (b := i) (by omega) (by omega) c_3
    refine lv_iload hx hb dX5_source_28 (lv_at hl 5 rfl) ?_
    refine lv_iconst (v := nI 1) hx hb dX5_source_30 (by decide) ?_
    refine lv_icmp_lt (tgt := 41) hx hb dX5_source_31 (by decide) (fun c_4 => ?_) (fun c_4 => ?_)
    · exact absurd c_4 hs1
    · refine lv_iload hx hb dX5_source_34 (lv_at hl 5 rfl) ?_
      refine lv_bipush (v := nI 100) hx hb dX5_source_36 (by decide) ?_
      refine lv_icmp_le (tgt := 51) hx hb dX5_source_38 (by decide) (fun c_5 => ?_) (fun c_5 => ?_)
      · refine lv_iload_n hx hb dX5_source_51 rfl (lv_at hl 1 rfl) ?_
        refine lv_iload_n hx hb dX5_source_52 rfl (lv_at hl 2 rfl) ?_
        refine zcSi (As := [.int (nI i), .int (nI f)]) (rest := []) ⟨hx, hb, hml, hown, hts⟩ (c_X5_fieldAt l _ i f) (cwS 2 hts gX5_source_X5_fieldAt rfl rfl rfl (by decide +kernel) ⟨Nat.le_of_ble_eq_true rfl, Nat.le_of_ble_eq_true rfl⟩) (B := fun _ => True) (fun _ _ _ _ _ => trivial) (fun _ _ _ => trivial) rfl hl.1 rfl (Nat.le_of_ble_eq_true rfl) dX5_source_53 ⟨Nat.le_of_ble_eq_true rfl, Nat.le_of_ble_eq_true rfl⟩ (fun r_6 hr_6 => ?_)
        subst hr_6
        refine lv_istore (lv' := [(6, .int (nI (i * 6 + f))), (0, .ref (ad 0)), (1, .int (nI i)), (2, .int (nI f)), (3, .int (nI i2)), (4, .int (nI f2)), (5, .int sh)]) hx hb dX5_source_56 hl (by decide) rfl (fun ls hl => ?_)
        refine lv_iload_n hx hb dX5_source_58 rfl (lv_at hl 4 rfl) ?_
        refine lv_iload hx hb dX5_source_59 (lv_at hl 5 rfl) ?_
        refine zcSi (As := [.int (nI i2), .int (nI f2)]) (rest := []) ⟨hx, hb, hml, hown, hts⟩ (c_X5_fieldAt l _ i2 f2) (cwS 2 hts gX5_source_X5_fieldAt rfl rfl rfl (by decide +kernel) ⟨Nat.le_of_ble_eq_true rfl, Nat.le_of_ble_eq_true rfl⟩) (B := fun _ => True) (fun _ _ _ _ _ => trivial) (fun _ _ _ => trivial) rfl hl.1 rfl (Nat.le_of_ble_eq_true rfl) dX5_source_61 ⟨Nat.le_of_ble_eq_true rfl, Nat.le_of_ble_eq_true rfl⟩ (fun r_7 hr_7 => ?_)
        subst hr_7
        refine lv_istore (lv' := [(7, .int (nI (i2 * 6 + f2))), (6, .int (nI (i * 6 + f))), (0, .ref (ad 0)), (1, .int (nI i)), (2, .int (nI f)), (3, .int (nI i2)), (4, .int (nI f2)), (5, .int sh)]) hx hb dX5_source_64 hl (by decide) rfl (fun ls hl => ?_)
        refine lv_aload_n hx hb dX5_source_66 rfl (lv_at hl 2 rfl) ?_
        refine va_get hx hb hts hinX5 hown hK hP 0 rfl rfl 1 (by decide) (hk0) (fun _ h9 => h9) rfl dX5_source_67 ?_
        refine lv_iload hx hb dX5_source_70 (lv_at hl 1 rfl) ?_
        refine lv_iload hx hb dX5_source_72 (lv_at hl 0 rfl) ?_
        refine zcVi (As := [.int (nI (i * 6 + f)), .int (nI (i2 * 6 + f2))]) (rest := []) ⟨hx, hb, hml, hown, hts⟩ (c_X2_findSource_p l D ty g ad n1 n2 nL n4 n5 hI (i * 6 + f) (i2 * 6 + f2) j0 (by omega) (by omega) hj0 hj1 hj2) (cwV 2 hts gX5_source_X2_findSource rfl rfl rfl (by decide +kernel) ⟨Nat.le_of_ble_eq_true rfl, Nat.le_of_ble_eq_true rfl⟩) zI_blind (zI_pre hP hK hN) (va_recv hK hP (ci := 2) (q0 := 2) rfl rfl) rfl hl.1 rfl (Nat.le_of_ble_eq_true rfl) dX5_source_74 ⟨Nat.le_of_ble_eq_true rfl, Nat.le_of_ble_eq_true rfl⟩ (fun r_8 hr_8 => ?_)
        subst hr_8
        refine lv_istore (lv' := [(8, .int (nI j0)), (7, .int (nI (i2 * 6 + f2))), (6, .int (nI (i * 6 + f))), (0, .ref (ad 0)), (1, .int (nI i)), (2, .int (nI f)), (3, .int (nI i2)), (4, .int (nI f2)), (5, .int sh)]) hx hb dX5_source_77 hl (by decide) rfl (fun ls hl => ?_)
        refine lv_iload hx hb dX5_source_79 (lv_at hl 0 rfl) ?_
        refine lv_iconst (v := -1) hx hb dX5_source_81 (by decide) ?_
        refine lv_icmp_ne (tgt := 107) hx hb dX5_source_82 (by decide) (fun c_9 => ?_) (fun c_9 => ?_)
        · refine lv_iload hx hb dX5_source_107 (lv_at hl 0 rfl) ?_
          refine lv_iconst (v := -1) hx hb dX5_source_109 (by decide) ?_
          refine lv_icmp_ne (tgt := 129) hx hb dX5_source_110 (by decide) (fun c_10 => ?_) (fun c_10 => ?_)
          · refine lv_aload_n hx hb dX5_source_129 rfl (lv_at hl 3 rfl) ?_
            refine va_get hx hb hts hinX5 hown hK hP 0 rfl rfl 1 (by decide) (hk0) (fun _ h9 => h9) rfl dX5_source_130 ?_
            refine va_getN hx hb hts hinX2 hown hK hP 2 rfl rfl 3 (by decide) (zN.use hN (List.mem_of_getElem? (i := 8) rfl)) (fun _ h9 => h9) rfl dX5_source_133 ?_
            refine lv_iload hx hb dX5_source_136 (lv_at hl 0 rfl) ?_
            refine lv_iload hx hb dX5_source_138 (lv_at hl 8 rfl) ?_
            refine zast hx hb hK hP (zD hij) hS 14 0 rfl rfl (i := j0) (by omega) (by decide) dX5_source_140 (fun H locs hP hS => ?_)
            obtain ⟨g_11, eg_11⟩ : ∃ z : Nat → Nat → Int32, z = va_up g 14 (upd (g 14) j0 sh) := ⟨_, rfl⟩
            have hP : va_P D vwCl (zC ty g_11 ad) H := by rw [eg_11]; exact hP
            refine lv_aload_n hx hb dX5_source_141 rfl (lv_at hl 3 rfl) ?_
            refine va_get hx hb hts hinX5 hown hK hP 0 rfl rfl 1 (by decide) (hk0) (fun _ h9 => h9) rfl dX5_source_142 ?_
            refine lv_iload hx hb dX5_source_145 (lv_at hl 2 rfl) ?_
            refine zcVi (As := [.int (nI (i * 6 + f))]) (rest := []) ⟨hx, hb, hml, hown, hts⟩ (c_X2_countS l D ty g_11 ad n2 (by rw [eg_11]; exact hn2) hn2b (i * 6 + f)) (cwV 1 hts gX5_source_X2_countSources rfl rfl rfl (by decide +kernel) ⟨Nat.le_of_ble_eq_true rfl, Nat.le_of_ble_eq_true rfl⟩) zI_blind (zI_pre hP hK hN) (va_recv hK hP (ci := 2) (q0 := 2) rfl rfl) rfl hl.1 rfl (Nat.le_of_ble_eq_true rfl) dX5_source_147 ⟨Nat.le_of_ble_eq_true rfl, Nat.le_of_ble_eq_true rfl⟩ (fun r_12 hr_12 => ?_)
            subst hr_12
            exact W.iret (v := sumN (fSrc g_11 (i * 6 + f)) n2) hx hb hr (fun t ht hW => ⟨⟨_, g_11, rfl, ⟨by rw [eg_11]; rfl, by rw [eg_11]⟩, ⟨by rw [ht]; exact hP, va_K.moved hW.alike hK, hN.warm hW⟩⟩, hS.F ht⟩) hS.2.2 dX5_source_150
          · exact absurd c_10 (nI_ne_m1 (by omega))
        · exact absurd c_9 (nI_ne_m1 (by omega))
      · exact absurd (Int32.not_le.mp c_5) hs2
  · have c_3 := zn_ltF (a := i2) (b := i) (by omega) (by omega) c_3
    omega
set_option maxHeartbeats 4000000 in
set_option maxRecDepth 100000 in
theorem c_X5_source_n (l : Launch) (D : va_G) (ty : Nat → ClassId) (g : Nat → Nat → Int32) (ad : Nat → Nat) (sz : Nat) (hij : zIj ad) (n1 n2 nL n4 n5 : Nat) (hI : dI g n1 n2 nL n4 n5) (i f i2 f2 : Nat) (hi : i < n1) (hf : f < nF g i) (hii : i2 < i) (hf2 : f2 < nF g i2) (sh : Int32) (hs1 : ¬ sh < nI 1) (hs2 : ¬ nI 100 < sh) (hn20 : n2 < 20) (hj2 : ∀ j, j < n2 → ¬ (g 12 j = nI (i * 6 + f) ∧ g 13 j = nI (i2 * 6 + f2))) : Met l yX5_source wsX5_source ({ frames := 3, cells := 0, slots := 0, locals := 64 }) (va_Pc [.ref (ad 0), .int (nI i), .int (nI f), .int (nI i2), .int (nI f2), .int sh] (fun U => zI D ty g ad U ∧ U.heap.size = sz)) (va_Qi (fun (v9 : Int32) (g2 : Nat → Nat → Int32) => v9 = sumN (fSrc (srcG g n2 (i * 6 + f) (i2 * 6 + f2) sh) (i * 6 + f)) (n2 + 1) ∧ g2 = srcG g n2 (i * 6 + f) (i2 * 6 + f2) sh) (fun g2 t => zI D ty g2 ad t) (AC ad sz)) 0 0 (AC ad sz) := by
  refine zMet (cc := cX5_source) (maxL := 9) (ret := (some .int)) (by decide) rfl (Nat.le_of_ble_eq_true rfl) ?_
  intro p e s m below meth c hx hb hr hts hown hlocks hml hB ls hl
  obtain ⟨⟨hP, hK, hN⟩, hsz⟩ := hB
  subst hsz
  have hS : va_S (AC ad s.heap.size) s.heap s.heap [] := va_S.rf
  have hA9 : ∀ q : Nat, s.heap.size ≤ q → AC ad s.heap.size q := fun q h => Or.inr h
  obtain ⟨⟨hn1, hn1b⟩, h78, ⟨hn2, hn2b⟩, h12, ⟨hnL, hnLb⟩, h15, ⟨hn4, hn4b⟩, ⟨hn5, hn5b⟩, hrd5, hd0⟩ := id hI
  have hq7 : nF g i < 7 := (h78 i hi).1.2
  have hq8 : nV g i < 7 := (h78 i hi).2.1.2
  have hi2 : i2 < n1 := by omega
  have hq72 : nF g i2 < 7 := (h78 i2 hi2).1.2
  have hl : lv_has ls 9 [(0, .ref (ad 0)), (1, .int (nI i)), (2, .int (nI f)), (3, .int (nI i2)), (4, .int (nI f2)), (5, .int sh)] := hl
  have hk0 := hts (.fieldLink RX5 19 "DatamarketDesk" "lineage" "LDatamarketDesk$Lineage;") (by decide +kernel)
  have hinX5 : ∀ w ∈ wsX50, w ∈ wsX5_source := by decide +kernel
  have hinX2 : ∀ w ∈ wsX20, w ∈ wsX5_source := by decide +kernel
  refine lv_aload_n hx hb dX5_source_0 rfl (lv_at hl 0 rfl) ?_
  refine lv_iload_n hx hb dX5_source_1 rfl (lv_at hl 1 rfl) ?_
  refine lv_iload_n hx hb dX5_source_2 rfl (lv_at hl 2 rfl) ?_
  refine zcVv (As := [.int (nI i), .int (nI f)]) (rest := []) ⟨hx, hb, hml, hown, hts⟩ (c_X5_needField l D ty g ad n1 n2 nL n4 n5 hI i f (by omega) (by omega)) (cwV 2 hts gX5_source_X5_needField rfl rfl rfl (by decide +kernel) ⟨Nat.le_of_ble_eq_true rfl, Nat.le_of_ble_eq_true rfl⟩) zI_blind (zI_pre hP hK hN) (va_recv hK hP (ci := 5) (q0 := 0) rfl rfl) rfl hl.1 rfl (Nat.le_of_ble_eq_true rfl) dX5_source_3 ⟨Nat.le_of_ble_eq_true rfl, Nat.le_of_ble_eq_true rfl⟩ (fun _ => ?_)
  refine lv_aload_n hx hb dX5_source_6 rfl (lv_at hl 0 rfl) ?_
  refine lv_iload_n hx hb dX5_source_7 rfl (lv_at hl 3 rfl) ?_
  refine lv_iload hx hb dX5_source_8 (lv_at hl 4 rfl) ?_
  refine zcVv (As := [.int (nI i2), .int (nI f2)]) (rest := []) ⟨hx, hb, hml, hown, hts⟩ (c_X5_needField l D ty g ad n1 n2 nL n4 n5 hI i2 f2 (by omega) (by omega)) (cwV 2 hts gX5_source_X5_needField rfl rfl rfl (by decide +kernel) ⟨Nat.le_of_ble_eq_true rfl, Nat.le_of_ble_eq_true rfl⟩) zI_blind (zI_pre hP hK hN) (va_recv hK hP (ci := 5) (q0 := 0) rfl rfl) rfl hl.1 rfl (Nat.le_of_ble_eq_true rfl) dX5_source_10 ⟨Nat.le_of_ble_eq_true rfl, Nat.le_of_ble_eq_true rfl⟩ (fun _ => ?_)
  refine lv_iload_n hx hb dX5_source_13 rfl (lv_at hl 3 rfl) ?_
  refine lv_iload_n hx hb dX5_source_14 rfl (lv_at hl 1 rfl) ?_
  refine lv_icmp_lt (tgt := 28) hx hb dX5_source_15 (by decide) (fun c_3 => ?_) (fun c_3 => ?_)
  · have c_3 := zn_ltT (a := i2) (b := i) (by omega) (by omega) c_3
    refine lv_iload hx hb dX5_source_28 (lv_at hl 5 rfl) ?_
    refine lv_iconst (v := nI 1) hx hb dX5_source_30 (by decide) ?_
    refine lv_icmp_lt (tgt := 41) hx hb dX5_source_31 (by decide) (fun c_4 => ?_) (fun c_4 => ?_)
    · exact absurd c_4 hs1
    · refine lv_iload hx hb dX5_source_34 (lv_at hl 5 rfl) ?_
      refine lv_bipush (v := nI 100) hx hb dX5_source_36 (by decide) ?_
      refine lv_icmp_le (tgt := 51) hx hb dX5_source_38 (by decide) (fun c_5 => ?_) (fun c_5 => ?_)
      · refine lv_iload_n hx hb dX5_source_51 rfl (lv_at hl 1 rfl) ?_
        refine lv_iload_n hx hb dX5_source_52 rfl (lv_at hl 2 rfl) ?_
        refine zcSi (As := [.int (nI i), .int (nI f)]) (rest := []) ⟨hx, hb, hml, hown, hts⟩ (c_X5_fieldAt l _ i f) (cwS 2 hts gX5_source_X5_fieldAt rfl rfl rfl (by decide +kernel) ⟨Nat.le_of_ble_eq_true rfl, Nat.le_of_ble_eq_true rfl⟩) (B := fun _ => True) (fun _ _ _ _ _ => trivial) (fun _ _ _ => trivial) rfl hl.1 rfl (Nat.le_of_ble_eq_true rfl) dX5_source_53 ⟨Nat.le_of_ble_eq_true rfl, Nat.le_of_ble_eq_true rfl⟩ (fun r_6 hr_6 => ?_)
        subst hr_6
        refine lv_istore (lv' := [(6, .int (nI (i * 6 + f))), (0, .ref (ad 0)), (1, .int (nI i)), (2, .int (nI f)), (3, .int (nI i2)), (4, .int (nI f2)), (5, .int sh)]) hx hb dX5_source_56 hl (by decide) rfl (fun ls hl => ?_)
        refine lv_iload_n hx hb dX5_source_58 rfl (lv_at hl 4 rfl) ?_
        refine lv_iload hx hb dX5_source_59 (lv_at hl 5 rfl) ?_
        refine zcSi (As := [.int (nI i2), .int (nI f2)]) (rest := []) ⟨hx, hb, hml, hown, hts⟩ (c_X5_fieldAt l _ i2 f2) (cwS 2 hts gX5_source_X5_fieldAt rfl rfl rfl (by decide +kernel) ⟨Nat.le_of_ble_eq_true rfl, Nat.le_of_ble_eq_true rfl⟩) (B := fun _ => True) (fun _ _ _ _ _ => trivial) (fun _ _ _ => trivial) rfl hl.1 rfl (Nat.le_of_ble_eq_true rfl) dX5_source_61 ⟨Nat.le_of_ble_eq_true rfl, Nat.le_of_ble_eq_true rfl⟩ (fun r_7 hr_7 => ?_)
        subst hr_7
        refine lv_istore (lv' := [(7, .int (nI (i2 * 6 + f2))), (6, .int (nI (i * 6 + f))), (0, .ref (ad 0)), (1, .int (nI i)), (2, .int (nI f)), (3, .int (nI i2)), (4, .int (nI f2)), (5, .int sh)]) hx hb dX5_source_64 hl (by decide) rfl (fun ls hl => ?_)
        refine lv_aload_n hx hb dX5_source_66 rfl (lv_at hl 2 rfl) ?_
        refine va_get hx hb hts hinX5 hown hK hP 0 rfl rfl 1 (by decide) (hk0) (fun _ h9 => h9) rfl dX5_source_67 ?_
        refine lv_iload hx hb dX5_source_70 (lv_at hl 1 rfl) ?_
        refine lv_iload hx hb dX5_source_72 (lv_at hl 0 rfl) ?_
        refine zcVi (As := [.int (nI (i * 6 + f)), .int (nI (i2 * 6 + f2))]) (rest := []) ⟨hx, hb, hml, hown, hts⟩ (c_X2_findSource_n l D ty g ad n1 n2 nL n4 n5 hI (i * 6 + f) (i2 * 6 + f2) (by omega) (by omega) hj2) (cwV 2 hts gX5_source_X2_findSource rfl rfl rfl (by decide +kernel) ⟨Nat.le_of_ble_eq_true rfl, Nat.le_of_ble_eq_true rfl⟩) zI_blind (zI_pre hP hK hN) (va_recv hK hP (ci := 2) (q0 := 2) rfl rfl) rfl hl.1 rfl (Nat.le_of_ble_eq_true rfl) dX5_source_74 ⟨Nat.le_of_ble_eq_true rfl, Nat.le_of_ble_eq_true rfl⟩ (fun r_8 hr_8 => ?_)
        subst hr_8
        refine lv_istore (lv' := [(8, .int (-1)), (7, .int (nI (i2 * 6 + f2))), (6, .int (nI (i * 6 + f))), (0, .ref (ad 0)), (1, .int (nI i)), (2, .int (nI f)), (3, .int (nI i2)), (4, .int (nI f2)), (5, .int sh)]) hx hb dX5_source_77 hl (by decide) rfl (fun ls hl => ?_)
        refine lv_iload hx hb dX5_source_79 (lv_at hl 0 rfl) ?_
        refine lv_iconst (v := -1) hx hb dX5_source_81 (by decide) ?_
        refine lv_icmp_ne (tgt := 107) hx hb dX5_source_82 (by decide) (fun c_9 => ?_) (fun c_9 => ?_)
        · exact absurd rfl c_9
        · refine lv_aload_n hx hb dX5_source_85 rfl (lv_at hl 3 rfl) ?_
          refine va_get hx hb hts hinX5 hown hK hP 0 rfl rfl 1 (by decide) (hk0) (fun _ h9 => h9) rfl dX5_source_86 ?_
          refine va_getN hx hb hts hinX2 hown hK hP 2 rfl rfl 0 (by decide) (zN.use hN (List.mem_of_getElem? (i := 7) rfl)) (fun _ h9 => h9) rfl dX5_source_89 ?_
          refine zeq (show g 2 0 = nI n2 from hn2) ?_
          refine lv_bipush (v := nI 20) hx hb dX5_source_92 (by decide) ?_
          refine lv_icmp_lt (tgt := 107) hx hb dX5_source_94 (by decide) (fun c_10 => ?_) (fun c_10 => ?_)
          · have c_10 := zn_ltT (a := n2) (b := 20) (by omega) (by omega) c_10
            refine lv_iload hx hb dX5_source_107 (lv_at hl 0 rfl) ?_
            refine lv_iconst (v := -1) hx hb dX5_source_109 (by decide) ?_
            refine lv_icmp_ne (tgt := 129) hx hb dX5_source_110 (by decide) (fun c_11 => ?_) (fun c_11 => ?_)
            · exact absurd rfl c_11
            · refine lv_aload_n hx hb dX5_source_113 rfl (lv_at hl 3 rfl) ?_
              refine va_get hx hb hts hinX5 hown hK hP 0 rfl rfl 1 (by decide) (hk0) (fun _ h9 => h9) rfl dX5_source_114 ?_
              refine lv_iload hx hb dX5_source_117 (lv_at hl 2 rfl) ?_
              refine lv_iload hx hb dX5_source_119 (lv_at hl 1 rfl) ?_
              refine lv_iload hx hb dX5_source_121 (lv_at hl 8 rfl) ?_
              have hFc : ∀ q, AC ad s.heap.size q → AC ad s.heap.size q := fun q h => h
              refine va_callv (va_runV (As := [.int (nI (i * 6 + f)), .int (nI (i2 * 6 + f2)), .int sh]) (rest := []) ⟨hx, hb, hml, hown, hts⟩ (c_X2_addSource l D ty g ad s.heap.size hij n2 hn2 (by omega) (i * 6 + f) (i2 * 6 + f2) sh) (cwV 3 hts gX5_source_X2_addSource rfl rfl rfl (by decide +kernel) ⟨Nat.le_of_ble_eq_true rfl, Nat.le_of_ble_eq_true rfl⟩) ⟨zBl (zW_blind), va_recv hK hP (ci := 2) (q0 := 2) rfl rfl, fun U h1 h2 => ⟨rfl, zI_pre hP hK hN U h1 h2, by rw [h1]⟩⟩ rfl rfl hl.1 rfl (lv_room (Nat.le_of_ble_eq_true rfl)) dX5_source_123 ⟨Nat.le_of_ble_eq_true rfl, Nat.le_of_ble_eq_true rfl⟩) hS (fun q _ h => hFc q h) hFc (fun g_12 t H locs ht hvm hw hB _ _ hS => ?_)
              have eg_12 := hw
              have hP : va_P D vwCl (zC ty g_12 ad) H := by rw [← ht]; exact hB.1
              refine lv_goto (tgt := 141) hx hb dX5_source_126 (by decide) ?_
              refine lv_aload_n hx hb dX5_source_141 rfl (lv_at hl 3 rfl) ?_
              refine va_get hx hb hts hinX5 hown hK hP 0 rfl rfl 1 (by decide) (hk0) (fun _ h9 => h9) rfl dX5_source_142 ?_
              refine lv_iload hx hb dX5_source_145 (lv_at hl 2 rfl) ?_
              refine zcVi (As := [.int (nI (i * 6 + f))]) (rest := []) ⟨hx, hb, hml, hown, hts⟩ (c_X2_countS l D ty g_12 ad (n2 + 1) (by rw [eg_12]; rfl) (by omega) (i * 6 + f)) (cwV 1 hts gX5_source_X2_countSources rfl rfl rfl (by decide +kernel) ⟨Nat.le_of_ble_eq_true rfl, Nat.le_of_ble_eq_true rfl⟩) zI_blind (zI_pre hP hK hN) (va_recv hK hP (ci := 2) (q0 := 2) rfl rfl) rfl hl.1 rfl (Nat.le_of_ble_eq_true rfl) dX5_source_147 ⟨Nat.le_of_ble_eq_true rfl, Nat.le_of_ble_eq_true rfl⟩ (fun r_14 hr_14 => ?_)
              subst hr_14
              exact W.iret (v := sumN (fSrc g_12 (i * 6 + f)) (n2 + 1)) hx hb hr (fun t ht hW => ⟨⟨_, g_12, rfl, ⟨by rw [eg_12]; rfl, by rw [eg_12]; rfl⟩, ⟨by rw [ht]; exact hP, va_K.moved hW.alike hK, hN.warm hW⟩⟩, hS.F ht⟩) hS.2.2 dX5_source_150
          · have c_10 := zn_ltF (a := n2) (b := 20) (by omega) (by omega) c_10
            omega
      · exact absurd (Int32.not_le.mp c_5) hs2
  · have c_3 := zn_ltF (a := i2) (b := i) (by omega) (by omega) c_3
    omega
