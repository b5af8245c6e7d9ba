set_option maxHeartbeats 4000000 in
set_option maxRecDepth 100000 in
theorem c_X4_hasSet (l : Launch) (D : va_G) (ty : Nat → ClassId) (g : Nat → Nat → Int32) (ad : Nat → Nat) (n1 n2 nL n4 n5 : Nat) (hI : dI g n1 n2 nL n4 n5) (i : Nat) (hi : i < n1) : Met l yX4_hasSet wsX4_hasSet ({ frames := 0, cells := 0, slots := 0, locals := 0 }) (va_Pc [.ref (ad 1), .int (nI i)] (zI D ty g ad)) (vp_Si (fun v => v = bI true)) 0 0 (fun _ => False) := by
  refine zMet (cc := cX4_hasSet) (maxL := 2) (ret := (some .boolean)) (by decide) rfl (Nat.le_of_ble_eq_true rfl) ?_
  intro p e s m below meth c hx hb hr hts hown hlocks hml hB ls hl
  obtain ⟨hP, hK, hN⟩ := hB
  obtain ⟨⟨hn1, hn1b⟩, h78, ⟨hn2, hn2b⟩, h12, ⟨hnL, hnLb⟩, h15, ⟨hn4, hn4b⟩, ⟨hn5, hn5b⟩, hrd5, hd0⟩ := id hI
  have hq7 : nF g i < 7 := (h78 i hi).1.2
  have hq8 : nV g i < 7 := (h78 i hi).2.1.2
  have hl : lv_has ls 2 [(0, .ref (ad 1)), (1, .int (nI i))] := hl
  have hk0 := hts (.fieldLink RX4 9 "DatamarketDesk$Shelf" "setCount" "I") (by decide +kernel)
  have hinX4 : ∀ w ∈ wsX40, w ∈ wsX4_hasSet := by decide +kernel
  refine lv_iload_n hx hb dX4_hasSet_0 rfl (lv_at hl 1 rfl) ?_
  refine lv_if_lt (tgt := 16) hx hb dX4_hasSet_1 (by decide) (fun c_1 => ?_) (fun c_1 => ?_)
  · have c_1 := zq_ltT (x := i) (by omega) c_1
    exact c_1.elim
  · have c_1 := zq_ltF (x := i) (by omega) c_1
    refine lv_iload_n hx hb dX4_hasSet_4 rfl (lv_at hl 1 rfl) ?_
    refine lv_aload_n hx hb dX4_hasSet_5 rfl (lv_at hl 0 rfl) ?_
    refine va_get hx hb hts hinX4 hown hK hP 1 rfl rfl 0 (by decide) (hk0) (fun _ h9 => h9) rfl dX4_hasSet_6 ?_
    refine zeq hn1 ?_
    refine lv_icmp_ge (tgt := 16) hx hb dX4_hasSet_9 (by decide) (fun c_2 => ?_) (fun c_2 => ?_)
    · have c_2 := zn_geT (a := i) (b := n1) (by omega) (by omega) c_2
      omega
    · have c_2 := zn_geF (a := i) (b := n1) (by omega) (by omega) c_2
      refine lv_iconst (v := nI 1) hx hb dX4_hasSet_12 (by decide) ?_
      refine lv_goto (tgt := 17) hx hb dX4_hasSet_13 (by decide) ?_
      exact W.zret (v := nI 1) hx hb hr rfl (fun t ht hW => ⟨_, rfl, rfl, ht⟩) (fun _ h => nomatch h) dX4_hasSet_17
set_option maxHeartbeats 4000000 in
set_option maxRecDepth 100000 in
theorem c_X4_allFields (l : Launch) (D : va_G) (ty : Nat → ClassId) (g : Nat → Nat → Int32) (ad : Nat → Nat) (n1 n2 nL n4 n5 : Nat) (hI : dI g n1 n2 nL n4 n5) (i : Nat) (hi : i < n1) : Met l yX4_allFields wsX4_allFields ({ frames := 0, cells := 0, slots := 0, locals := 0 }) (va_Pc [.ref (ad 1), .int (nI i)] (zI D ty g ad)) (vp_Si (fun v => v = allF g i)) 0 0 (fun _ => False) := by
  refine zMet (cc := cX4_allFields) (maxL := 2) (ret := (some .int)) (by decide) rfl (Nat.le_of_ble_eq_true rfl) ?_
  intro p e s m below meth c hx hb hr hts hown hlocks hml hB ls hl
  obtain ⟨hP, hK, hN⟩ := hB
  obtain ⟨⟨hn1, hn1b⟩, h78, ⟨hn2, hn2b⟩, h12, ⟨hnL, hnLb⟩, h15, ⟨hn4, hn4b⟩, ⟨hn5, hn5b⟩, hrd5, hd0⟩ := id hI
  have hq7 : nF g i < 7 := (h78 i hi).1.2
  have hq8 : nV g i < 7 := (h78 i hi).2.1.2
  have hl : lv_has ls 2 [(0, .ref (ad 1)), (1, .int (nI i))] := hl
  have hk0 := hts (.fieldLink RX4 15 "DatamarketDesk$Shelf" "fields" "[I") (by decide +kernel)
  have hinX4 : ∀ w ∈ wsX40, w ∈ wsX4_allFields := by decide +kernel
  refine lv_iconst (v := nI 1) hx hb dX4_allFields_0 (by decide) ?_
  refine lv_aload_n hx hb dX4_allFields_1 rfl (lv_at hl 0 rfl) ?_
  refine va_get hx hb hts hinX4 hown hK hP 1 rfl rfl 1 (by decide) (hk0) (fun _ h9 => h9) rfl dX4_allFields_2 ?_
  refine lv_iload_n hx hb dX4_allFields_5 rfl (lv_at hl 1 rfl) ?_
  refine zald hx hb hK hP 7 0 rfl rfl (i := i) (by omega) (by decide) dX4_allFields_6 ?_
  have b_1 : nF g i < 7 := (h78 _ (by omega)).1.2
  refine zeq (show g 7 i = nI (nF g i) from (h78 _ (by omega)).1.1) ?_
  refine lv_ishl hx hb dX4_allFields_7 ?_
  refine lv_iconst (v := nI 1) hx hb dX4_allFields_8 (by decide) ?_
  refine lv_isub hx hb dX4_allFields_9 ?_
  exact W.iret (v := ((nI 1) <<< ((nI (nF g i)) &&& 31)) - (nI 1)) hx hb hr (fun t ht hW => ⟨_, rfl, rfl, ht⟩) (fun _ h => nomatch h) dX4_allFields_10
set_option maxHeartbeats 4000000 in
set_option maxRecDepth 100000 in
theorem c_X4_latestVersion_0 (l : Launch) (D : va_G) (ty : Nat → ClassId) (g : Nat → Nat → Int32) (ad : Nat → Nat) (i : Nat) (hi : i < 8) (h8 : nb (g 8 i) 7) (h0 : nV g i = 0) : Met l yX4_latestVersion wsX4_latestVersion ({ frames := 0, cells := 0, slots := 0, locals := 0 }) (va_Pc [.ref (ad 1), .int (nI i)] (zI D ty g ad)) (vp_Si (fun v => v = -1)) 0 0 (fun _ => False) := by
  refine zMet (cc := cX4_latestVersion) (maxL := 2) (ret := (some .int)) (by decide) rfl (Nat.le_of_ble_eq_true rfl) ?_
  intro p e s m below meth c hx hb hr hts hown hlocks hml hB ls hl
  obtain ⟨hP, hK, hN⟩ := hB
  have hl : lv_has ls 2 [(0, .ref (ad 1)), (1, .int (nI i))] := hl
  have hk0 := hts (.fieldLink RX4 19 "DatamarketDesk$Shelf" "versions" "[I") (by decide +kernel)
  have hinX4 : ∀ w ∈ wsX40, w ∈ wsX4_latestVersion := by decide +kernel
  refine lv_aload_n hx hb dX4_latestVersion_0 rfl (lv_at hl 0 rfl) ?_
  refine va_get hx hb hts hinX4 hown hK hP 1 rfl rfl 2 (by decide) (hk0) (fun _ h9 => h9) rfl dX4_latestVersion_1 ?_
  refine lv_iload_n hx hb dX4_latestVersion_4 rfl (lv_at hl 1 rfl) ?_
  refine zald hx hb hK hP 8 0 rfl rfl (i := i) (by omega) (by decide) dX4_latestVersion_5 ?_
  have b_1 : nV g i < 7 := h8.2
  refine zeq (show g 8 i = nI (nV g i) from h8.1) ?_
  refine lv_if_le (tgt := 20) hx hb dX4_latestVersion_6 (by decide) (fun c_2 => ?_) (fun c_2 => ?_)
  · have c_2 := zq_leT (x := (nV g i)) (by omega) c_2
    refine lv_iconst (v := -1) hx hb dX4_latestVersion_20 (by decide) ?_
    exact W.iret (v := (-1)) hx hb hr (fun t ht hW => ⟨_, rfl, rfl, ht⟩) (fun _ h => nomatch h) dX4_latestVersion_21
  · have c_2 := zq_leF (x := (nV g i)) (by omega) c_2
    omega
set_option maxHeartbeats 4000000 in
set_option maxRecDepth 100000 in
theorem c_X4_latestVersion_p (l : Launch) (D : va_G) (ty : Nat → ClassId) (g : Nat → Nat → Int32) (ad : Nat → Nat) (i : Nat) (hi : i < 8) (h8 : nb (g 8 i) 7) (h0 : 0 < nV g i) : Met l yX4_latestVersion wsX4_latestVersion ({ frames := 0, cells := 0, slots := 0, locals := 0 }) (va_Pc [.ref (ad 1), .int (nI i)] (zI D ty g ad)) (vp_Si (fun v => v = nI (nV g i - 1))) 0 0 (fun _ => False) := by
  refine zMet (cc := cX4_latestVersion) (maxL := 2) (ret := (some .int)) (by decide) rfl (Nat.le_of_ble_eq_true rfl) ?_
  intro p e s m below meth c hx hb hr hts hown hlocks hml hB ls hl
  obtain ⟨hP, hK, hN⟩ := hB
  have hl : lv_has ls 2 [(0, .ref (ad 1)), (1, .int (nI i))] := hl
  have hk0 := hts (.fieldLink RX4 19 "DatamarketDesk$Shelf" "versions" "[I") (by decide +kernel)
  have hinX4 : ∀ w ∈ wsX40, w ∈ wsX4_latestVersion := by decide +kernel
  refine lv_aload_n hx hb dX4_latestVersion_0 rfl (lv_at hl 0 rfl) ?_
  refine va_get hx hb hts hinX4 hown hK hP 1 rfl rfl 2 (by decide) (hk0) (fun _ h9 => h9) rfl dX4_latestVersion_1 ?_
  refine lv_iload_n hx hb dX4_latestVersion_4 rfl (lv_at hl 1 rfl) ?_
  refine zald hx hb hK hP 8 0 rfl rfl (i := i) (by omega) (by decide) dX4_latestVersion_5 ?_
  have b_1 : nV g i < 7 := h8.2
  refine zeq (show g 8 i = nI (nV g i) from h8.1) ?_
  refine lv_if_le (tgt := 20) hx hb dX4_latestVersion_6 (by decide) (fun c_2 => ?_) (fun c_2 => ?_)
  · have c_2 := zq_leT (x := (nV g i)) (by omega) c_2
    omega
  · have c_2 := zq_leF (x := (nV g i)) (by omega) c_2
    refine lv_aload_n hx hb dX4_latestVersion_9 rfl (lv_at hl 0 rfl) ?_
    refine va_get hx hb hts hinX4 hown hK hP 1 rfl rfl 2 (by decide) (hk0) (fun _ h9 => h9) rfl dX4_latestVersion_10 ?_
    refine lv_iload_n hx hb dX4_latestVersion_13 rfl (lv_at hl 1 rfl) ?_
    refine zald hx hb hK hP 8 0 rfl rfl (i := i) (by omega) (by decide) dX4_latestVersion_14 ?_
    have b_3 : nV g i < 7 := h8.2
    refine zeq (show g 8 i = nI (nV g i) from h8.1) ?_
    refine lv_iconst (v := nI 1) hx hb dX4_latestVersion_15 (by decide) ?_
    refine lv_isub hx hb dX4_latestVersion_16 ?_
    refine zeq (pk_sub (a := (nV g i)) (b := 1) (by omega)) ?_
    refine lv_goto (tgt := 21) hx hb dX4_latestVersion_17 (by decide) ?_
    exact W.iret (v := nI ((nV g i) - 1)) hx hb hr (fun t ht hW => ⟨_, rfl, rfl, ht⟩) (fun _ h => nomatch h) dX4_latestVersion_21
set_option maxHeartbeats 4000000 in
set_option maxRecDepth 100000 in
theorem c_X4_latestRows (l : Launch) (D : va_G) (ty : Nat → ClassId) (g : Nat → Nat → Int32) (ad : Nat → Nat) (n1 n2 nL n4 n5 : Nat) (hI : dI g n1 n2 nL n4 n5) (i : Nat) (hi : i < n1) : Met l yX4_latestRows wsX4_latestRows ({ frames := 1, cells := 0, slots := 0, locals := 21 }) (va_Pc [.ref (ad 1), .int (nI i)] (zI D ty g ad)) (vp_Si (fun v => v = rowsL g i)) 0 0 (fun _ => False) := by
  refine zMet (cc := cX4_latestRows) (maxL := 3) (ret := (some .int)) (by decide) rfl (Nat.le_of_ble_eq_true rfl) ?_
  intro p e s m below meth c hx hb hr hts hown hlocks hml hB ls hl
  obtain ⟨hP, hK, hN⟩ := hB
  obtain ⟨⟨hn1, hn1b⟩, h78, ⟨hn2, hn2b⟩, h12, ⟨hnL, hnLb⟩, h15, ⟨hn4, hn4b⟩, ⟨hn5, hn5b⟩, hrd5, hd0⟩ := id hI
  have hq7 : nF g i < 7 := (h78 i hi).1.2
  have hq8 : nV g i < 7 := (h78 i hi).2.1.2
  have hl : lv_has ls 3 [(0, .ref (ad 1)), (1, .int (nI i))] := hl
  have hk0 := hts (.fieldLink RX4 22 "DatamarketDesk$Shelf" "rows" "[I") (by decide +kernel)
  have hinX4 : ∀ w ∈ wsX40, w ∈ wsX4_latestRows := by decide +kernel
  rcases Nat.eq_zero_or_pos (nV g i) with hv0 | hv0
  · refine lv_aload_n hx hb dX4_latestRows_0 rfl (lv_at hl 0 rfl) ?_
    refine lv_iload_n hx hb dX4_latestRows_1 rfl (lv_at hl 1 rfl) ?_
    refine zcVi (As := [.int (nI i)]) (rest := []) ⟨hx, hb, hml, hown, hts⟩ (c_X4_latestVersion_0 l D ty g ad i (by omega) (h78 _ (by omega)).2.1 hv0) (cwV 1 hts gX4_latestRows_X4_latestVersion rfl rfl rfl (by decide +kernel) ⟨Nat.le_of_ble_eq_true rfl, Nat.le_of_ble_eq_true rfl⟩) zI_blind (zI_pre hP hK hN) (va_recv hK hP (ci := 4) (q0 := 1) rfl rfl) rfl hl.1 rfl (Nat.le_of_ble_eq_true rfl) dX4_latestRows_2 ⟨Nat.le_of_ble_eq_true rfl, Nat.le_of_ble_eq_true rfl⟩ (fun r_1 hr_1 => ?_)
    subst hr_1
    refine lv_istore_n (lv' := [(2, .int (-1)), (0, .ref (ad 1)), (1, .int (nI i))]) hx hb dX4_latestRows_5 rfl hl (by decide) rfl (fun ls hl => ?_)
    refine lv_iload_n hx hb dX4_latestRows_6 rfl (lv_at hl 0 rfl) ?_
    refine lv_iconst (v := -1) hx hb dX4_latestRows_7 (by decide) ?_
    refine lv_icmp_ne (tgt := 15) hx hb dX4_latestRows_8 (by decide) (fun c_2 => ?_) (fun c_2 => ?_)
    · exact absurd rfl c_2
    · refine lv_iconst (v := nI 0) hx hb dX4_latestRows_11 (by decide) ?_
      refine lv_goto (tgt := 25) hx hb dX4_latestRows_12 (by decide) ?_
      exact W.iret (v := nI 0) hx hb hr (fun t ht hW => ⟨_, rfl, by simp only [rowsL, if_pos hv0], ht⟩) (fun _ h => nomatch h) dX4_latestRows_25
  · refine lv_aload_n hx hb dX4_latestRows_0 rfl (lv_at hl 0 rfl) ?_
    refine lv_iload_n hx hb dX4_latestRows_1 rfl (lv_at hl 1 rfl) ?_
    refine zcVi (As := [.int (nI i)]) (rest := []) ⟨hx, hb, hml, hown, hts⟩ (c_X4_latestVersion_p l D ty g ad i (by omega) (h78 _ (by omega)).2.1 hv0) (cwV 1 hts gX4_latestRows_X4_latestVersion rfl rfl rfl (by decide +kernel) ⟨Nat.le_of_ble_eq_true rfl, Nat.le_of_ble_eq_true rfl⟩) zI_blind (zI_pre hP hK hN) (va_recv hK hP (ci := 4) (q0 := 1) rfl rfl) rfl hl.1 rfl (Nat.le_of_ble_eq_true rfl) dX4_latestRows_2 ⟨Nat.le_of_ble_eq_true rfl, Nat.le_of_ble_eq_true rfl⟩ (fun r_3 hr_3 => ?_)
    subst hr_3
    refine lv_istore_n (lv' := [(2, .int (nI (nV g i - 1))), (0, .ref (ad 1)), (1, .int (nI i))]) hx hb dX4_latestRows_5 rfl hl (by decide) rfl (fun ls hl => ?_)
    refine lv_iload_n hx hb dX4_latestRows_6 rfl (lv_at hl 0 rfl) ?_
    refine lv_iconst (v := -1) hx hb dX4_latestRows_7 (by decide) ?_
    refine lv_icmp_ne (tgt := 15) hx hb dX4_latestRows_8 (by decide) (fun c_4 => ?_) (fun c_4 => ?_)
    · refine lv_aload_n hx hb dX4_latestRows_15 rfl (lv_at hl 1 rfl) ?_
      refine va_get hx hb hts hinX4 hown hK hP 1 rfl rfl 3 (by decide) (hk0) (fun _ h9 => h9) rfl dX4_latestRows_16 ?_
      refine lv_iload_n hx hb dX4_latestRows_19 rfl (lv_at hl 2 rfl) ?_
      refine lv_iload_n hx hb dX4_latestRows_20 rfl (lv_at hl 0 rfl) ?_
      refine zcSNi (As := [.int (nI i), .int (nI (nV g i - 1))]) (rest := [.ref (ad 9)]) ⟨hx, hb, hml, hown, hts⟩ (c_X5_versionAt l _ i (nV g i - 1)) ⟨va_cnB 2 hts ggX4_latestRows_X5_versionAt rfl rfl rfl (hN _ (List.mem_of_getElem? (i := 36) rfl)) (hts (.initialized RX5) (by decide +kernel)) (by decide +kernel) ⟨Nat.le_of_ble_eq_true rfl, Nat.le_of_ble_eq_true rfl⟩, hts (.static yX5_versionAt) (by decide +kernel), trivial⟩ (B := fun _ => True) (fun _ _ _ _ _ => trivial) (fun _ _ _ => trivial) rfl hl.1 rfl (Nat.le_of_ble_eq_true rfl) dX4_latestRows_21 ⟨Nat.le_of_ble_eq_true rfl, Nat.le_of_ble_eq_true rfl⟩ (fun r_5 hr_5 => ?_)
      subst hr_5
      refine zald hx hb hK hP 9 0 rfl rfl (i := i * 6 + (nV g i - 1)) (by omega) (by decide) dX4_latestRows_24 ?_
      exact W.iret (v := g 9 (i * 6 + (nV g i - 1))) hx hb hr (fun t ht hW => ⟨_, rfl, by simp only [rowsL, if_neg (Nat.pos_iff_ne_zero.mp hv0)], ht⟩) (fun _ h => nomatch h) dX4_latestRows_25
    · exact absurd c_4 (nI_ne_m1 (by omega))
set_option maxHeartbeats 4000000 in
set_option maxRecDepth 100000 in
theorem c_X4_allVersions (l : Launch) (D : va_G) (ty : Nat → ClassId) (g : Nat → Nat → Int32) (ad : Nat → Nat) (n1 n2 nL n4 n5 : Nat) (hI : dI g n1 n2 nL n4 n5) : Met l yX4_allVersions wsX4_allVersions ({ frames := 0, cells := 0, slots := 0, locals := 0 }) (va_Pc [.ref (ad 1)] (zI D ty g ad)) (vp_Si (fun v => v = sumN (g 8) n1)) 0 0 (fun _ => False) := by
  refine zMet (cc := cX4_allVersions) (maxL := 3) (ret := (some .int)) (by decide) rfl (Nat.le_of_ble_eq_true rfl) ?_
  intro p e s m below meth c hx hb hr hts hown hlocks hml hB ls hl
  obtain ⟨hP, hK, hN⟩ := hB
  obtain ⟨⟨hn1, hn1b⟩, h78, ⟨hn2, hn2b⟩, h12, ⟨hnL, hnLb⟩, h15, ⟨hn4, hn4b⟩, ⟨hn5, hn5b⟩, hrd5, hd0⟩ := id hI
  have hl : lv_has ls 3 [(0, .ref (ad 1))] := hl
  have hk0 := hts (.fieldLink RX4 9 "DatamarketDesk$Shelf" "setCount" "I") (by decide +kernel)
  have hinX4 : ∀ w ∈ wsX40, w ∈ wsX4_allVersions := by decide +kernel
  have hk2 := hts (.fieldLink RX4 19 "DatamarketDesk$Shelf" "versions" "[I") (by decide +kernel)
  refine lv_iconst (v := nI 0) hx hb dX4_allVersions_0 (by decide) ?_
  refine lv_istore_n (lv' := [(1, .int (nI 0)), (0, .ref (ad 1))]) hx hb dX4_allVersions_1 rfl hl (by decide) rfl (fun ls hl => ?_)
  refine lv_iconst (v := nI 0) hx hb dX4_allVersions_2 (by decide) ?_
  refine lv_istore_n (lv' := [(2, .int (nI 0)), (1, .int (nI 0)), (0, .ref (ad 1))]) hx hb dX4_allVersions_3 rfl hl (by decide) rfl (fun ls hl => ?_)
  refine zloopP (τ := Unit) (fun i _ ls => lv_has ls 3 [(1, .int (sumN (g 8) i)), (2, .int (nI i)), (0, .ref (ad 1))]) n1 ?_ 0 () ls (Nat.zero_le _) (lv_sub hl [1, 0, 2] rfl)
  intro i _ ls hi_i hl ih_i
  have hl : lv_has ls 3 [(1, .int (sumN (g 8) i)), (2, .int (nI i)), (0, .ref (ad 1))] := hl
  refine lv_iload_n hx hb dX4_allVersions_4 rfl (lv_at hl 1 rfl) ?_
  refine lv_aload_n hx hb dX4_allVersions_5 rfl (lv_at hl 2 rfl) ?_
  refine va_get hx hb hts hinX4 hown hK hP 1 rfl rfl 0 (by decide) (hk0) (fun _ h9 => h9) rfl dX4_allVersions_6 ?_
  refine zeq hn1 ?_
  refine lv_icmp_ge (tgt := 27) hx hb dX4_allVersions_9 (by decide) (fun c_1 => ?_) (fun c_1 => ?_)
  · have c_1 := zn_geT (a := i) (b := n1) (by omega) (by omega) c_1
    obtain rfl : i = n1 := by omega
    refine lv_iload_n hx hb dX4_allVersions_27 rfl (lv_at hl 0 rfl) ?_
    exact W.iret (v := sumN (g 8) i) hx hb hr (fun t ht hW => ⟨_, rfl, rfl, ht⟩) (fun _ h => nomatch h) dX4_allVersions_28
  · have c_1 := zn_geF (a := i) (b := n1) (by omega) (by omega) c_1
    refine lv_iload_n hx hb dX4_allVersions_12 rfl (lv_at hl 0 rfl) ?_
    refine lv_aload_n hx hb dX4_allVersions_13 rfl (lv_at hl 2 rfl) ?_
    refine va_get hx hb hts hinX4 hown hK hP 1 rfl rfl 2 (by decide) (hk2) (fun _ h9 => h9) rfl dX4_allVersions_14 ?_
    refine lv_iload_n hx hb dX4_allVersions_17 rfl (lv_at hl 1 rfl) ?_
    refine zald hx hb hK hP 8 0 rfl rfl (i := i) (by omega) (by decide) dX4_allVersions_18 ?_
    refine lv_iadd hx hb dX4_allVersions_19 ?_
    refine lv_istore_n (lv' := [(1, .int ((sumN (g 8) i) + (g 8 i))), (2, .int (nI i)), (0, .ref (ad 1))]) hx hb dX4_allVersions_20 rfl hl (by decide) rfl (fun ls hl => ?_)
    refine lv_iinc (v := nI (i + 1)) (lv' := [(2, .int (nI (i + 1))), (1, .int ((sumN (g 8) i) + (g 8 i))), (0, .ref (ad 1))]) hx hb dX4_allVersions_21 hl (k := 1) rfl (nI_add i 1) (by decide) rfl (fun ls hl => ?_)
    refine lv_goto (tgt := 4) hx hb dX4_allVersions_24 (by decide) ?_
    exact ih_i () ls (by omega) (show lv_has ls 3 [(1, .int (sumN (g 8) (i + 1))), (2, .int (nI (i + 1))), (0, .ref (ad 1))] from lv_sub hl [1, 0, 2] rfl)
set_option maxHeartbeats 4000000 in
set_option maxRecDepth 100000 in
theorem c_X4_fieldCharge (l : Launch) (D : va_G) (ty : Nat → ClassId) (g : Nat → Nat → Int32) (ad : Nat → Nat) (i f : Nat) (hi : i < 8) (hf : f < 6) (rw0 t : Int32) : Met l yX4_fieldCharge wsX4_fieldCharge ({ frames := 1, cells := 0, slots := 0, locals := 21 }) (va_Pc [.ref (ad 1), .int (nI i), .int (nI f), .int rw0, .int t] (zI D ty g ad)) (vp_Si (fun v => v = rw0 * g 10 (i * 6 + f) * t / nI 400)) 0 0 (fun _ => False) := by
  refine zMet (cc := cX4_fieldCharge) (maxL := 5) (ret := (some .int)) (by decide) rfl (Nat.le_of_ble_eq_true rfl) ?_
  intro p e s m below meth c hx hb hr hts hown hlocks hml hB ls hl
  obtain ⟨hP, hK, hN⟩ := hB
  have hl : lv_has ls 5 [(0, .ref (ad 1)), (1, .int (nI i)), (2, .int (nI f)), (3, .int rw0), (4, .int t)] := hl
  have hk0 := hts (.fieldLink RX4 25 "DatamarketDesk$Shelf" "prices" "[I") (by decide +kernel)
  have hinX4 : ∀ w ∈ wsX40, w ∈ wsX4_fieldCharge := by decide +kernel
  refine lv_iload_n hx hb dX4_fieldCharge_0 rfl (lv_at hl 3 rfl) ?_
  refine lv_aload_n hx hb dX4_fieldCharge_1 rfl (lv_at hl 0 rfl) ?_
  refine va_get hx hb hts hinX4 hown hK hP 1 rfl rfl 4 (by decide) (hk0) (fun _ h9 => h9) rfl dX4_fieldCharge_2 ?_
  refine lv_iload_n hx hb dX4_fieldCharge_5 rfl (lv_at hl 1 rfl) ?_
  refine lv_iload_n hx hb dX4_fieldCharge_6 rfl (lv_at hl 2 rfl) ?_
  refine zcSNi (As := [.int (nI i), .int (nI f)]) (rest := [.ref (ad 10), .int rw0]) ⟨hx, hb, hml, hown, hts⟩ (c_X5_fieldAt l _ i f) ⟨va_cnB 2 hts ggX4_fieldCharge_X5_fieldAt rfl rfl rfl (hN _ (List.mem_of_getElem? (i := 34) rfl)) (hts (.initialized RX5) (by decide +kernel)) (by decide +kernel) ⟨Nat.le_of_ble_eq_true rfl, Nat.le_of_ble_eq_true rfl⟩, hts (.static yX5_fieldAt) (by decide +kernel), trivial⟩ (B := fun _ => True) (fun _ _ _ _ _ => trivial) (fun _ _ _ => trivial) rfl hl.1 rfl (Nat.le_of_ble_eq_true rfl) dX4_fieldCharge_7 ⟨Nat.le_of_ble_eq_true rfl, Nat.le_of_ble_eq_true rfl⟩ (fun r_1 hr_1 => ?_)
  subst hr_1
  refine zald hx hb hK hP 10 0 rfl rfl (i := i * 6 + f) (by omega) (by decide) dX4_fieldCharge_10 ?_
  refine lv_imul hx hb dX4_fieldCharge_11 ?_
  refine lv_iload hx hb dX4_fieldCharge_12 (lv_at hl 4 rfl) ?_
  refine lv_imul hx hb dX4_fieldCharge_14 ?_
  refine lv_sipush (v := nI 400) hx hb dX4_fieldCharge_15 (by decide) ?_
  refine lv_idiv hx hb dX4_fieldCharge_18 (by decide) ?_
  exact W.iret (v := ((rw0 * (g 10 (i * 6 + f))) * t) / (nI 400)) hx hb hr (fun t ht hW => ⟨_, rfl, rfl, ht⟩) (fun _ h => nomatch h) dX4_fieldCharge_19
set_option maxHeartbeats 4000000 in
set_option maxRecDepth 100000 in
theorem c_X2_findSource_p (l : Launch) (D : va_G) (ty : Nat → ClassId) (g : Nat → Nat → Int32) (ad : Nat → Nat) (n1 n2 nL n4 n5 : Nat) (hI : dI g n1 n2 nL n4 n5) (a0 b0 j0 : Nat) (ha : a0 < 48) (hb0 : b0 < 48) (hj : j0 < n2) (h1 : g 12 j0 = nI a0 ∧ g 13 j0 = nI b0) (h2 : ∀ j, j < j0 → ¬ (g 12 j = nI a0 ∧ g 13 j = nI b0)) : Met l yX2_findSource wsX2_findSource ({ frames := 0, cells := 0, slots := 0, locals := 0 }) (va_Pc [.ref (ad 2), .int (nI a0), .int (nI b0)] (zI D ty g ad)) (vp_Si (fun v => v = nI j0)) 0 0 (fun _ => False) := by
  refine zMet (cc := cX2_findSource) (maxL := 4) (ret := (some .int)) (by decide) rfl (Nat.le_of_ble_eq_true rfl) ?_
  intro p e s m below meth c hx hb hr hts hown hlocks hml hB ls hl
  obtain ⟨hP, hK, hN⟩ := hB
  obtain ⟨⟨hn1, hn1b⟩, h78, ⟨hn2, hn2b⟩, h12, ⟨hnL, hnLb⟩, h15, ⟨hn4, hn4b⟩, ⟨hn5, hn5b⟩, hrd5, hd0⟩ := id hI
  have hl : lv_has ls 4 [(0, .ref (ad 2)), (1, .int (nI a0)), (2, .int (nI b0))] := hl
  have hk0 := hts (.fieldLink RX2 9 "DatamarketDesk$Lineage" "sourceCount" "I") (by decide +kernel)
  have hinX2 : ∀ w ∈ wsX20, w ∈ wsX2_findSource := by decide +kernel
  have hk2 := hts (.fieldLink RX2 15 "DatamarketDesk$Lineage" "sourceChildren" "[I") (by decide +kernel)
  have hk3 := hts (.fieldLink RX2 19 "DatamarketDesk$Lineage" "sourceParents" "[I") (by decide +kernel)
  refine lv_iconst (v := nI 0) hx hb dX2_findSource_0 (by decide) ?_
  refine lv_istore_n (lv' := [(3, .int (nI 0)), (0, .ref (ad 2)), (1, .int (nI a0)), (2, .int (nI b0))]) hx hb dX2_findSource_1 rfl hl (by decide) rfl (fun ls hl => ?_)
  refine zloopP (τ := Unit) (fun i _ ls => lv_has ls 4 [(3, .int (nI i)), (0, .ref (ad 2)), (1, .int (nI a0)), (2, .int (nI b0))]) j0 ?_ 0 () ls (Nat.zero_le _) (lv_sub hl [0, 1, 2, 3] rfl)
  intro i _ ls hi_i hl ih_i
  have hl : lv_has ls 4 [(3, .int (nI i)), (0, .ref (ad 2)), (1, .int (nI a0)), (2, .int (nI b0))] := hl
  refine lv_iload_n hx hb dX2_findSource_2 rfl (lv_at hl 0 rfl) ?_
  refine lv_aload_n hx hb dX2_findSource_3 rfl (lv_at hl 1 rfl) ?_
  refine va_get hx hb hts hinX2 hown hK hP 2 rfl rfl 0 (by decide) (hk0) (fun _ h9 => h9) rfl dX2_findSource_4 ?_
  refine zeq hn2 ?_
  refine lv_icmp_ge (tgt := 38) hx hb dX2_findSource_7 (by decide) (fun c_1 => ?_) (fun c_1 => ?_)
  · have c_1 := zn_geT (a := i) (b := n2) (by omega) (by omega) c_1
    omega
  · have c_1 := zn_geF (a := i) (b := n2) (by omega) (by omega) c_1
    refine lv_aload_n hx hb dX2_findSource_10 rfl (lv_at hl 1 rfl) ?_
    refine va_get hx hb hts hinX2 hown hK hP 2 rfl rfl 1 (by decide) (hk2) (fun _ h9 => h9) rfl dX2_findSource_11 ?_
    refine lv_iload_n hx hb dX2_findSource_14 rfl (lv_at hl 0 rfl) ?_
    refine zald hx hb hK hP 12 0 rfl rfl (i := i) (by omega) (by decide) dX2_findSource_15 ?_
    refine lv_iload_n hx hb dX2_findSource_16 rfl (lv_at hl 2 rfl) ?_
    refine lv_icmp_ne (tgt := 32) hx hb dX2_findSource_17 (by decide) (fun c_2 => ?_) (fun c_2 => ?_)
    · have q9 : i ≠ j0 := fun q => c_2 (by rw [q]; exact h1.1)
      refine lv_iinc (v := nI (i + 1)) (lv' := [(3, .int (nI (i + 1))), (0, .ref (ad 2)), (1, .int (nI a0)), (2, .int (nI b0))]) hx hb dX2_findSource_32 hl (k := 0) rfl (nI_add i 1) (by decide) rfl (fun ls hl => ?_)
      refine lv_goto (tgt := 2) hx hb dX2_findSource_35 (by decide) ?_
      exact ih_i () ls (by omega) (show lv_has ls 4 [(3, .int (nI (i + 1))), (0, .ref (ad 2)), (1, .int (nI a0)), (2, .int (nI b0))] from lv_sub hl [0, 1, 2, 3] rfl)
    · refine lv_aload_n hx hb dX2_findSource_20 rfl (lv_at hl 1 rfl) ?_
      refine va_get hx hb hts hinX2 hown hK hP 2 rfl rfl 2 (by decide) (hk3) (fun _ h9 => h9) rfl dX2_findSource_21 ?_
      refine lv_iload_n hx hb dX2_findSource_24 rfl (lv_at hl 0 rfl) ?_
      refine zald hx hb hK hP 13 0 rfl rfl (i := i) (by omega) (by decide) dX2_findSource_25 ?_
      refine lv_iload_n hx hb dX2_findSource_26 rfl (lv_at hl 3 rfl) ?_
      refine lv_icmp_ne (tgt := 32) hx hb dX2_findSource_27 (by decide) (fun c_3 => ?_) (fun c_3 => ?_)
      · have q9 : i ≠ j0 := fun q => c_3 (by rw [q]; exact h1.2)
        refine lv_iinc (v := nI (i + 1)) (lv' := [(3, .int (nI (i + 1))), (0, .ref (ad 2)), (1, .int (nI a0)), (2, .int (nI b0))]) hx hb dX2_findSource_32 hl (k := 0) rfl (nI_add i 1) (by decide) rfl (fun ls hl => ?_)
        refine lv_goto (tgt := 2) hx hb dX2_findSource_35 (by decide) ?_
        exact ih_i () ls (by omega) (show lv_has ls 4 [(3, .int (nI (i + 1))), (0, .ref (ad 2)), (1, .int (nI a0)), (2, .int (nI b0))] from lv_sub hl [0, 1, 2, 3] rfl)
      · refine lv_iload_n hx hb dX2_findSource_30 rfl (lv_at hl 0 rfl) ?_
        exact W.iret (v := nI i) hx hb hr (fun t ht hW => ⟨_, rfl, by rw [show i = j0 from (Nat.lt_or_ge i j0).elim (fun q => absurd ⟨c_2, c_3⟩ (h2 _ q)) (fun q => by omega)], ht⟩) (fun _ h => nomatch h) dX2_findSource_31
set_option maxHeartbeats 4000000 in
set_option maxRecDepth 100000 in
theorem c_X2_findSource_n (l : Launch) (D : va_G) (ty : Nat → ClassId) (g : Nat → Nat → Int32) (ad : Nat → Nat) (n1 n2 nL n4 n5 : Nat) (hI : dI g n1 n2 nL n4 n5) (a0 b0 : Nat) (ha : a0 < 48) (hb0 : b0 < 48) (h2 : ∀ j, j < n2 → ¬ (g 12 j = nI a0 ∧ g 13 j = nI b0)) : Met l yX2_findSource wsX2_findSource ({ frames := 0, cells := 0, slots := 0, locals := 0 }) (va_Pc [.ref (ad 2), .int (nI a0), .int (nI b0)] (zI D ty g ad)) (vp_Si (fun v => v = -1)) 0 0 (fun _ => False) := by
  refine zMet (cc := cX2_findSource) (maxL := 4) (ret := (some .int)) (by decide) rfl (Nat.le_of_ble_eq_true rfl) ?_
  intro p e s m below meth c hx hb hr hts hown hlocks hml hB ls hl
  obtain ⟨hP, hK, hN⟩ := hB
  obtain ⟨⟨hn1, hn1b⟩, h78, ⟨hn2, hn2b⟩, h12, ⟨hnL, hnLb⟩, h15, ⟨hn4, hn4b⟩, ⟨hn5, hn5b⟩, hrd5, hd0⟩ := id hI
  have hl : lv_has ls 4 [(0, .ref (ad 2)), (1, .int (nI a0)), (2, .int (nI b0))] := hl
  have hk0 := hts (.fieldLink RX2 9 "DatamarketDesk$Lineage" "sourceCount" "I") (by decide +kernel)
  have hinX2 : ∀ w ∈ wsX20, w ∈ wsX2_findSource := by decide +kernel
  have hk2 := hts (.fieldLink RX2 15 "DatamarketDesk$Lineage" "sourceChildren" "[I") (by decide +kernel)
  have hk3 := hts (.fieldLink RX2 19 "DatamarketDesk$Lineage" "sourceParents" "[I") (by decide +kernel)
  refine lv_iconst (v := nI 0) hx hb dX2_findSource_0 (by decide) ?_
  refine lv_istore_n (lv' := [(3, .int (nI 0)), (0, .ref (ad 2)), (1, .int (nI a0)), (2, .int (nI b0))]) hx hb dX2_findSource_1 rfl hl (by decide) rfl (fun ls hl => ?_)
  refine zloopP (τ := Unit) (fun i _ ls => lv_has ls 4 [(3, .int (nI i)), (0, .ref (ad 2)), (1, .int (nI a0)), (2, .int (nI b0))]) n2 ?_ 0 () ls (Nat.zero_le _) (lv_sub hl [0, 1, 2, 3] rfl)
  intro i _ ls hi_i hl ih_i
  have hl : lv_has ls 4 [(3, .int (nI i)), (0, .ref (ad 2)), (1, .int (nI a0)), (2, .int (nI b0))] := hl
  refine lv_iload_n hx hb dX2_findSource_2 rfl (lv_at hl 0 rfl) ?_
  refine lv_aload_n hx hb dX2_findSource_3 rfl (lv_at hl 1 rfl) ?_
  refine va_get hx hb hts hinX2 hown hK hP 2 rfl rfl 0 (by decide) (hk0) (fun _ h9 => h9) rfl dX2_findSource_4 ?_
  refine zeq hn2 ?_
  refine lv_icmp_ge (tgt := 38) hx hb dX2_findSource_7 (by decide) (fun c_1 => ?_) (fun c_1 => ?_)
  · have c_1 := zn_geT (a := i) (b := n2) (by omega) (by omega) c_1
    refine lv_iconst (v := -1) hx hb dX2_findSource_38 (by decide) ?_
    exact W.iret (v := (-1)) hx hb hr (fun t ht hW => ⟨_, rfl, rfl, ht⟩) (fun _ h => nomatch h) dX2_findSource_39
  · have c_1 := zn_geF (a := i) (b := n2) (by omega) (by omega) c_1
    refine lv_aload_n hx hb dX2_findSource_10 rfl (lv_at hl 1 rfl) ?_
    refine va_get hx hb hts hinX2 hown hK hP 2 rfl rfl 1 (by decide) (hk2) (fun _ h9 => h9) rfl dX2_findSource_11 ?_
    refine lv_iload_n hx hb dX2_findSource_14 rfl (lv_at hl 0 rfl) ?_
    refine zald hx hb hK hP 12 0 rfl rfl (i := i) (by omega) (by decide) dX2_findSource_15 ?_
    refine lv_iload_n hx hb dX2_findSource_16 rfl (lv_at hl 2 rfl) ?_
    refine lv_icmp_ne (tgt := 32) hx hb dX2_findSource_17 (by decide) (fun c_2 => ?_) (fun c_2 => ?_)
    · refine lv_iinc (v := nI (i + 1)) (lv' := [(3, .int (nI (i + 1))), (0, .ref (ad 2)), (1, .int (nI a0)), (2, .int (nI b0))]) hx hb dX2_findSource_32 hl (k := 0) rfl (nI_add i 1) (by decide) rfl (fun ls hl => ?_)
      refine lv_goto (tgt := 2) hx hb dX2_findSource_35 (by decide) ?_
      exact ih_i () ls (by omega) (show lv_has ls 4 [(3, .int (nI (i + 1))), (0, .ref (ad 2)), (1, .int (nI a0)), (2, .int (nI b0))] from lv_sub hl [0, 1, 2, 3] rfl)
    · refine lv_aload_n hx hb dX2_findSource_20 rfl (lv_at hl 1 rfl) ?_
      refine va_get hx hb hts hinX2 hown hK hP 2 rfl rfl 2 (by decide) (hk3) (fun _ h9 => h9) rfl dX2_findSource_21 ?_
      refine lv_iload_n hx hb dX2_findSource_24 rfl (lv_at hl 0 rfl) ?_
      refine zald hx hb hK hP 13 0 rfl rfl (i := i) (by omega) (by decide) dX2_findSource_25 ?_
      refine lv_iload_n hx hb dX2_findSource_26 rfl (lv_at hl 3 rfl) ?_
      refine lv_icmp_ne (tgt := 32) hx hb dX2_findSource_27 (by decide) (fun c_3 => ?_) (fun c_3 => ?_)
      · refine lv_iinc (v := nI (i + 1)) (lv' := [(3, .int (nI (i + 1))), (0, .ref (ad 2)), (1, .int (nI a0)), (2, .int (nI b0))]) hx hb dX2_findSource_32 hl (k := 0) rfl (nI_add i 1) (by decide) rfl (fun ls hl => ?_)
        refine lv_goto (tgt := 2) hx hb dX2_findSource_35 (by decide) ?_
        exact ih_i () ls (by omega) (show lv_has ls 4 [(3, .int (nI (i + 1))), (0, .ref (ad 2)), (1, .int (nI a0)), (2, .int (nI b0))] from lv_sub hl [0, 1, 2, 3] rfl)
      · exact absurd ⟨c_2, c_3⟩ (h2 _ (by omega))
set_option maxHeartbeats 4000000 in
set_option maxRecDepth 100000 in
theorem c_X2_countSources (l : Launch) (D : va_G) (ty : Nat → ClassId) (g : Nat → Nat → Int32) (ad : Nat → Nat) (n1 n2 nL n4 n5 : Nat) (hI : dI g n1 n2 nL n4 n5) (a0 : Nat) (ha : a0 < 48) : Met l yX2_countSources wsX2_countSources ({ frames := 0, cells := 0, slots := 0, locals := 0 }) (va_Pc [.ref (ad 2), .int (nI a0)] (zI D ty g ad)) (vp_Si (fun v => v = sumN (fun j => if decide (g 12 j = nI a0) then 1 else 0) n2)) 0 0 (fun _ => False) := by
  refine zMet (cc := cX2_countSources) (maxL := 4) (ret := (some .int)) (by decide) rfl (Nat.le_of_ble_eq_true rfl) ?_
  intro p e s m below meth c hx hb hr hts hown hlocks hml hB ls hl
  obtain ⟨hP, hK, hN⟩ := hB
  obtain ⟨⟨hn1, hn1b⟩, h78, ⟨hn2, hn2b⟩, h12, ⟨hnL, hnLb⟩, h15, ⟨hn4, hn4b⟩, ⟨hn5, hn5b⟩, hrd5, hd0⟩ := id hI
  have hl : lv_has ls 4 [(0, .ref (ad 2)), (1, .int (nI a0))] := hl
  have hk0 := hts (.fieldLink RX2 9 "DatamarketDesk$Lineage" "sourceCount" "I") (by decide +kernel)
  have hinX2 : ∀ w ∈ wsX20, w ∈ wsX2_countSources := by decide +kernel
  have hk2 := hts (.fieldLink RX2 15 "DatamarketDesk$Lineage" "sourceChildren" "[I") (by decide +kernel)
  refine lv_iconst (v := nI 0) hx hb dX2_countSources_0 (by decide) ?_
  refine lv_istore_n (lv' := [(2, .int (nI 0)), (0, .ref (ad 2)), (1, .int (nI a0))]) hx hb dX2_countSources_1 rfl hl (by decide) rfl (fun ls hl => ?_)
  refine lv_iconst (v := nI 0) hx hb dX2_countSources_2 (by decide) ?_
  refine lv_istore_n (lv' := [(3, .int (nI 0)), (2, .int (nI 0)), (0, .ref (ad 2)), (1, .int (nI a0))]) hx hb dX2_countSources_3 rfl hl (by decide) rfl (fun ls hl => ?_)
  refine zloopP (τ := Unit) (fun i _ ls => lv_has ls 4 [(2, .int (sumN (fun j => if decide (g 12 j = nI a0) then 1 else 0) i)), (3, .int (nI i)), (0, .ref (ad 2)), (1, .int (nI a0))]) n2 ?_ 0 () ls (Nat.zero_le _) (lv_sub hl [1, 0, 2, 3] rfl)
  intro i _ ls hi_i hl ih_i
  have hl : lv_has ls 4 [(2, .int (sumN (fun j => if decide (g 12 j = nI a0) then 1 else 0) i)), (3, .int (nI i)), (0, .ref (ad 2)), (1, .int (nI a0))] := hl
  refine lv_iload_n hx hb dX2_countSources_4 rfl (lv_at hl 1 rfl) ?_
  refine lv_aload_n hx hb dX2_countSources_5 rfl (lv_at hl 2 rfl) ?_
  refine va_get hx hb hts hinX2 hown hK hP 2 rfl rfl 0 (by decide) (hk0) (fun _ h9 => h9) rfl dX2_countSources_6 ?_
  refine zeq hn2 ?_
  refine lv_icmp_ge (tgt := 31) hx hb dX2_countSources_9 (by decide) (fun c_1 => ?_) (fun c_1 => ?_)
  · have c_1 := zn_geT (a := i) (b := n2) (by omega) (by omega) c_1
    obtain rfl : i = n2 := by omega
    refine lv_iload_n hx hb dX2_countSources_31 rfl (lv_at hl 0 rfl) ?_
    exact W.iret (v := sumN (fun j => if decide (g 12 j = nI a0) then 1 else 0) i) hx hb hr (fun t ht hW => ⟨_, rfl, rfl, ht⟩) (fun _ h => nomatch h) dX2_countSources_32
  · have c_1 := zn_geF (a := i) (b := n2) (by omega) (by omega) c_1
    refine lv_aload_n hx hb dX2_countSources_12 rfl (lv_at hl 2 rfl) ?_
    refine va_get hx hb hts hinX2 hown hK hP 2 rfl rfl 1 (by decide) (hk2) (fun _ h9 => h9) rfl dX2_countSources_13 ?_
    refine lv_iload_n hx hb dX2_countSources_16 rfl (lv_at hl 1 rfl) ?_
    refine zald hx hb hK hP 12 0 rfl rfl (i := i) (by omega) (by decide) dX2_countSources_17 ?_
    refine lv_iload_n hx hb dX2_countSources_18 rfl (lv_at hl 3 rfl) ?_
    refine lv_icmp_ne (tgt := 25) hx hb dX2_countSources_19 (by decide) (fun c_2 => ?_) (fun c_2 => ?_)
    · refine lv_iinc (v := nI (i + 1)) (lv' := [(3, .int (nI (i + 1))), (2, .int (sumN (fun j => if decide (g 12 j = nI a0) then 1 else 0) i)), (0, .ref (ad 2)), (1, .int (nI a0))]) hx hb dX2_countSources_25 hl (k := 1) rfl (nI_add i 1) (by decide) rfl (fun ls hl => ?_)
      refine lv_goto (tgt := 4) hx hb dX2_countSources_28 (by decide) ?_
      refine ih_i () ls (by omega) (show lv_has ls 4 [(2, .int (sumN (fun j => if decide (g 12 j = nI a0) then 1 else 0) (i + 1))), (3, .int (nI (i + 1))), (0, .ref (ad 2)), (1, .int (nI a0))] from ?_)
      rw [show sumN (fun j => if decide (g 12 j = nI a0) then 1 else 0) (i + 1) = sumN (fun j => if decide (g 12 j = nI a0) then 1 else 0) i from by simp_all [sumN_s]]
      exact lv_sub hl [1, 0, 2, 3] rfl
    · refine lv_iinc (v := (sumN (fun j => if decide (g 12 j = nI a0) then 1 else 0) i) + 1) (lv' := [(2, .int ((sumN (fun j => if decide (g 12 j = nI a0) then 1 else 0) i) + 1)), (3, .int (nI i)), (0, .ref (ad 2)), (1, .int (nI a0))]) hx hb dX2_countSources_22 hl (k := 0) rfl (rfl) (by decide) rfl (fun ls hl => ?_)
      refine lv_iinc (v := nI (i + 1)) (lv' := [(3, .int (nI (i + 1))), (2, .int ((sumN (fun j => if decide (g 12 j = nI a0) then 1 else 0) i) + 1)), (0, .ref (ad 2)), (1, .int (nI a0))]) hx hb dX2_countSources_25 hl (k := 1) rfl (nI_add i 1) (by decide) rfl (fun ls hl => ?_)
      refine lv_goto (tgt := 4) hx hb dX2_countSources_28 (by decide) ?_
      refine ih_i () ls (by omega) (show lv_has ls 4 [(2, .int (sumN (fun j => if decide (g 12 j = nI a0) then 1 else 0) (i + 1))), (3, .int (nI (i + 1))), (0, .ref (ad 2)), (1, .int (nI a0))] from ?_)
      rw [show sumN (fun j => if decide (g 12 j = nI a0) then 1 else 0) (i + 1) = (sumN (fun j => if decide (g 12 j = nI a0) then 1 else 0) i) + 1 from by simp_all [sumN_s]]
      exact lv_sub hl [1, 0, 2, 3] rfl
set_option maxHeartbeats 4000000 in
set_option maxRecDepth 100000 in
theorem c_X5_needSet (l : Launch) (D : va_G) (ty : Nat → ClassId) (g : Nat → Nat → Int32) (ad : Nat → Nat) (n1 n2 nL n4 n5 : Nat) (hI : dI g n1 n2 nL n4 n5) (i : Nat) (hi : i < n1) : Met l yX5_needSet wsX5_needSet ({ frames := 1, cells := 0, slots := 0, locals := 21 }) (va_Pc [.ref (ad 0), .int (nI i)] (zI D ty g ad)) (va_Sv (fun _ => True)) 0 0 (fun _ => False) := by
  refine zMet (cc := cX5_needSet) (maxL := 2) (ret := none) (by decide) rfl (Nat.le_of_ble_eq_true rfl) ?_
  intro p e s m below meth c hx hb hr hts hown hlocks hml hB ls hl
  obtain ⟨hP, hK, hN⟩ := hB
  obtain ⟨⟨hn1, hn1b⟩, h78, ⟨hn2, hn2b⟩, h12, ⟨hnL, hnLb⟩, h15, ⟨hn4, hn4b⟩, ⟨hn5, hn5b⟩, hrd5, hd0⟩ := id hI
  have hq7 : nF g i < 7 := (h78 i hi).1.2
  have hq8 : nV g i < 7 := (h78 i hi).2.1.2
  have hl : lv_has ls 2 [(0, .ref (ad 0)), (1, .int (nI i))] := hl
  have hk0 := hts (.fieldLink RX5 12 "DatamarketDesk" "shelf" "LDatamarketDesk$Shelf;") (by decide +kernel)
  have hinX5 : ∀ w ∈ wsX50, w ∈ wsX5_needSet := by decide +kernel
  refine lv_aload_n hx hb dX5_needSet_0 rfl (lv_at hl 0 rfl) ?_
  refine va_get hx hb hts hinX5 hown hK hP 0 rfl rfl 0 (by decide) (hk0) (fun _ h9 => h9) rfl dX5_needSet_1 ?_
  refine lv_iload_n hx hb dX5_needSet_4 rfl (lv_at hl 1 rfl) ?_
  refine zcVi (As := [.int (nI i)]) (rest := []) ⟨hx, hb, hml, hown, hts⟩ (c_X4_hasSet l D ty g ad n1 n2 nL n4 n5 hI i (by omega)) (cwV 1 hts gX5_needSet_X4_hasSet rfl rfl rfl (by decide +kernel) ⟨Nat.le_of_ble_eq_true rfl, Nat.le_of_ble_eq_true rfl⟩) zI_blind (zI_pre hP hK hN) (va_recv hK hP (ci := 4) (q0 := 1) rfl rfl) rfl hl.1 rfl (Nat.le_of_ble_eq_true rfl) dX5_needSet_5 ⟨Nat.le_of_ble_eq_true rfl, Nat.le_of_ble_eq_true rfl⟩ (fun r_1 hr_1 => ?_)
  subst hr_1
  refine lv_if_ne (tgt := 22) hx hb dX5_needSet_8 (by decide) (fun c_2 => ?_) (fun c_2 => ?_)
  · have c_2 := bI_t c_2
    exact W.vret hx hb hr (fun t ht hW => ⟨rfl, trivial, ht⟩) (fun _ h => nomatch h) dX5_needSet_22
  · have c_2 := bI_f c_2
    exact absurd c_2 (by decide)
set_option maxHeartbeats 4000000 in
set_option maxRecDepth 100000 in
theorem c_X5_needField (l : Launch) (D : va_G) (ty : Nat → ClassId) (g : Nat → Nat → Int32) (ad : Nat → Nat) (n1 n2 nL n4 n5 : Nat) (hI : dI g n1 n2 nL n4 n5) (i f : Nat) (hi : i < n1) (hf : f < nF g i) : Met l yX5_needField wsX5_needField ({ frames := 2, cells := 0, slots := 0, locals := 42 }) (va_Pc [.ref (ad 0), .int (nI i), .int (nI f)] (zI D ty g ad)) (va_Sv (fun _ => True)) 0 0 (fun _ => False) := by
  refine zMet (cc := cX5_needField) (maxL := 3) (ret := none) (by decide) rfl (Nat.le_of_ble_eq_true rfl) ?_
  intro p e s m below meth c hx hb hr hts hown hlocks hml hB ls hl
  obtain ⟨hP, hK, hN⟩ := hB
  obtain ⟨⟨hn1, hn1b⟩, h78, ⟨hn2, hn2b⟩, h12, ⟨hnL, hnLb⟩, h15, ⟨hn4, hn4b⟩, ⟨hn5, hn5b⟩, hrd5, hd0⟩ := id hI
  have hq7 : nF g i < 7 := (h78 i hi).1.2
  have hq8 : nV g i < 7 := (h78 i hi).2.1.2
  have hl : lv_has ls 3 [(0, .ref (ad 0)), (1, .int (nI i)), (2, .int (nI f))] := hl
  have hk0 := hts (.fieldLink RX5 12 "DatamarketDesk" "shelf" "LDatamarketDesk$Shelf;") (by decide +kernel)
  have hinX5 : ∀ w ∈ wsX50, w ∈ wsX5_needField := by decide +kernel
  have hinX4 : ∀ w ∈ wsX40, w ∈ wsX5_needField := by decide +kernel
  refine lv_aload_n hx hb dX5_needField_0 rfl (lv_at hl 0 rfl) ?_
  refine lv_iload_n hx hb dX5_needField_1 rfl (lv_at hl 1 rfl) ?_
  refine zcVv (As := [.int (nI i)]) (rest := []) ⟨hx, hb, hml, hown, hts⟩ (c_X5_needSet l D ty g ad n1 n2 nL n4 n5 hI i (by omega)) (cwV 1 hts gX5_needField_X5_needSet rfl rfl rfl (by decide +kernel) ⟨Nat.le_of_ble_eq_true rfl, Nat.le_of_ble_eq_true rfl⟩) zI_blind (zI_pre hP hK hN) (va_recv hK hP (ci := 5) (q0 := 0) rfl rfl) rfl hl.1 rfl (Nat.le_of_ble_eq_true rfl) dX5_needField_2 ⟨Nat.le_of_ble_eq_true rfl, Nat.le_of_ble_eq_true rfl⟩ (fun _ => ?_)
  refine lv_iload_n hx hb dX5_needField_5 rfl (lv_at hl 2 rfl) ?_
  refine lv_if_lt (tgt := 22) hx hb dX5_needField_6 (by decide) (fun c_2 => ?_) (fun c_2 => ?_)
  · have c_2 := zq_ltT (x := f) (by omega) c_2
    exact c_2.elim
  · have c_2 := zq_ltF (x := f) (by omega) c_2
    refine lv_iload_n hx hb dX5_needField_9 rfl (lv_at hl 2 rfl) ?_
    refine lv_aload_n hx hb dX5_needField_10 rfl (lv_at hl 0 rfl) ?_
    refine va_get hx hb hts hinX5 hown hK hP 0 rfl rfl 0 (by decide) (hk0) (fun _ h9 => h9) rfl dX5_needField_11 ?_
    refine va_getN hx hb hts hinX4 hown hK hP 1 rfl rfl 1 (by decide) (zN.use hN (List.mem_of_getElem? (i := 2) rfl)) (fun _ h9 => h9) rfl dX5_needField_14 ?_
    refine lv_iload_n hx hb dX5_needField_17 rfl (lv_at hl 1 rfl) ?_
    refine zald hx hb hK hP 7 0 rfl rfl (i := i) (by omega) (by decide) dX5_needField_18 ?_
    have b_3 : nF g i < 7 := (h78 _ (by omega)).1.2
    refine zeq (show g 7 i = nI (nF g i) from (h78 _ (by omega)).1.1) ?_
    refine lv_icmp_lt (tgt := 33) hx hb dX5_needField_19 (by decide) (fun c_4 => ?_) (fun c_4 => ?_)
    · have c_4 := zn_ltT (a := f) (b := (nF g i)) (by omega) (by omega) c_4
      exact W.vret hx hb hr (fun t ht hW => ⟨rfl, trivial, ht⟩) (fun _ h => nomatch h) dX5_needField_33
    · have c_4 := zn_ltF (a := f) (b := (nF g i)) (by omega) (by omega) c_4
      omega
set_option maxHeartbeats 4000000 in
set_option maxRecDepth 100000 in
theorem c_X5_needPlace (l : Launch) (D : va_G) (ty : Nat → ClassId) (g : Nat → Nat → Int32) (ad : Nat → Nat) (n1 n2 nL n4 n5 : Nat) (hI : dI g n1 n2 nL n4 n5) (i v f : Nat) (hi : i < n1) (hv : v < nV g i) (hf : f < nF g i) : Met l yX5_needPlace wsX5_needPlace ({ frames := 3, cells := 0, slots := 0, locals := 64 }) (va_Pc [.ref (ad 0), .int (nI i), .int (nI v), .int (nI f)] (zI D ty g ad)) (va_Sv (fun _ => True)) 0 0 (fun _ => False) := by
  refine zMet (cc := cX5_needPlace) (maxL := 4) (ret := none) (by decide) rfl (Nat.le_of_ble_eq_true rfl) ?_
  intro p e s m below meth c hx hb hr hts hown hlocks hml hB ls hl
  obtain ⟨hP, hK, hN⟩ := hB
  obtain ⟨⟨hn1, hn1b⟩, h78, ⟨hn2, hn2b⟩, h12, ⟨hnL, hnLb⟩, h15, ⟨hn4, hn4b⟩, ⟨hn5, hn5b⟩, hrd5, hd0⟩ := id hI
  have hq7 : nF g i < 7 := (h78 i hi).1.2
  have hq8 : nV g i < 7 := (h78 i hi).2.1.2
  have hl : lv_has ls 4 [(0, .ref (ad 0)), (1, .int (nI i)), (2, .int (nI v)), (3, .int (nI f))] := hl
  have hk0 := hts (.fieldLink RX5 12 "DatamarketDesk" "shelf" "LDatamarketDesk$Shelf;") (by decide +kernel)
  have hinX5 : ∀ w ∈ wsX50, w ∈ wsX5_needPlace := by decide +kernel
  have hinX4 : ∀ w ∈ wsX40, w ∈ wsX5_needPlace := by decide +kernel
  refine lv_aload_n hx hb dX5_needPlace_0 rfl (lv_at hl 0 rfl) ?_
  refine lv_iload_n hx hb dX5_needPlace_1 rfl (lv_at hl 1 rfl) ?_
  refine lv_iload_n hx hb dX5_needPlace_2 rfl (lv_at hl 3 rfl) ?_
  refine zcVv (As := [.int (nI i), .int (nI f)]) (rest := []) ⟨hx, hb, hml, hown, hts⟩ (c_X5_needField l D ty g ad n1 n2 nL n4 n5 hI i f (by omega) (by omega)) (cwV 2 hts gX5_needPlace_X5_needField rfl rfl rfl (by decide +kernel) ⟨Nat.le_of_ble_eq_true rfl, Nat.le_of_ble_eq_true rfl⟩) zI_blind (zI_pre hP hK hN) (va_recv hK hP (ci := 5) (q0 := 0) rfl rfl) rfl hl.1 rfl (Nat.le_of_ble_eq_true rfl) dX5_needPlace_3 ⟨Nat.le_of_ble_eq_true rfl, Nat.le_of_ble_eq_true rfl⟩ (fun _ => ?_)
  refine lv_iload_n hx hb dX5_needPlace_6 rfl (lv_at hl 2 rfl) ?_
  refine lv_if_lt (tgt := 23) hx hb dX5_needPlace_7 (by decide) (fun c_2 => ?_) (fun c_2 => ?_)
  · have c_2 := zq_ltT (x := v) (by omega) c_2
    exact c_2.elim
  · have c_2 := zq_ltF (x := v) (by omega) c_2
    refine lv_iload_n hx hb dX5_needPlace_10 rfl (lv_at hl 2 rfl) ?_
    refine lv_aload_n hx hb dX5_needPlace_11 rfl (lv_at hl 0 rfl) ?_
    refine va_get hx hb hts hinX5 hown hK hP 0 rfl rfl 0 (by decide) (hk0) (fun _ h9 => h9) rfl dX5_needPlace_12 ?_
    refine va_getN hx hb hts hinX4 hown hK hP 1 rfl rfl 2 (by decide) (zN.use hN (List.mem_of_getElem? (i := 3) rfl)) (fun _ h9 => h9) rfl dX5_needPlace_15 ?_
    refine lv_iload_n hx hb dX5_needPlace_18 rfl (lv_at hl 1 rfl) ?_
    refine zald hx hb hK hP 8 0 rfl rfl (i := i) (by omega) (by decide) dX5_needPlace_19 ?_
    have b_3 : nV g i < 7 := (h78 _ (by omega)).2.1.2
    refine zeq (show g 8 i = nI (nV g i) from (h78 _ (by omega)).2.1.1) ?_
    refine lv_icmp_lt (tgt := 34) hx hb dX5_needPlace_20 (by decide) (fun c_4 => ?_) (fun c_4 => ?_)
    · have c_4 := zn_ltT (a := v) (b := (nV g i)) (by omega) (by omega) c_4
      exact W.vret hx hb hr (fun t ht hW => ⟨rfl, trivial, ht⟩) (fun _ h => nomatch h) dX5_needPlace_34
    · have c_4 := zn_ltF (a := v) (b := (nV g i)) (by omega) (by omega) c_4
      omega
set_option maxHeartbeats 4000000 in
set_option maxRecDepth 100000 in
theorem c_X5_needFields (l : Launch) (D : va_G) (ty : Nat → ClassId) (g : Nat → Nat → Int32) (ad : Nat → Nat) (n1 n2 nL n4 n5 : Nat) (hI : dI g n1 n2 nL n4 n5) (i : Nat) (hi : i < n1) (F : Int32) (hF1 : ¬ F < nI 1) (hF2 : ¬ allF g i < F) : Met l yX5_needFields wsX5_needFields ({ frames := 1, cells := 0, slots := 0, locals := 21 }) (va_Pc [.ref (ad 0), .int (nI i), .int F] (zI D ty g ad)) (va_Sv (fun _ => True)) 0 0 (fun _ => False) := by
  refine zMet (cc := cX5_needFields) (maxL := 3) (ret := none) (by decide) rfl (Nat.le_of_ble_eq_true rfl) ?_
  intro p e s m below meth c hx hb hr hts hown hlocks hml hB ls hl
  obtain ⟨hP, hK, hN⟩ := hB
  obtain ⟨⟨hn1, hn1b⟩, h78, ⟨hn2, hn2b⟩, h12, ⟨hnL, hnLb⟩, h15, ⟨hn4, hn4b⟩, ⟨hn5, hn5b⟩, hrd5, hd0⟩ := id hI
  have hq7 : nF g i < 7 := (h78 i hi).1.2
  have hq8 : nV g i < 7 := (h78 i hi).2.1.2
  have hl : lv_has ls 3 [(0, .ref (ad 0)), (1, .int (nI i)), (2, .int F)] := hl
  have hk0 := hts (.fieldLink RX5 12 "DatamarketDesk" "shelf" "LDatamarketDesk$Shelf;") (by decide +kernel)
  have hinX5 : ∀ w ∈ wsX50, w ∈ wsX5_needFields := by decide +kernel
  refine lv_iload_n hx hb dX5_needFields_0 rfl (lv_at hl 2 rfl) ?_
  refine lv_iconst (v := nI 1) hx hb dX5_needFields_1 (by decide) ?_
  refine lv_icmp_lt (tgt := 17) hx hb dX5_needFields_2 (by decide) (fun c_1 => ?_) (fun c_1 => ?_)
  · exact absurd c_1 hF1
  · refine lv_iload_n hx hb dX5_needFields_5 rfl (lv_at hl 2 rfl) ?_
    refine lv_aload_n hx hb dX5_needFields_6 rfl (lv_at hl 0 rfl) ?_
    refine va_get hx hb hts hinX5 hown hK hP 0 rfl rfl 0 (by decide) (hk0) (fun _ h9 => h9) rfl dX5_needFields_7 ?_
    refine lv_iload_n hx hb dX5_needFields_10 rfl (lv_at hl 1 rfl) ?_
    refine zcVi (As := [.int (nI i)]) (rest := [.int F]) ⟨hx, hb, hml, hown, hts⟩ (c_X4_allFields l D ty g ad n1 n2 nL n4 n5 hI i (by omega)) (cwV 1 hts gX5_needFields_X4_allFields rfl rfl rfl (by decide +kernel) ⟨Nat.le_of_ble_eq_true rfl, Nat.le_of_ble_eq_true rfl⟩) zI_blind (zI_pre hP hK hN) (va_recv hK hP (ci := 4) (q0 := 1) rfl rfl) rfl hl.1 rfl (Nat.le_of_ble_eq_true rfl) dX5_needFields_11 ⟨Nat.le_of_ble_eq_true rfl, Nat.le_of_ble_eq_true rfl⟩ (fun r_2 hr_2 => ?_)
    subst hr_2
    refine lv_icmp_le (tgt := 28) hx hb dX5_needFields_14 (by decide) (fun c_3 => ?_) (fun c_3 => ?_)
    · exact W.vret hx hb hr (fun t ht hW => ⟨rfl, trivial, ht⟩) (fun _ h => nomatch h) dX5_needFields_28
    · exact absurd (Int32.not_le.mp c_3) hF2
set_option maxHeartbeats 4000000 in
set_option maxRecDepth 100000 in
theorem c_X5_needHarm (l : Launch) (B : State → Prop) (h0 : Int32) (h1 : ¬ h0 < nI 1) (h2 : ¬ nI 100 < h0) : Met l yX5_needHarm wsX5_needHarm ({ frames := 0, cells := 0, slots := 0, locals := 0 }) (va_Pc [.int h0] (B)) (va_Sv (fun _ => True)) 0 0 (fun _ => False) := by
  refine zMet (cc := cX5_needHarm) (maxL := 1) (ret := none) (by decide) rfl (Nat.le_of_ble_eq_true rfl) ?_
  intro p e s m below meth c hx hb hr hts hown hlocks hml hB ls hl
  have hl : lv_has ls 1 [(0, .int h0)] := hl
  refine lv_iload_n hx hb dX5_needHarm_0 rfl (lv_at hl 0 rfl) ?_
  refine lv_iconst (v := nI 1) hx hb dX5_needHarm_1 (by decide) ?_
  refine lv_icmp_lt (tgt := 11) hx hb dX5_needHarm_2 (by decide) (fun c_1 => ?_) (fun c_1 => ?_)
  · exact absurd c_1 h1
  · refine lv_iload_n hx hb dX5_needHarm_5 rfl (lv_at hl 0 rfl) ?_
    refine lv_bipush (v := nI 100) hx hb dX5_needHarm_6 (by decide) ?_
    refine lv_icmp_le (tgt := 22) hx hb dX5_needHarm_8 (by decide) (fun c_2 => ?_) (fun c_2 => ?_)
    · exact W.vret hx hb hr (fun t ht hW => ⟨rfl, trivial, ht⟩) (fun _ h => nomatch h) dX5_needHarm_22
    · exact absurd (Int32.not_le.mp c_2) h2
set_option maxHeartbeats 4000000 in
set_option maxRecDepth 100000 in
theorem c_X5_needReader (l : Launch) (B : State → Prop) (R : Nat) (hR : R < 6) : Met l yX5_needReader wsX5_needReader ({ frames := 0, cells := 0, slots := 0, locals := 0 }) (va_Pc [.int (nI R)] (B)) (va_Sv (fun _ => True)) 0 0 (fun _ => False) := by
  refine zMet (cc := cX5_needReader) (maxL := 1) (ret := none) (by decide) rfl (Nat.le_of_ble_eq_true rfl) ?_
  intro p e s m below meth c hx hb hr hts hown hlocks hml hB ls hl
  have hl : lv_has ls 1 [(0, .int (nI R))] := hl
  refine lv_iload_n hx hb dX5_needReader_0 rfl (lv_at hl 0 rfl) ?_
  refine lv_if_lt (tgt := 10) hx hb dX5_needReader_1 (by decide) (fun c_1 => ?_) (fun c_1 => ?_)
  · have c_1 := zq_ltT (x := R) (by omega) c_1
    exact c_1.elim
  · have c_1 := zq_ltF (x := R) (by omega) c_1
    refine lv_iload_n hx hb dX5_needReader_4 rfl (lv_at hl 0 rfl) ?_
    refine lv_bipush (v := nI 6) hx hb dX5_needReader_5 (by decide) ?_
    refine lv_icmp_lt (tgt := 21) hx hb dX5_needReader_7 (by decide) (fun c_2 => ?_) (fun c_2 => ?_)
    · have c_2 := zn_ltT (a := R) (b := 6) (by omega) (by omega) c_2
      exact W.vret hx hb hr (fun t ht hW => ⟨rfl, trivial, ht⟩) (fun _ h => nomatch h) dX5_needReader_21
    · have c_2 := zn_ltF (a := R) (b := 6) (by omega) (by omega) c_2
      omega
set_option maxHeartbeats 4000000 in
set_option maxRecDepth 100000 in
theorem c_X5_needPurpose (l : Launch) (B : State → Prop) (R : Nat) (hR : R < 4) : Met l yX5_needPurpose wsX5_needPurpose ({ frames := 0, cells := 0, slots := 0, locals := 0 }) (va_Pc [.int (nI R)] (B)) (va_Sv (fun _ => True)) 0 0 (fun _ => False) := by
  refine zMet (cc := cX5_needPurpose) (maxL := 1) (ret := none) (by decide) rfl (Nat.le_of_ble_eq_true rfl) ?_
  intro p e s m below meth c hx hb hr hts hown hlocks hml hB ls hl
  have hl : lv_has ls 1 [(0, .int (nI R))] := hl
  refine lv_iload_n hx hb dX5_needPurpose_0 rfl (lv_at hl 0 rfl) ?_
  refine lv_if_lt (tgt := 9) hx hb dX5_needPurpose_1 (by decide) (fun c_1 => ?_) (fun c_1 => ?_)
  · have c_1 := zq_ltT (x := R) (by omega) c_1
    exact c_1.elim
  · have c_1 := zq_ltF (x := R) (by omega) c_1
    refine lv_iload_n hx hb dX5_needPurpose_4 rfl (lv_at hl 0 rfl) ?_
    refine lv_iconst (v := nI 4) hx hb dX5_needPurpose_5 (by decide) ?_
    refine lv_icmp_lt (tgt := 20) hx hb dX5_needPurpose_6 (by decide) (fun c_2 => ?_) (fun c_2 => ?_)
    · have c_2 := zn_ltT (a := R) (b := 4) (by omega) (by omega) c_2
      exact W.vret hx hb hr (fun t ht hW => ⟨rfl, trivial, ht⟩) (fun _ h => nomatch h) dX5_needPurpose_20
    · have c_2 := zn_ltF (a := R) (b := 4) (by omega) (by omega) c_2
      omega
set_option maxHeartbeats 4000000 in
set_option maxRecDepth 100000 in
theorem c_X5_needContract (l : Launch) (D : va_G) (ty : Nat → ClassId) (g : Nat → Nat → Int32) (ad : Nat → Nat) (n1 n2 nL n4 n5 : Nat) (hI : dI g n1 n2 nL n4 n5) (c0 : Nat) (hc0 : c0 < n4) : Met l yX5_needContract wsX5_needContract ({ frames := 0, cells := 0, slots := 0, locals := 0 }) (va_Pc [.ref (ad 0), .int (nI c0)] (zI D ty g ad)) (va_Sv (fun _ => True)) 0 0 (fun _ => False) := by
  refine zMet (cc := cX5_needContract) (maxL := 2) (ret := none) (by decide) rfl (Nat.le_of_ble_eq_true rfl) ?_
  intro p e s m below meth c hx hb hr hts hown hlocks hml hB ls hl
  obtain ⟨hP, hK, hN⟩ := hB
  obtain ⟨⟨hn1, hn1b⟩, h78, ⟨hn2, hn2b⟩, h12, ⟨hnL, hnLb⟩, h15, ⟨hn4, hn4b⟩, ⟨hn5, hn5b⟩, hrd5, hd0⟩ := id hI
  have hl : lv_has ls 2 [(0, .ref (ad 0)), (1, .int (nI c0))] := hl
  have hk0 := hts (.fieldLink RX5 33 "DatamarketDesk" "contracts" "LDatamarketDesk$Contracts;") (by decide +kernel)
  have hinX5 : ∀ w ∈ wsX50, w ∈ wsX5_needContract := by decide +kernel
  have hinX0 : ∀ w ∈ wsX00, w ∈ wsX5_needContract := by decide +kernel
  refine lv_iload_n hx hb dX5_needContract_0 rfl (lv_at hl 1 rfl) ?_
  refine lv_if_lt (tgt := 15) hx hb dX5_needContract_1 (by decide) (fun c_1 => ?_) (fun c_1 => ?_)
  · have c_1 := zq_ltT (x := c0) (by omega) c_1
    exact c_1.elim
  · have c_1 := zq_ltF (x := c0) (by omega) c_1
    refine lv_iload_n hx hb dX5_needContract_4 rfl (lv_at hl 1 rfl) ?_
    refine lv_aload_n hx hb dX5_needContract_5 rfl (lv_at hl 0 rfl) ?_
    refine va_get hx hb hts hinX5 hown hK hP 0 rfl rfl 3 (by decide) (hk0) (fun _ h9 => h9) rfl dX5_needContract_6 ?_
    refine va_getN hx hb hts hinX0 hown hK hP 4 rfl rfl 0 (by decide) (zN.use hN (List.mem_of_getElem? (i := 12) rfl)) (fun _ h9 => h9) rfl dX5_needContract_9 ?_
    refine zeq hn4 ?_
    refine lv_icmp_lt (tgt := 26) hx hb dX5_needContract_12 (by decide) (fun c_2 => ?_) (fun c_2 => ?_)
    · have c_2 := zn_ltT (a := c0) (b := n4) (by omega) (by omega) c_2
      exact W.vret hx hb hr (fun t ht hW => ⟨rfl, trivial, ht⟩) (fun _ h => nomatch h) dX5_needContract_26
    · have c_2 := zn_ltF (a := c0) (b := n4) (by omega) (by omega) c_2
      omega
set_option maxHeartbeats 4000000 in
set_option maxRecDepth 100000 in
theorem c_X5_harm (l : Launch) (D : va_G) (ty : Nat → ClassId) (g : Nat → Nat → Int32) (ad : Nat → Nat) (n1 n2 nL n4 n5 : Nat) (hI : dI g n1 n2 nL n4 n5) (i v f : Nat) (hi : i < n1) (hv : v < nV g i) (hf : f < nF g i) : Met l yX5_harm wsX5_harm ({ frames := 4, cells := 0, slots := 0, locals := 87 }) (va_Pc [.ref (ad 0), .int (nI i), .int (nI v), .int (nI f)] (zI D ty g ad)) (vp_Si (fun v_ => v_ = g 21 (plc i v f))) 0 0 (fun _ => False) := by
  refine zMet (cc := cX5_harm) (maxL := 4) (ret := (some .int)) (by decide) rfl (Nat.le_of_ble_eq_true rfl) ?_
  intro p e s m below meth c hx hb hr hts hown hlocks hml hB ls hl
  obtain ⟨hP, hK, hN⟩ := hB
  obtain ⟨⟨hn1, hn1b⟩, h78, ⟨hn2, hn2b⟩, h12, ⟨hnL, hnLb⟩, h15, ⟨hn4, hn4b⟩, ⟨hn5, hn5b⟩, hrd5, hd0⟩ := id hI
  have hq7 : nF g i < 7 := (h78 i hi).1.2
  have hq8 : nV g i < 7 := (h78 i hi).2.1.2
  have hb7 := (h78 i hi).1.2
  have hb8 := (h78 i hi).2.1.2
  have hq7 : nF g i < 7 := hb7
  have hq8 : nV g i < 7 := hb8
  have hl : lv_has ls 4 [(0, .ref (ad 0)), (1, .int (nI i)), (2, .int (nI v)), (3, .int (nI f))] := hl
  have hk0 := hts (.fieldLink RX5 26 "DatamarketDesk" "harms" "LDatamarketDesk$Harms;") (by decide +kernel)
  have hinX5 : ∀ w ∈ wsX50, w ∈ wsX5_harm := by decide +kernel
  have hinX1 : ∀ w ∈ wsX10, w ∈ wsX5_harm := by decide +kernel
  refine lv_aload_n hx hb dX5_harm_0 rfl (lv_at hl 0 rfl) ?_
  refine lv_iload_n hx hb dX5_harm_1 rfl (lv_at hl 1 rfl) ?_
  refine lv_iload_n hx hb dX5_harm_2 rfl (lv_at hl 2 rfl) ?_
  refine lv_iload_n hx hb dX5_harm_3 rfl (lv_at hl 3 rfl) ?_
  refine zcVv (As := [.int (nI i), .int (nI v), .int (nI f)]) (rest := []) ⟨hx, hb, hml, hown, hts⟩ (c_X5_needPlace l D ty g ad n1 n2 nL n4 n5 hI i v f (by omega) (by omega) (by omega)) (cwV 3 hts gX5_harm_X5_needPlace rfl rfl rfl (by decide +kernel) ⟨Nat.le_of_ble_eq_true rfl, Nat.le_of_ble_eq_true rfl⟩) zI_blind (zI_pre hP hK hN) (va_recv hK hP (ci := 5) (q0 := 0) rfl rfl) rfl hl.1 rfl (Nat.le_of_ble_eq_true rfl) dX5_harm_4 ⟨Nat.le_of_ble_eq_true rfl, Nat.le_of_ble_eq_true rfl⟩ (fun _ => ?_)
  refine lv_aload_n hx hb dX5_harm_7 rfl (lv_at hl 0 rfl) ?_
  refine va_get hx hb hts hinX5 hown hK hP 0 rfl rfl 2 (by decide) (hk0) (fun _ h9 => h9) rfl dX5_harm_8 ?_
  refine va_getN hx hb hts hinX1 hown hK hP 3 rfl rfl 2 (by decide) (zN.use hN (List.mem_of_getElem? (i := 10) rfl)) (fun _ h9 => h9) rfl dX5_harm_11 ?_
  refine lv_iload_n hx hb dX5_harm_14 rfl (lv_at hl 1 rfl) ?_
  refine lv_iload_n hx hb dX5_harm_15 rfl (lv_at hl 2 rfl) ?_
  refine lv_iload_n hx hb dX5_harm_16 rfl (lv_at hl 3 rfl) ?_
  refine zcSi (As := [.int (nI i), .int (nI v), .int (nI f)]) (rest := [.ref (ad 21)]) ⟨hx, hb, hml, hown, hts⟩ (c_X5_placeAt l _ i v f) (cwS 3 hts gX5_harm_X5_placeAt rfl rfl rfl (by decide +kernel) ⟨Nat.le_of_ble_eq_true rfl, Nat.le_of_ble_eq_true rfl⟩) (B := fun _ => True) (fun _ _ _ _ _ => trivial) (fun _ _ _ => trivial) rfl hl.1 rfl (Nat.le_of_ble_eq_true rfl) dX5_harm_17 ⟨Nat.le_of_ble_eq_true rfl, Nat.le_of_ble_eq_true rfl⟩ (fun r_2 hr_2 => ?_)
  subst hr_2
  refine zald hx hb hK hP 21 0 rfl rfl (i := (i * 6 + v) * 6 + f) (by omega) (by decide) dX5_harm_20 ?_
  exact W.iret (v := g 21 ((i * 6 + v) * 6 + f)) hx hb hr (fun t ht hW => ⟨_, rfl, rfl, ht⟩) (fun _ h => nomatch h) dX5_harm_21
set_option maxHeartbeats 4000000 in
set_option maxRecDepth 100000 in
theorem c_X5_openToday (l : Launch) (D : va_G) (ty : Nat → ClassId) (g : Nat → Nat → Int32) (ad : Nat → Nat) (n1 n2 nL n4 n5 : Nat) (hI : dI g n1 n2 nL n4 n5) (R S : Int32) : Met l yX5_openToday wsX5_openToday ({ frames := 3, cells := 0, slots := 0, locals := 74 }) (va_Pc [.ref (ad 0), .int R, .int S] (zI D ty g ad)) (vp_Si (fun v => v = openT g n4 R S)) 0 0 (fun _ => False) := by
  refine zMet (cc := cX5_openToday) (maxL := 3) (ret := (some .int)) (by decide) rfl (Nat.le_of_ble_eq_true rfl) ?_
  intro p e s m below meth c hx hb hr hts hown hlocks hml hB ls hl
  obtain ⟨hP, hK, hN⟩ := hB
  obtain ⟨⟨hn1, hn1b⟩, h78, ⟨hn2, hn2b⟩, h12, ⟨hnL, hnLb⟩, h15, ⟨hn4, hn4b⟩, ⟨hn5, hn5b⟩, hrd5, hd0⟩ := id hI
  have hl : lv_has ls 3 [(0, .ref (ad 0)), (1, .int R), (2, .int S)] := hl
  have hk0 := hts (.fieldLink RX5 33 "DatamarketDesk" "contracts" "LDatamarketDesk$Contracts;") (by decide +kernel)
  have hinX5 : ∀ w ∈ wsX50, w ∈ wsX5_openToday := by decide +kernel
  have hk2 := hts (.fieldLink RX5 48 "DatamarketDesk" "today" "I") (by decide +kernel)
  refine lv_aload_n hx hb dX5_openToday_0 rfl (lv_at hl 0 rfl) ?_
  refine va_get hx hb hts hinX5 hown hK hP 0 rfl rfl 3 (by decide) (hk0) (fun _ h9 => h9) rfl dX5_openToday_1 ?_
  refine lv_iload_n hx hb dX5_openToday_4 rfl (lv_at hl 1 rfl) ?_
  refine lv_iload_n hx hb dX5_openToday_5 rfl (lv_at hl 2 rfl) ?_
  refine lv_bipush (v := nI 15) hx hb dX5_openToday_6 (by decide) ?_
  refine lv_aload_n hx hb dX5_openToday_8 rfl (lv_at hl 0 rfl) ?_
  refine va_get hx hb hts hinX5 hown hK hP 0 rfl rfl 6 (by decide) (hk2) (fun _ h9 => h9) rfl dX5_openToday_9 ?_
  refine lv_iconst (v := -1) hx hb dX5_openToday_12 (by decide) ?_
  refine zcVi (As := [.int R, .int S, .int (nI 15), .int (g 0 0), .int (-1)]) (rest := []) ⟨hx, hb, hml, hown, hts⟩ (c_X0_open l D ty g ad n4 hn4 hn4b R S (nI 15) (g 0 0) (-1)) (cwV 5 hts gX5_openToday_X0_open rfl rfl rfl (by decide +kernel) ⟨Nat.le_of_ble_eq_true rfl, Nat.le_of_ble_eq_true rfl⟩) zI_blind (zI_pre hP hK hN) (va_recv hK hP (ci := 0) (q0 := 4) rfl rfl) rfl hl.1 rfl (Nat.le_of_ble_eq_true rfl) dX5_openToday_13 ⟨Nat.le_of_ble_eq_true rfl, Nat.le_of_ble_eq_true rfl⟩ (fun r_1 hr_1 => ?_)
  subst hr_1
  exact W.iret (v := orN (fOpen g R S (nI 15) (g 0 0) (-1)) n4) hx hb hr (fun t ht hW => ⟨_, rfl, rfl, ht⟩) (fun _ h => nomatch h) dX5_openToday_16
set_option maxHeartbeats 4000000 in
set_option maxRecDepth 100000 in
theorem c_X5_mayBeSeen (l : Launch) (D : va_G) (ty : Nat → ClassId) (g : Nat → Nat → Int32) (ad : Nat → Nat) (n1 n2 nL n4 n5 : Nat) (hI : dI g n1 n2 nL n4 n5) (i : Nat) (hi : i < n1) (sn op : Int32) : Met l yX5_mayBeSeen wsX5_mayBeSeen ({ frames := 1, cells := 0, slots := 0, locals := 21 }) (va_Pc [.ref (ad 0), .int (nI i), .int sn, .int op] (zI D ty g ad)) (vp_Si (fun v => v = bI (mayB g i sn op))) 0 0 (fun _ => False) := by
  refine zMet (cc := cX5_mayBeSeen) (maxL := 5) (ret := (some .boolean)) (by decide) rfl (Nat.le_of_ble_eq_true rfl) ?_
  intro p e s m below meth c hx hb hr hts hown hlocks hml hB ls hl
  obtain ⟨hP, hK, hN⟩ := hB
  obtain ⟨⟨hn1, hn1b⟩, h78, ⟨hn2, hn2b⟩, h12, ⟨hnL, hnLb⟩, h15, ⟨hn4, hn4b⟩, ⟨hn5, hn5b⟩, hrd5, hd0⟩ := id hI
  have hq7 : nF g i < 7 := (h78 i hi).1.2
  have hq8 : nV g i < 7 := (h78 i hi).2.1.2
  have hl : lv_has ls 5 [(0, .ref (ad 0)), (1, .int (nI i)), (2, .int sn), (3, .int op)] := hl
  have hk0 := hts (.fieldLink RX5 12 "DatamarketDesk" "shelf" "LDatamarketDesk$Shelf;") (by decide +kernel)
  have hinX5 : ∀ w ∈ wsX50, w ∈ wsX5_mayBeSeen := by decide +kernel
  have hinX4 : ∀ w ∈ wsX40, w ∈ wsX5_mayBeSeen := by decide +kernel
  refine lv_aload_n hx hb dX5_mayBeSeen_0 rfl (lv_at hl 0 rfl) ?_
  refine va_get hx hb hts hinX5 hown hK hP 0 rfl rfl 0 (by decide) (hk0) (fun _ h9 => h9) rfl dX5_mayBeSeen_1 ?_
  refine lv_iload_n hx hb dX5_mayBeSeen_4 rfl (lv_at hl 1 rfl) ?_
  refine zcVi (As := [.int (nI i)]) (rest := []) ⟨hx, hb, hml, hown, hts⟩ (c_X4_allFields l D ty g ad n1 n2 nL n4 n5 hI i (by omega)) (cwV 1 hts gX5_mayBeSeen_X4_allFields rfl rfl rfl (by decide +kernel) ⟨Nat.le_of_ble_eq_true rfl, Nat.le_of_ble_eq_true rfl⟩) zI_blind (zI_pre hP hK hN) (va_recv hK hP (ci := 4) (q0 := 1) rfl rfl) rfl hl.1 rfl (Nat.le_of_ble_eq_true rfl) dX5_mayBeSeen_5 ⟨Nat.le_of_ble_eq_true rfl, Nat.le_of_ble_eq_true rfl⟩ (fun r_1 hr_1 => ?_)
  subst hr_1
  refine lv_istore (lv' := [(4, .int (allF g i)), (0, .ref (ad 0)), (1, .int (nI i)), (2, .int sn), (3, .int op)]) hx hb dX5_mayBeSeen_8 hl (by decide) rfl (fun ls hl => ?_)
  refine lv_iload_n hx hb dX5_mayBeSeen_10 rfl (lv_at hl 3 rfl) ?_
  refine zcSi (As := [.int sn]) (rest := []) ⟨hx, hb, hml, hown, hts⟩ (c_J6_bitCount l _ sn) (va_cwS 1 hts gX5_mayBeSeen_J6_bitCount_0f7a4 rfl rfl rfl (by decide +kernel) ⟨Nat.le_of_ble_eq_true rfl, Nat.le_of_ble_eq_true rfl⟩) (B := fun _ => True) (fun _ _ _ _ _ => trivial) (fun _ _ _ => trivial) rfl hl.1 rfl (Nat.le_of_ble_eq_true rfl) dX5_mayBeSeen_11 ⟨Nat.le_of_ble_eq_true rfl, Nat.le_of_ble_eq_true rfl⟩ (fun r_2 hr_2 => ?_)
  subst hr_2
  refine lv_aload_n hx hb dX5_mayBeSeen_14 rfl (lv_at hl 1 rfl) ?_
  refine va_get hx hb hts hinX5 hown hK hP 0 rfl rfl 0 (by decide) (hk0) (fun _ h9 => h9) rfl dX5_mayBeSeen_15 ?_
  refine va_getN hx hb hts hinX4 hown hK hP 1 rfl rfl 1 (by decide) (zN.use hN (List.mem_of_getElem? (i := 2) rfl)) (fun _ h9 => h9) rfl dX5_mayBeSeen_18 ?_
  refine lv_iload_n hx hb dX5_mayBeSeen_21 rfl (lv_at hl 2 rfl) ?_
  refine zald hx hb hK hP 7 0 rfl rfl (i := i) (by omega) (by decide) dX5_mayBeSeen_22 ?_
  have b_3 : nF g i < 7 := (h78 _ (by omega)).1.2
  refine zeq (show g 7 i = nI (nF g i) from (h78 _ (by omega)).1.1) ?_
  refine lv_iconst (v := nI 1) hx hb dX5_mayBeSeen_23 (by decide) ?_
  refine lv_iadd hx hb dX5_mayBeSeen_24 ?_
  refine zeq (nI_add (nF g i) 1) ?_
  refine lv_iconst (v := nI 2) hx hb dX5_mayBeSeen_25 (by decide) ?_
  refine lv_idiv hx hb dX5_mayBeSeen_26 (by decide) ?_
  refine zeq (pk_div (a := (nF g i) + 1) (d := 2) (by omega) (by omega) (by omega)) ?_
  refine lv_icmp_le (tgt := 32) hx hb dX5_mayBeSeen_27 (by decide) (fun c_4 => ?_) (fun c_4 => ?_)
  · refine lv_iload_n hx hb dX5_mayBeSeen_32 rfl (lv_at hl 4 rfl) ?_
    refine lv_iload hx hb dX5_mayBeSeen_33 (lv_at hl 0 rfl) ?_
    refine lv_icmp_eq (tgt := 46) hx hb dX5_mayBeSeen_35 (by decide) (fun c_5 => ?_) (fun c_5 => ?_)
    · refine lv_iconst (v := nI 1) hx hb dX5_mayBeSeen_46 (by decide) ?_
      refine lv_goto (tgt := 51) hx hb dX5_mayBeSeen_47 (by decide) ?_
      exact W.zret (v := nI 1) hx hb hr rfl (fun t ht hW => ⟨_, rfl, bI_n1 (by simp only [mayB, decide_eq_true c_4, decide_eq_true c_5, Bool.not_true, Bool.not_false, Bool.and_true, Bool.true_and, Bool.and_false, Bool.false_and, Bool.or_true, Bool.true_or, Bool.or_false, Bool.false_or, Bool.and_self, Bool.or_self]), ht⟩) (fun _ h => nomatch h) dX5_mayBeSeen_51
    · refine lv_iload_n hx hb dX5_mayBeSeen_38 rfl (lv_at hl 3 rfl) ?_
      refine lv_iload_n hx hb dX5_mayBeSeen_39 rfl (lv_at hl 4 rfl) ?_
      refine lv_ior hx hb dX5_mayBeSeen_40 ?_
      refine lv_iload hx hb dX5_mayBeSeen_41 (lv_at hl 0 rfl) ?_
      refine lv_icmp_eq (tgt := 50) hx hb dX5_mayBeSeen_43 (by decide) (fun c_6 => ?_) (fun c_6 => ?_)
      · refine lv_iconst (v := nI 0) hx hb dX5_mayBeSeen_50 (by decide) ?_
        exact W.zret (v := nI 0) hx hb hr rfl (fun t ht hW => ⟨_, rfl, bI_n0 (by simp only [mayB, decide_eq_true c_4, decide_eq_false c_5, decide_eq_true c_6, Bool.not_true, Bool.not_false, Bool.and_true, Bool.true_and, Bool.and_false, Bool.false_and, Bool.or_true, Bool.true_or, Bool.or_false, Bool.false_or, Bool.and_self, Bool.or_self]), ht⟩) (fun _ h => nomatch h) dX5_mayBeSeen_51
      · refine lv_iconst (v := nI 1) hx hb dX5_mayBeSeen_46 (by decide) ?_
        refine lv_goto (tgt := 51) hx hb dX5_mayBeSeen_47 (by decide) ?_
        exact W.zret (v := nI 1) hx hb hr rfl (fun t ht hW => ⟨_, rfl, bI_n1 (by simp only [mayB, decide_eq_true c_4, decide_eq_false c_5, decide_eq_false c_6, Bool.not_true, Bool.not_false, Bool.and_true, Bool.true_and, Bool.and_false, Bool.false_and, Bool.or_true, Bool.true_or, Bool.or_false, Bool.false_or, Bool.and_self, Bool.or_self]), ht⟩) (fun _ h => nomatch h) dX5_mayBeSeen_51
  · refine lv_iconst (v := nI 0) hx hb dX5_mayBeSeen_30 (by decide) ?_
    exact W.zret (v := nI 0) hx hb hr rfl (fun t ht hW => ⟨_, rfl, bI_n0 (by simp only [mayB, decide_eq_false c_4, Bool.not_true, Bool.not_false, Bool.and_true, Bool.true_and, Bool.and_false, Bool.false_and, Bool.or_true, Bool.true_or, Bool.or_false, Bool.false_or, Bool.and_self, Bool.or_self]), ht⟩) (fun _ h => nomatch h) dX5_mayBeSeen_31
set_option maxHeartbeats 4000000 in
set_option maxRecDepth 100000 in
theorem c_X5_needsContract (l : Launch) (D : va_G) (ty : Nat → ClassId) (g : Nat → Nat → Int32) (ad : Nat → Nat) (n1 n2 nL n4 n5 : Nat) (hI : dI g n1 n2 nL n4 n5) (r0 c0 : Nat) (hr0 : r0 < n5) (hc0 : c0 < n4) : Met l yX5_needsContract wsX5_needsContract ({ frames := 3, cells := 0, slots := 0, locals := 74 }) (va_Pc [.ref (ad 0), .int (nI r0), .int (nI c0)] (zI D ty g ad)) (vp_Si (fun v => v = bI (needB g n4 r0 c0))) 0 0 (fun _ => False) := by
  refine zMet (cc := cX5_needsContract) (maxL := 8) (ret := (some .boolean)) (by decide) rfl (Nat.le_of_ble_eq_true rfl) ?_
  intro p e s m below meth c hx hb hr hts hown hlocks hml hB ls hl
  obtain ⟨hP, hK, hN⟩ := hB
  obtain ⟨⟨hn1, hn1b⟩, h78, ⟨hn2, hn2b⟩, h12, ⟨hnL, hnLb⟩, h15, ⟨hn4, hn4b⟩, ⟨hn5, hn5b⟩, hrd5, hd0⟩ := id hI
  have hl : lv_has ls 8 [(0, .ref (ad 0)), (1, .int (nI r0)), (2, .int (nI c0))] := hl
  have hk0 := hts (.fieldLink RX5 40 "DatamarketDesk" "reads" "LDatamarketDesk$Reads;") (by decide +kernel)
  have hinX5 : ∀ w ∈ wsX50, w ∈ wsX5_needsContract := by decide +kernel
  have hinX3 : ∀ w ∈ wsX30, w ∈ wsX5_needsContract := by decide +kernel
  have hk3 := hts (.fieldLink RX5 33 "DatamarketDesk" "contracts" "LDatamarketDesk$Contracts;") (by decide +kernel)
  have hinX0 : ∀ w ∈ wsX00, w ∈ wsX5_needsContract := by decide +kernel
  refine lv_aload_n hx hb dX5_needsContract_0 rfl (lv_at hl 0 rfl) ?_
  refine va_get hx hb hts hinX5 hown hK hP 0 rfl rfl 4 (by decide) (hk0) (fun _ h9 => h9) rfl dX5_needsContract_1 ?_
  refine va_getN hx hb hts hinX3 hown hK hP 5 rfl rfl 1 (by decide) (zN.use hN (List.mem_of_getElem? (i := 16) rfl)) (fun _ h9 => h9) rfl dX5_needsContract_4 ?_
  refine lv_iload_n hx hb dX5_needsContract_7 rfl (lv_at hl 1 rfl) ?_
  refine zald hx hb hK hP 29 0 rfl rfl (i := r0) (by omega) (by decide) dX5_needsContract_8 ?_
  refine lv_istore_n (lv' := [(3, .int (g 29 r0)), (0, .ref (ad 0)), (1, .int (nI r0)), (2, .int (nI c0))]) hx hb dX5_needsContract_9 rfl hl (by decide) rfl (fun ls hl => ?_)
  refine lv_aload_n hx hb dX5_needsContract_10 rfl (lv_at hl 1 rfl) ?_
  refine va_get hx hb hts hinX5 hown hK hP 0 rfl rfl 4 (by decide) (hk0) (fun _ h9 => h9) rfl dX5_needsContract_11 ?_
  refine va_getN hx hb hts hinX3 hown hK hP 5 rfl rfl 2 (by decide) (zN.use hN (List.mem_of_getElem? (i := 17) rfl)) (fun _ h9 => h9) rfl dX5_needsContract_14 ?_
  refine lv_iload_n hx hb dX5_needsContract_17 rfl (lv_at hl 2 rfl) ?_
  refine zald hx hb hK hP 30 0 rfl rfl (i := r0) (by omega) (by decide) dX5_needsContract_18 ?_
  refine lv_istore (lv' := [(4, .int (g 30 r0)), (3, .int (g 29 r0)), (0, .ref (ad 0)), (1, .int (nI r0)), (2, .int (nI c0))]) hx hb dX5_needsContract_19 hl (by decide) rfl (fun ls hl => ?_)
  refine lv_iconst (v := nI 1) hx hb dX5_needsContract_21 (by decide) ?_
  refine lv_aload_n hx hb dX5_needsContract_22 rfl (lv_at hl 2 rfl) ?_
  refine va_get hx hb hts hinX5 hown hK hP 0 rfl rfl 4 (by decide) (hk0) (fun _ h9 => h9) rfl dX5_needsContract_23 ?_
  refine va_getN hx hb hts hinX3 hown hK hP 5 rfl rfl 6 (by decide) (zN.use hN (List.mem_of_getElem? (i := 21) rfl)) (fun _ h9 => h9) rfl dX5_needsContract_26 ?_
  refine lv_iload_n hx hb dX5_needsContract_29 rfl (lv_at hl 3 rfl) ?_
  refine zald hx hb hK hP 34 0 rfl rfl (i := r0) (by omega) (by decide) dX5_needsContract_30 ?_
  refine lv_ishl hx hb dX5_needsContract_31 ?_
  refine lv_istore (lv' := [(5, .int ((nI 1) <<< ((g 34 r0) &&& 31))), (4, .int (g 30 r0)), (3, .int (g 29 r0)), (0, .ref (ad 0)), (1, .int (nI r0)), (2, .int (nI c0))]) hx hb dX5_needsContract_32 hl (by decide) rfl (fun ls hl => ?_)
  refine lv_aload_n hx hb dX5_needsContract_34 rfl (lv_at hl 3 rfl) ?_
  refine va_get hx hb hts hinX5 hown hK hP 0 rfl rfl 4 (by decide) (hk0) (fun _ h9 => h9) rfl dX5_needsContract_35 ?_
  refine va_getN hx hb hts hinX3 hown hK hP 5 rfl rfl 7 (by decide) (zN.use hN (List.mem_of_getElem? (i := 22) rfl)) (fun _ h9 => h9) rfl dX5_needsContract_38 ?_
  refine lv_iload_n hx hb dX5_needsContract_41 rfl (lv_at hl 4 rfl) ?_
  refine zald hx hb hK hP 35 0 rfl rfl (i := r0) (by omega) (by decide) dX5_needsContract_42 ?_
  refine lv_istore (lv' := [(6, .int (g 35 r0)), (5, .int ((nI 1) <<< ((g 34 r0) &&& 31))), (4, .int (g 30 r0)), (3, .int (g 29 r0)), (0, .ref (ad 0)), (1, .int (nI r0)), (2, .int (nI c0))]) hx hb dX5_needsContract_43 hl (by decide) rfl (fun ls hl => ?_)
  refine lv_aload_n hx hb dX5_needsContract_45 rfl (lv_at hl 4 rfl) ?_
  refine va_get hx hb hts hinX5 hown hK hP 0 rfl rfl 3 (by decide) (hk3) (fun _ h9 => h9) rfl dX5_needsContract_46 ?_
  refine lv_iload_n hx hb dX5_needsContract_49 rfl (lv_at hl 6 rfl) ?_
  refine lv_iload_n hx hb dX5_needsContract_50 rfl (lv_at hl 3 rfl) ?_
  refine lv_iload hx hb dX5_needsContract_51 (lv_at hl 2 rfl) ?_
  refine lv_iload hx hb dX5_needsContract_53 (lv_at hl 1 rfl) ?_
  refine lv_iload hx hb dX5_needsContract_55 (lv_at hl 0 rfl) ?_
  refine zcVi (As := [.int (nI c0), .int (g 29 r0), .int (g 30 r0), .int ((nI 1) <<< ((g 34 r0) &&& 31)), .int (g 35 r0)]) (rest := []) ⟨hx, hb, hml, hown, hts⟩ (c_X0_isFor l D ty g ad c0 (by omega) (g 29 r0) (g 30 r0) ((nI 1) <<< ((g 34 r0) &&& 31)) (g 35 r0)) (cwV 5 hts gX5_needsContract_X0_isFor rfl rfl rfl (by decide +kernel) ⟨Nat.le_of_ble_eq_true rfl, Nat.le_of_ble_eq_true rfl⟩) zI_blind (zI_pre hP hK hN) (va_recv hK hP (ci := 0) (q0 := 4) rfl rfl) rfl hl.1 rfl (Nat.le_of_ble_eq_true rfl) dX5_needsContract_57 ⟨Nat.le_of_ble_eq_true rfl, Nat.le_of_ble_eq_true rfl⟩ (fun r_1 hr_1 => ?_)
  subst hr_1
  refine lv_if_ne (tgt := 65) hx hb dX5_needsContract_60 (by decide) (fun c_2 => ?_) (fun c_2 => ?_)
  · have c_2 := bI_t c_2
    refine lv_aload_n hx hb dX5_needsContract_65 rfl (lv_at hl 4 rfl) ?_
    refine va_get hx hb hts hinX5 hown hK hP 0 rfl rfl 3 (by decide) (hk3) (fun _ h9 => h9) rfl dX5_needsContract_66 ?_
    refine lv_iload_n hx hb dX5_needsContract_69 rfl (lv_at hl 3 rfl) ?_
    refine lv_iload hx hb dX5_needsContract_70 (lv_at hl 2 rfl) ?_
    refine lv_iload hx hb dX5_needsContract_72 (lv_at hl 1 rfl) ?_
    refine lv_iload hx hb dX5_needsContract_74 (lv_at hl 0 rfl) ?_
    refine lv_iload_n hx hb dX5_needsContract_76 rfl (lv_at hl 6 rfl) ?_
    refine zcVi (As := [.int (g 29 r0), .int (g 30 r0), .int ((nI 1) <<< ((g 34 r0) &&& 31)), .int (g 35 r0), .int (nI c0)]) (rest := []) ⟨hx, hb, hml, hown, hts⟩ (c_X0_open l D ty g ad n4 hn4 hn4b (g 29 r0) (g 30 r0) ((nI 1) <<< ((g 34 r0) &&& 31)) (g 35 r0) (nI c0)) (cwV 5 hts gX5_needsContract_X0_open rfl rfl rfl (by decide +kernel) ⟨Nat.le_of_ble_eq_true rfl, Nat.le_of_ble_eq_true rfl⟩) zI_blind (zI_pre hP hK hN) (va_recv hK hP (ci := 0) (q0 := 4) rfl rfl) rfl hl.1 rfl (Nat.le_of_ble_eq_true rfl) dX5_needsContract_77 ⟨Nat.le_of_ble_eq_true rfl, Nat.le_of_ble_eq_true rfl⟩ (fun r_3 hr_3 => ?_)
    subst hr_3
    refine lv_istore (lv' := [(7, .int (orN (fOpen g (g 29 r0) (g 30 r0) ((nI 1) <<< ((g 34 r0) &&& 31)) (g 35 r0) (nI c0)) n4)), (6, .int (g 35 r0)), (5, .int ((nI 1) <<< ((g 34 r0) &&& 31))), (4, .int (g 30 r0)), (3, .int (g 29 r0)), (0, .ref (ad 0)), (1, .int (nI r0)), (2, .int (nI c0))]) hx hb dX5_needsContract_80 hl (by decide) rfl (fun ls hl => ?_)
    refine lv_aload_n hx hb dX5_needsContract_82 rfl (lv_at hl 5 rfl) ?_
    refine va_get hx hb hts hinX5 hown hK hP 0 rfl rfl 4 (by decide) (hk0) (fun _ h9 => h9) rfl dX5_needsContract_83 ?_
    refine va_getN hx hb hts hinX3 hown hK hP 5 rfl rfl 4 (by decide) (zN.use hN (List.mem_of_getElem? (i := 19) rfl)) (fun _ h9 => h9) rfl dX5_needsContract_86 ?_
    refine lv_iload_n hx hb dX5_needsContract_89 rfl (lv_at hl 6 rfl) ?_
    refine zald hx hb hK hP 32 0 rfl rfl (i := r0) (by omega) (by decide) dX5_needsContract_90 ?_
    refine lv_aload_n hx hb dX5_needsContract_91 rfl (lv_at hl 5 rfl) ?_
    refine va_get hx hb hts hinX5 hown hK hP 0 rfl rfl 3 (by decide) (hk3) (fun _ h9 => h9) rfl dX5_needsContract_92 ?_
    refine va_getN hx hb hts hinX0 hown hK hP 4 rfl rfl 3 (by decide) (zN.use hN (List.mem_of_getElem? (i := 13) rfl)) (fun _ h9 => h9) rfl dX5_needsContract_95 ?_
    refine lv_iload_n hx hb dX5_needsContract_98 rfl (lv_at hl 7 rfl) ?_
    refine zald hx hb hK hP 25 0 rfl rfl (i := c0) (by omega) (by decide) dX5_needsContract_99 ?_
    refine lv_iand hx hb dX5_needsContract_100 ?_
    refine lv_iload hx hb dX5_needsContract_101 (lv_at hl 0 rfl) ?_
    refine lv_iconst (v := -1) hx hb dX5_needsContract_103 (by decide) ?_
    refine lv_ixor hx hb dX5_needsContract_104 ?_
    refine lv_iand hx hb dX5_needsContract_105 ?_
    refine lv_if_eq (tgt := 113) hx hb dX5_needsContract_106 (by decide) (fun c_4 => ?_) (fun c_4 => ?_)
    · refine lv_iconst (v := nI 0) hx hb dX5_needsContract_113 (by decide) ?_
      exact W.zret (v := nI 0) hx hb hr rfl (fun t ht hW => ⟨_, rfl, bI_n0 (by simp only [needB, c_2, decide_eq_true c_4, Bool.not_true, Bool.not_false, Bool.and_true, Bool.true_and, Bool.and_false, Bool.false_and, Bool.or_true, Bool.true_or, Bool.or_false, Bool.false_or, Bool.and_self, Bool.or_self]), ht⟩) (fun _ h => nomatch h) dX5_needsContract_114
    · refine lv_iconst (v := nI 1) hx hb dX5_needsContract_109 (by decide) ?_
      refine lv_goto (tgt := 114) hx hb dX5_needsContract_110 (by decide) ?_
      exact W.zret (v := nI 1) hx hb hr rfl (fun t ht hW => ⟨_, rfl, bI_n1 (by simp only [needB, c_2, decide_eq_false c_4, Bool.not_true, Bool.not_false, Bool.and_true, Bool.true_and, Bool.and_false, Bool.false_and, Bool.or_true, Bool.true_or, Bool.or_false, Bool.false_or, Bool.and_self, Bool.or_self]), ht⟩) (fun _ h => nomatch h) dX5_needsContract_114
  · have c_2 := bI_f c_2
    refine lv_iconst (v := nI 0) hx hb dX5_needsContract_63 (by decide) ?_
    exact W.zret (v := nI 0) hx hb hr rfl (fun t ht hW => ⟨_, rfl, bI_n0 (by simp only [needB, c_2, Bool.not_true, Bool.not_false, Bool.and_true, Bool.true_and, Bool.and_false, Bool.false_and, Bool.or_true, Bool.true_or, Bool.or_false, Bool.false_or, Bool.and_self, Bool.or_self]), ht⟩) (fun _ h => nomatch h) dX5_needsContract_64
set_option maxHeartbeats 4000000 in
set_option maxRecDepth 100000 in
theorem c_X5_neededBy (l : Launch) (D : va_G) (ty : Nat → ClassId) (g : Nat → Nat → Int32) (ad : Nat → Nat) (n1 n2 nL n4 n5 : Nat) (hI : dI g n1 n2 nL n4 n5) (c0 : Nat) (hc0 : c0 < n4) : Met l yX5_neededBy wsX5_neededBy ({ frames := 4, cells := 0, slots := 0, locals := 101 }) (va_Pc [.ref (ad 0), .int (nI c0)] (zI D ty g ad)) (vp_Si (fun v => v = sumN (fNeed g n4 c0) n5)) 0 0 (fun _ => False) := by
  refine zMet (cc := cX5_neededBy) (maxL := 4) (ret := (some .int)) (by decide) rfl (Nat.le_of_ble_eq_true rfl) ?_
  intro p e s m below meth c hx hb hr hts hown hlocks hml hB ls hl
  obtain ⟨hP, hK, hN⟩ := hB
  obtain ⟨⟨hn1, hn1b⟩, h78, ⟨hn2, hn2b⟩, h12, ⟨hnL, hnLb⟩, h15, ⟨hn4, hn4b⟩, ⟨hn5, hn5b⟩, hrd5, hd0⟩ := id hI
  have hl : lv_has ls 4 [(0, .ref (ad 0)), (1, .int (nI c0))] := hl
  have hk0 := hts (.fieldLink RX5 40 "DatamarketDesk" "reads" "LDatamarketDesk$Reads;") (by decide +kernel)
  have hinX5 : ∀ w ∈ wsX50, w ∈ wsX5_neededBy := by decide +kernel
  have hinX3 : ∀ w ∈ wsX30, w ∈ wsX5_neededBy := by decide +kernel
  refine lv_aload_n hx hb dX5_neededBy_0 rfl (lv_at hl 0 rfl) ?_
  refine lv_iload_n hx hb dX5_neededBy_1 rfl (lv_at hl 1 rfl) ?_
  refine zcVv (As := [.int (nI c0)]) (rest := []) ⟨hx, hb, hml, hown, hts⟩ (c_X5_needContract l D ty g ad n1 n2 nL n4 n5 hI c0 (by omega)) (cwV 1 hts gX5_neededBy_X5_needContract rfl rfl rfl (by decide +kernel) ⟨Nat.le_of_ble_eq_true rfl, Nat.le_of_ble_eq_true rfl⟩) zI_blind (zI_pre hP hK hN) (va_recv hK hP (ci := 5) (q0 := 0) rfl rfl) rfl hl.1 rfl (Nat.le_of_ble_eq_true rfl) dX5_neededBy_2 ⟨Nat.le_of_ble_eq_true rfl, Nat.le_of_ble_eq_true rfl⟩ (fun _ => ?_)
  refine lv_iconst (v := nI 0) hx hb dX5_neededBy_5 (by decide) ?_
  refine lv_istore_n (lv' := [(2, .int (nI 0)), (0, .ref (ad 0)), (1, .int (nI c0))]) hx hb dX5_neededBy_6 rfl hl (by decide) rfl (fun ls hl => ?_)
  refine lv_iconst (v := nI 0) hx hb dX5_neededBy_7 (by decide) ?_
  refine lv_istore_n (lv' := [(3, .int (nI 0)), (2, .int (nI 0)), (0, .ref (ad 0)), (1, .int (nI c0))]) hx hb dX5_neededBy_8 rfl hl (by decide) rfl (fun ls hl => ?_)
  refine zloopP (τ := Unit) (fun i _ ls => lv_has ls 4 [(2, .int (sumN (fNeed g n4 c0) i)), (3, .int (nI i)), (0, .ref (ad 0)), (1, .int (nI c0))]) n5 ?_ 0 () ls (Nat.zero_le _) (lv_sub hl [1, 0, 2, 3] rfl)
  intro i _ ls hi_i hl ih_i
  have hl : lv_has ls 4 [(2, .int (sumN (fNeed g n4 c0) i)), (3, .int (nI i)), (0, .ref (ad 0)), (1, .int (nI c0))] := hl
  refine lv_iload_n hx hb dX5_neededBy_9 rfl (lv_at hl 1 rfl) ?_
  refine lv_aload_n hx hb dX5_neededBy_10 rfl (lv_at hl 2 rfl) ?_
  refine va_get hx hb hts hinX5 hown hK hP 0 rfl rfl 4 (by decide) (hk0) (fun _ h9 => h9) rfl dX5_neededBy_11 ?_
  refine va_getN hx hb hts hinX3 hown hK hP 5 rfl rfl 0 (by decide) (zN.use hN (List.mem_of_getElem? (i := 15) rfl)) (fun _ h9 => h9) rfl dX5_neededBy_14 ?_
  refine zeq hn5 ?_
  refine lv_icmp_ge (tgt := 38) hx hb dX5_neededBy_17 (by decide) (fun c_2 => ?_) (fun c_2 => ?_)
  · have c_2 := zn_geT (a := i) (b := n5) (by omega) (by omega) c_2
    obtain rfl : i = n5 := by omega
    refine lv_iload_n hx hb dX5_neededBy_38 rfl (lv_at hl 0 rfl) ?_
    exact W.iret (v := sumN (fNeed g n4 c0) i) hx hb hr (fun t ht hW => ⟨_, rfl, rfl, ht⟩) (fun _ h => nomatch h) dX5_neededBy_39
  · have c_2 := zn_geF (a := i) (b := n5) (by omega) (by omega) c_2
    refine lv_aload_n hx hb dX5_neededBy_20 rfl (lv_at hl 2 rfl) ?_
    refine lv_iload_n hx hb dX5_neededBy_21 rfl (lv_at hl 1 rfl) ?_
    refine lv_iload_n hx hb dX5_neededBy_22 rfl (lv_at hl 3 rfl) ?_
    refine zcVi (As := [.int (nI i), .int (nI c0)]) (rest := []) ⟨hx, hb, hml, hown, hts⟩ (c_X5_needsContract l D ty g ad n1 n2 nL n4 n5 hI i c0 (by omega) (by omega)) (cwV 2 hts gX5_neededBy_X5_needsContract rfl rfl rfl (by decide +kernel) ⟨Nat.le_of_ble_eq_true rfl, Nat.le_of_ble_eq_true rfl⟩) zI_blind (zI_pre hP hK hN) (va_recv hK hP (ci := 5) (q0 := 0) rfl rfl) rfl hl.1 rfl (Nat.le_of_ble_eq_true rfl) dX5_neededBy_23 ⟨Nat.le_of_ble_eq_true rfl, Nat.le_of_ble_eq_true rfl⟩ (fun r_3 hr_3 => ?_)
    subst hr_3
    refine lv_if_eq (tgt := 32) hx hb dX5_neededBy_26 (by decide) (fun c_4 => ?_) (fun c_4 => ?_)
    · have c_4 := bI_f c_4
      refine lv_iinc (v := nI (i + 1)) (lv' := [(3, .int (nI (i + 1))), (2, .int (sumN (fNeed g n4 c0) i)), (0, .ref (ad 0)), (1, .int (nI c0))]) hx hb dX5_neededBy_32 hl (k := 1) rfl (nI_add i 1) (by decide) rfl (fun ls hl => ?_)
      refine lv_goto (tgt := 9) hx hb dX5_neededBy_35 (by decide) ?_
      refine ih_i () ls (by omega) (show lv_has ls 4 [(2, .int (sumN (fNeed g n4 c0) (i + 1))), (3, .int (nI (i + 1))), (0, .ref (ad 0)), (1, .int (nI c0))] from ?_)
      rw [show sumN (fNeed g n4 c0) (i + 1) = sumN (fNeed g n4 c0) i from by simp_all [sumN_s, fNeed]]
      exact lv_sub hl [1, 0, 2, 3] rfl
    · have c_4 := bI_t c_4
      refine lv_iinc (v := (sumN (fNeed g n4 c0) i) + 1) (lv' := [(2, .int ((sumN (fNeed g n4 c0) i) + 1)), (3, .int (nI i)), (0, .ref (ad 0)), (1, .int (nI c0))]) hx hb dX5_neededBy_29 hl (k := 0) rfl (rfl) (by decide) rfl (fun ls hl => ?_)
      refine lv_iinc (v := nI (i + 1)) (lv' := [(3, .int (nI (i + 1))), (2, .int ((sumN (fNeed g n4 c0) i) + 1)), (0, .ref (ad 0)), (1, .int (nI c0))]) hx hb dX5_neededBy_32 hl (k := 1) rfl (nI_add i 1) (by decide) rfl (fun ls hl => ?_)
      refine lv_goto (tgt := 9) hx hb dX5_neededBy_35 (by decide) ?_
      refine ih_i () ls (by omega) (show lv_has ls 4 [(2, .int (sumN (fNeed g n4 c0) (i + 1))), (3, .int (nI (i + 1))), (0, .ref (ad 0)), (1, .int (nI c0))] from ?_)
      rw [show sumN (fNeed g n4 c0) (i + 1) = (sumN (fNeed g n4 c0) i) + 1 from by simp_all [sumN_s, fNeed]]
      exact lv_sub hl [1, 0, 2, 3] rfl
set_option maxHeartbeats 4000000 in
set_option maxRecDepth 100000 in
theorem c_X5_harmedFields (l : Launch) (D : va_G) (ty : Nat → ClassId) (g : Nat → Nat → Int32) (ad : Nat → Nat) (n1 n2 nL n4 n5 : Nat) (hI : dI g n1 n2 nL n4 n5) (i : Nat) (hi : i < n1) : Met l yX5_harmedFields wsX5_harmedFields ({ frames := 1, cells := 0, slots := 0, locals := 22 }) (va_Pc [.ref (ad 0), .int (nI i)] (zI D ty g ad)) (vp_Si (fun v => v = harmedN g i)) 0 0 (fun _ => False) := by
  refine zMet (cc := cX5_harmedFields) (maxL := 5) (ret := (some .int)) (by decide) rfl (Nat.le_of_ble_eq_true rfl) ?_
  intro p e s m below meth c hx hb hr hts hown hlocks hml hB ls hl
  obtain ⟨hP, hK, hN⟩ := hB
  obtain ⟨⟨hn1, hn1b⟩, h78, ⟨hn2, hn2b⟩, h12, ⟨hnL, hnLb⟩, h15, ⟨hn4, hn4b⟩, ⟨hn5, hn5b⟩, hrd5, hd0⟩ := id hI
  have hq7 : nF g i < 7 := (h78 i hi).1.2
  have hq8 : nV g i < 7 := (h78 i hi).2.1.2
  have hl : lv_has ls 5 [(0, .ref (ad 0)), (1, .int (nI i))] := hl
  have hk0 := hts (.fieldLink RX5 12 "DatamarketDesk" "shelf" "LDatamarketDesk$Shelf;") (by decide +kernel)
  have hinX5 : ∀ w ∈ wsX50, w ∈ wsX5_harmedFields := by decide +kernel
  have hinX4 : ∀ w ∈ wsX40, w ∈ wsX5_harmedFields := by decide +kernel
  have hk3 := hts (.fieldLink RX5 26 "DatamarketDesk" "harms" "LDatamarketDesk$Harms;") (by decide +kernel)
  have hinX1 : ∀ w ∈ wsX10, w ∈ wsX5_harmedFields := by decide +kernel
  rcases Nat.eq_zero_or_pos (nV g i) with hv0 | hv0
  · refine lv_aload_n hx hb dX5_harmedFields_0 rfl (lv_at hl 0 rfl) ?_
    refine va_get hx hb hts hinX5 hown hK hP 0 rfl rfl 0 (by decide) (hk0) (fun _ h9 => h9) rfl dX5_harmedFields_1 ?_
    refine lv_iload_n hx hb dX5_harmedFields_4 rfl (lv_at hl 1 rfl) ?_
    refine zcVi (As := [.int (nI i)]) (rest := []) ⟨hx, hb, hml, hown, hts⟩ (c_X4_latestVersion_0 l D ty g ad i (by omega) (h78 _ (by omega)).2.1 hv0) (cwV 1 hts gX5_harmedFields_X4_latestVersion rfl rfl rfl (by decide +kernel) ⟨Nat.le_of_ble_eq_true rfl, Nat.le_of_ble_eq_true rfl⟩) zI_blind (zI_pre hP hK hN) (va_recv hK hP (ci := 4) (q0 := 1) rfl rfl) rfl hl.1 rfl (Nat.le_of_ble_eq_true rfl) dX5_harmedFields_5 ⟨Nat.le_of_ble_eq_true rfl, Nat.le_of_ble_eq_true rfl⟩ (fun r_1 hr_1 => ?_)
    subst hr_1
    refine lv_istore_n (lv' := [(2, .int (-1)), (0, .ref (ad 0)), (1, .int (nI i))]) hx hb dX5_harmedFields_8 rfl hl (by decide) rfl (fun ls hl => ?_)
    refine lv_iload_n hx hb dX5_harmedFields_9 rfl (lv_at hl 0 rfl) ?_
    refine lv_iconst (v := -1) hx hb dX5_harmedFields_10 (by decide) ?_
    refine lv_icmp_ne (tgt := 16) hx hb dX5_harmedFields_11 (by decide) (fun c_2 => ?_) (fun c_2 => ?_)
    · exact absurd rfl c_2
    · refine lv_iconst (v := nI 0) hx hb dX5_harmedFields_14 (by decide) ?_
      exact W.iret (v := nI 0) hx hb hr (fun t ht hW => ⟨_, rfl, by simp only [harmedN, if_pos hv0], ht⟩) (fun _ h => nomatch h) dX5_harmedFields_15
  · refine lv_aload_n hx hb dX5_harmedFields_0 rfl (lv_at hl 0 rfl) ?_
    refine va_get hx hb hts hinX5 hown hK hP 0 rfl rfl 0 (by decide) (hk0) (fun _ h9 => h9) rfl dX5_harmedFields_1 ?_
    refine lv_iload_n hx hb dX5_harmedFields_4 rfl (lv_at hl 1 rfl) ?_
    refine zcVi (As := [.int (nI i)]) (rest := []) ⟨hx, hb, hml, hown, hts⟩ (c_X4_latestVersion_p l D ty g ad i (by omega) (h78 _ (by omega)).2.1 hv0) (cwV 1 hts gX5_harmedFields_X4_latestVersion rfl rfl rfl (by decide +kernel) ⟨Nat.le_of_ble_eq_true rfl, Nat.le_of_ble_eq_true rfl⟩) zI_blind (zI_pre hP hK hN) (va_recv hK hP (ci := 4) (q0 := 1) rfl rfl) rfl hl.1 rfl (Nat.le_of_ble_eq_true rfl) dX5_harmedFields_5 ⟨Nat.le_of_ble_eq_true rfl, Nat.le_of_ble_eq_true rfl⟩ (fun r_3 hr_3 => ?_)
    subst hr_3
    refine lv_istore_n (lv' := [(2, .int (nI (nV g i - 1))), (0, .ref (ad 0)), (1, .int (nI i))]) hx hb dX5_harmedFields_8 rfl hl (by decide) rfl (fun ls hl => ?_)
    refine lv_iload_n hx hb dX5_harmedFields_9 rfl (lv_at hl 0 rfl) ?_
    refine lv_iconst (v := -1) hx hb dX5_harmedFields_10 (by decide) ?_
    refine lv_icmp_ne (tgt := 16) hx hb dX5_harmedFields_11 (by decide) (fun c_4 => ?_) (fun c_4 => ?_)
    · refine lv_iconst (v := nI 0) hx hb dX5_harmedFields_16 (by decide) ?_
      refine lv_istore_n (lv' := [(3, .int (nI 0)), (2, .int (nI (nV g i - 1))), (0, .ref (ad 0)), (1, .int (nI i))]) hx hb dX5_harmedFields_17 rfl hl (by decide) rfl (fun ls hl => ?_)
      refine lv_iconst (v := nI 0) hx hb dX5_harmedFields_18 (by decide) ?_
      refine lv_istore (lv' := [(4, .int (nI 0)), (3, .int (nI 0)), (2, .int (nI (nV g i - 1))), (0, .ref (ad 0)), (1, .int (nI i))]) hx hb dX5_harmedFields_19 hl (by decide) rfl (fun ls hl => ?_)
      refine zloopP (τ := Unit) (fun k _ ls => lv_has ls 5 [(3, .int (sumN (hfF g i) k)), (4, .int (nI k)), (0, .ref (ad 0)), (1, .int (nI i)), (2, .int (nI (nV g i - 1)))]) (nF g i) ?_ 0 () ls (Nat.zero_le _) (lv_sub hl [1, 0, 3, 4, 2] rfl)
      intro k _ ls hi_k hl ih_k
      have hl : lv_has ls 5 [(3, .int (sumN (hfF g i) k)), (4, .int (nI k)), (0, .ref (ad 0)), (1, .int (nI i)), (2, .int (nI (nV g i - 1)))] := hl
      refine lv_iload hx hb dX5_harmedFields_21 (lv_at hl 1 rfl) ?_
      refine lv_aload_n hx hb dX5_harmedFields_23 rfl (lv_at hl 2 rfl) ?_
      refine va_get hx hb hts hinX5 hown hK hP 0 rfl rfl 0 (by decide) (hk0) (fun _ h9 => h9) rfl dX5_harmedFields_24 ?_
      refine va_getN hx hb hts hinX4 hown hK hP 1 rfl rfl 1 (by decide) (zN.use hN (List.mem_of_getElem? (i := 2) rfl)) (fun _ h9 => h9) rfl dX5_harmedFields_27 ?_
      refine lv_iload_n hx hb dX5_harmedFields_30 rfl (lv_at hl 3 rfl) ?_
      refine zald hx hb hK hP 7 0 rfl rfl (i := i) (by omega) (by decide) dX5_harmedFields_31 ?_
      have b_5 : nF g i < 7 := (h78 _ (by omega)).1.2
      refine zeq (show g 7 i = nI (nF g i) from (h78 _ (by omega)).1.1) ?_
      refine lv_icmp_ge (tgt := 62) hx hb dX5_harmedFields_32 (by decide) (fun c_6 => ?_) (fun c_6 => ?_)
      · have c_6 := zn_geT (a := k) (b := (nF g i)) (by omega) (by omega) c_6
        obtain e9 : k = nF g i := by omega
        subst e9
        refine lv_iload_n hx hb dX5_harmedFields_62 rfl (lv_at hl 0 rfl) ?_
        exact W.iret (v := sumN (hfF g i) (nF g i)) hx hb hr (fun t ht hW => ⟨_, rfl, by simp only [harmedN, if_neg (Nat.pos_iff_ne_zero.mp hv0)], ht⟩) (fun _ h => nomatch h) dX5_harmedFields_63
      · have c_6 := zn_geF (a := k) (b := (nF g i)) (by omega) (by omega) c_6
        refine lv_aload_n hx hb dX5_harmedFields_35 rfl (lv_at hl 2 rfl) ?_
        refine va_get hx hb hts hinX5 hown hK hP 0 rfl rfl 2 (by decide) (hk3) (fun _ h9 => h9) rfl dX5_harmedFields_36 ?_
        refine va_getN hx hb hts hinX1 hown hK hP 3 rfl rfl 2 (by decide) (zN.use hN (List.mem_of_getElem? (i := 10) rfl)) (fun _ h9 => h9) rfl dX5_harmedFields_39 ?_
        refine lv_iload_n hx hb dX5_harmedFields_42 rfl (lv_at hl 3 rfl) ?_
        refine lv_iload_n hx hb dX5_harmedFields_43 rfl (lv_at hl 4 rfl) ?_
        refine lv_iload hx hb dX5_harmedFields_44 (lv_at hl 1 rfl) ?_
        refine zcSi (As := [.int (nI i), .int (nI (nV g i - 1)), .int (nI k)]) (rest := [.ref (ad 21)]) ⟨hx, hb, hml, hown, hts⟩ (c_X5_placeAt l _ i (nV g i - 1) k) (cwS 3 hts gX5_harmedFields_X5_placeAt rfl rfl rfl (by decide +kernel) ⟨Nat.le_of_ble_eq_true rfl, Nat.le_of_ble_eq_true rfl⟩) (B := fun _ => True) (fun _ _ _ _ _ => trivial) (fun _ _ _ => trivial) rfl hl.1 rfl (Nat.le_of_ble_eq_true rfl) dX5_harmedFields_46 ⟨Nat.le_of_ble_eq_true rfl, Nat.le_of_ble_eq_true rfl⟩ (fun r_7 hr_7 => ?_)
        subst hr_7
        refine zald hx hb hK hP 21 0 rfl rfl (i := (i * 6 + (nV g i - 1)) * 6 + k) (by omega) (by decide) dX5_harmedFields_49 ?_
        refine lv_if_le (tgt := 56) hx hb dX5_harmedFields_50 (by decide) (fun c_8 => ?_) (fun c_8 => ?_)
        · refine lv_iinc (v := nI (k + 1)) (lv' := [(4, .int (nI (k + 1))), (3, .int (sumN (hfF g i) k)), (0, .ref (ad 0)), (1, .int (nI i)), (2, .int (nI (nV g i - 1)))]) hx hb dX5_harmedFields_56 hl (k := 1) rfl (nI_add k 1) (by decide) rfl (fun ls hl => ?_)
          refine lv_goto (tgt := 21) hx hb dX5_harmedFields_59 (by decide) ?_
          refine ih_k () ls (by omega) (show lv_has ls 5 [(3, .int (sumN (hfF g i) (k + 1))), (4, .int (nI (k + 1))), (0, .ref (ad 0)), (1, .int (nI i)), (2, .int (nI (nV g i - 1)))] from ?_)
          rw [show sumN (hfF g i) (k + 1) = sumN (hfF g i) k from by simp_all [sumN_s, hfF]]
          exact lv_sub hl [1, 0, 2, 3, 4] rfl
        · refine lv_iinc (v := (sumN (hfF g i) k) + 1) (lv' := [(3, .int ((sumN (hfF g i) k) + 1)), (4, .int (nI k)), (0, .ref (ad 0)), (1, .int (nI i)), (2, .int (nI (nV g i - 1)))]) hx hb dX5_harmedFields_53 hl (k := 0) rfl (rfl) (by decide) rfl (fun ls hl => ?_)
          refine lv_iinc (v := nI (k + 1)) (lv' := [(4, .int (nI (k + 1))), (3, .int ((sumN (hfF g i) k) + 1)), (0, .ref (ad 0)), (1, .int (nI i)), (2, .int (nI (nV g i - 1)))]) hx hb dX5_harmedFields_56 hl (k := 1) rfl (nI_add k 1) (by decide) rfl (fun ls hl => ?_)
          refine lv_goto (tgt := 21) hx hb dX5_harmedFields_59 (by decide) ?_
          refine ih_k () ls (by omega) (show lv_has ls 5 [(3, .int (sumN (hfF g i) (k + 1))), (4, .int (nI (k + 1))), (0, .ref (ad 0)), (1, .int (nI i)), (2, .int (nI (nV g i - 1)))] from ?_)
          rw [show sumN (hfF g i) (k + 1) = (sumN (hfF g i) k) + 1 from by simp_all [sumN_s, hfF]]
          exact lv_sub hl [1, 0, 2, 3, 4] rfl
    · exact absurd c_4 (nI_ne_m1 (by omega))
set_option maxHeartbeats 4000000 in
set_option maxRecDepth 100000 in
theorem c_X5_ofSet (l : Launch) (D : va_G) (ty : Nat → ClassId) (g : Nat → Nat → Int32) (ad : Nat → Nat) (n1 n2 nL n4 n5 : Nat) (hI : dI g n1 n2 nL n4 n5) (i w0 : Nat) (hi : i < n1) (hw : w0 < 7) : Met l yX5_ofSet wsX5_ofSet ({ frames := 3, cells := 0, slots := 0, locals := 72 }) (va_Pc [.ref (ad 0), .int (nI i), .int (nI w0)] (zI D ty g ad)) (vp_Si (fun v => v = ofSetN g n5 i w0)) 0 0 (fun _ => False) := by
  refine zMet (cc := cX5_ofSet) (maxL := 3) (ret := (some .int)) (by decide) rfl (Nat.le_of_ble_eq_true rfl) ?_
  intro p e s m below meth c hx hb hr hts hown hlocks hml hB ls hl
  obtain ⟨hP, hK, hN⟩ := hB
  obtain ⟨⟨hn1, hn1b⟩, h78, ⟨hn2, hn2b⟩, h12, ⟨hnL, hnLb⟩, h15, ⟨hn4, hn4b⟩, ⟨hn5, hn5b⟩, hrd5, hd0⟩ := id hI
  have hq7 : nF g i < 7 := (h78 i hi).1.2
  have hq8 : nV g i < 7 := (h78 i hi).2.1.2
  have hl : lv_has ls 3 [(0, .ref (ad 0)), (1, .int (nI i)), (2, .int (nI w0))] := hl
  have hk0 := hts (.fieldLink RX5 12 "DatamarketDesk" "shelf" "LDatamarketDesk$Shelf;") (by decide +kernel)
  have hinX5 : ∀ w ∈ wsX50, w ∈ wsX5_ofSet := by decide +kernel
  have hinX4 : ∀ w ∈ wsX40, w ∈ wsX5_ofSet := by decide +kernel
  have hk3 := hts (.fieldLink RX5 40 "DatamarketDesk" "reads" "LDatamarketDesk$Reads;") (by decide +kernel)
  have hk4 := hts (.fieldLink RX5 26 "DatamarketDesk" "harms" "LDatamarketDesk$Harms;") (by decide +kernel)
  have hinX1 : ∀ w ∈ wsX10, w ∈ wsX5_ofSet := by decide +kernel
  refine lv_aload_n hx hb dX5_ofSet_0 rfl (lv_at hl 0 rfl) ?_
  refine lv_iload_n hx hb dX5_ofSet_1 rfl (lv_at hl 1 rfl) ?_
  refine zcVv (As := [.int (nI i)]) (rest := []) ⟨hx, hb, hml, hown, hts⟩ (c_X5_needSet l D ty g ad n1 n2 nL n4 n5 hI i (by omega)) (cwV 1 hts gX5_ofSet_X5_needSet rfl rfl rfl (by decide +kernel) ⟨Nat.le_of_ble_eq_true rfl, Nat.le_of_ble_eq_true rfl⟩) zI_blind (zI_pre hP hK hN) (va_recv hK hP (ci := 5) (q0 := 0) rfl rfl) rfl hl.1 rfl (Nat.le_of_ble_eq_true rfl) dX5_ofSet_2 ⟨Nat.le_of_ble_eq_true rfl, Nat.le_of_ble_eq_true rfl⟩ (fun _ => ?_)
  refine lv_iload_n hx hb dX5_ofSet_5 rfl (lv_at hl 2 rfl) ?_
  obtain rfl | rfl | rfl | rfl | rfl | rfl | rfl : w0 = 0 ∨ w0 = 1 ∨ w0 = 2 ∨ w0 = 3 ∨ w0 = 4 ∨ w0 = 5 ∨ w0 = 6 := by omega
  · refine lv_tableIn (off := 42) (tgt := 48) hx hb dX5_ofSet_6 (by decide) (by decide) rfl (by decide) ?_
    refine lv_aload_n hx hb dX5_ofSet_48 rfl (lv_at hl 0 rfl) ?_
    refine va_get hx hb hts hinX5 hown hK hP 0 rfl rfl 0 (by decide) (hk0) (fun _ h9 => h9) rfl dX5_ofSet_49 ?_
    refine va_getN hx hb hts hinX4 hown hK hP 1 rfl rfl 1 (by decide) (zN.use hN (List.mem_of_getElem? (i := 2) rfl)) (fun _ h9 => h9) rfl dX5_ofSet_52 ?_
    refine lv_iload_n hx hb dX5_ofSet_55 rfl (lv_at hl 1 rfl) ?_
    refine zald hx hb hK hP 7 0 rfl rfl (i := i) (by omega) (by decide) dX5_ofSet_56 ?_
    exact W.iret (v := g 7 i) hx hb hr (fun t ht hW => ⟨_, rfl, rfl, ht⟩) (fun _ h => nomatch h) dX5_ofSet_57
  · refine lv_tableIn (off := 52) (tgt := 58) hx hb dX5_ofSet_6 (by decide) (by decide) rfl (by decide) ?_
    refine lv_aload_n hx hb dX5_ofSet_58 rfl (lv_at hl 0 rfl) ?_
    refine va_get hx hb hts hinX5 hown hK hP 0 rfl rfl 0 (by decide) (hk0) (fun _ h9 => h9) rfl dX5_ofSet_59 ?_
    refine va_getN hx hb hts hinX4 hown hK hP 1 rfl rfl 2 (by decide) (zN.use hN (List.mem_of_getElem? (i := 3) rfl)) (fun _ h9 => h9) rfl dX5_ofSet_62 ?_
    refine lv_iload_n hx hb dX5_ofSet_65 rfl (lv_at hl 1 rfl) ?_
    refine zald hx hb hK hP 8 0 rfl rfl (i := i) (by omega) (by decide) dX5_ofSet_66 ?_
    exact W.iret (v := g 8 i) hx hb hr (fun t ht hW => ⟨_, rfl, rfl, ht⟩) (fun _ h => nomatch h) dX5_ofSet_67
  · refine lv_tableIn (off := 62) (tgt := 68) hx hb dX5_ofSet_6 (by decide) (by decide) rfl (by decide) ?_
    refine lv_aload_n hx hb dX5_ofSet_68 rfl (lv_at hl 0 rfl) ?_
    refine va_get hx hb hts hinX5 hown hK hP 0 rfl rfl 0 (by decide) (hk0) (fun _ h9 => h9) rfl dX5_ofSet_69 ?_
    refine lv_iload_n hx hb dX5_ofSet_72 rfl (lv_at hl 1 rfl) ?_
    refine zcVi (As := [.int (nI i)]) (rest := []) ⟨hx, hb, hml, hown, hts⟩ (c_X4_latestRows l D ty g ad n1 n2 nL n4 n5 hI i (by omega)) (cwV 1 hts gX5_ofSet_X4_latestRows rfl rfl rfl (by decide +kernel) ⟨Nat.le_of_ble_eq_true rfl, Nat.le_of_ble_eq_true rfl⟩) zI_blind (zI_pre hP hK hN) (va_recv hK hP (ci := 4) (q0 := 1) rfl rfl) rfl hl.1 rfl (Nat.le_of_ble_eq_true rfl) dX5_ofSet_73 ⟨Nat.le_of_ble_eq_true rfl, Nat.le_of_ble_eq_true rfl⟩ (fun r_2 hr_2 => ?_)
    subst hr_2
    exact W.iret (v := rowsL g i) hx hb hr (fun t ht hW => ⟨_, rfl, rfl, ht⟩) (fun _ h => nomatch h) dX5_ofSet_76
  · refine lv_tableIn (off := 71) (tgt := 77) hx hb dX5_ofSet_6 (by decide) (by decide) rfl (by decide) ?_
    refine lv_aload_n hx hb dX5_ofSet_77 rfl (lv_at hl 0 rfl) ?_
    refine lv_iload_n hx hb dX5_ofSet_78 rfl (lv_at hl 1 rfl) ?_
    refine zcVi (As := [.int (nI i)]) (rest := []) ⟨hx, hb, hml, hown, hts⟩ (c_X5_harmedFields l D ty g ad n1 n2 nL n4 n5 hI i (by omega)) (cwV 1 hts gX5_ofSet_X5_harmedFields rfl rfl rfl (by decide +kernel) ⟨Nat.le_of_ble_eq_true rfl, Nat.le_of_ble_eq_true rfl⟩) zI_blind (zI_pre hP hK hN) (va_recv hK hP (ci := 5) (q0 := 0) rfl rfl) rfl hl.1 rfl (Nat.le_of_ble_eq_true rfl) dX5_ofSet_79 ⟨Nat.le_of_ble_eq_true rfl, Nat.le_of_ble_eq_true rfl⟩ (fun r_3 hr_3 => ?_)
    subst hr_3
    exact W.iret (v := harmedN g i) hx hb hr (fun t ht hW => ⟨_, rfl, rfl, ht⟩) (fun _ h => nomatch h) dX5_ofSet_82
  · refine lv_tableIn (off := 77) (tgt := 83) hx hb dX5_ofSet_6 (by decide) (by decide) rfl (by decide) ?_
    refine lv_aload_n hx hb dX5_ofSet_83 rfl (lv_at hl 0 rfl) ?_
    refine va_get hx hb hts hinX5 hown hK hP 0 rfl rfl 4 (by decide) (hk3) (fun _ h9 => h9) rfl dX5_ofSet_84 ?_
    refine lv_iconst (v := -1) hx hb dX5_ofSet_87 (by decide) ?_
    refine lv_iload_n hx hb dX5_ofSet_88 rfl (lv_at hl 1 rfl) ?_
    refine zcVi (As := [.int (-1), .int (nI i)]) (rest := []) ⟨hx, hb, hml, hown, hts⟩ (c_X3_count l D ty g ad n5 hn5 hn5b (-1) (nI i)) (cwV 2 hts gX5_ofSet_X3_count rfl rfl rfl (by decide +kernel) ⟨Nat.le_of_ble_eq_true rfl, Nat.le_of_ble_eq_true rfl⟩) zI_blind (zI_pre hP hK hN) (va_recv hK hP (ci := 3) (q0 := 5) rfl rfl) rfl hl.1 rfl (Nat.le_of_ble_eq_true rfl) dX5_ofSet_89 ⟨Nat.le_of_ble_eq_true rfl, Nat.le_of_ble_eq_true rfl⟩ (fun r_4 hr_4 => ?_)
    subst hr_4
    exact W.iret (v := sumN (fCnt g (-1) (nI i)) n5) hx hb hr (fun t ht hW => ⟨_, rfl, rfl, ht⟩) (fun _ h => nomatch h) dX5_ofSet_92
  · refine lv_tableIn (off := 87) (tgt := 93) hx hb dX5_ofSet_6 (by decide) (by decide) rfl (by decide) ?_
    refine lv_aload_n hx hb dX5_ofSet_93 rfl (lv_at hl 0 rfl) ?_
    refine va_get hx hb hts hinX5 hown hK hP 0 rfl rfl 4 (by decide) (hk3) (fun _ h9 => h9) rfl dX5_ofSet_94 ?_
    refine lv_iconst (v := -1) hx hb dX5_ofSet_97 (by decide) ?_
    refine lv_iload_n hx hb dX5_ofSet_98 rfl (lv_at hl 1 rfl) ?_
    refine zcVi (As := [.int (-1), .int (nI i)]) (rest := []) ⟨hx, hb, hml, hown, hts⟩ (c_X3_charge l D ty g ad n5 hn5 hn5b (-1) (nI i)) (cwV 2 hts gX5_ofSet_X3_charge rfl rfl rfl (by decide +kernel) ⟨Nat.le_of_ble_eq_true rfl, Nat.le_of_ble_eq_true rfl⟩) zI_blind (zI_pre hP hK hN) (va_recv hK hP (ci := 3) (q0 := 5) rfl rfl) rfl hl.1 rfl (Nat.le_of_ble_eq_true rfl) dX5_ofSet_99 ⟨Nat.le_of_ble_eq_true rfl, Nat.le_of_ble_eq_true rfl⟩ (fun r_5 hr_5 => ?_)
    subst hr_5
    exact W.iret (v := sumN (fCh g (-1) (nI i)) n5) hx hb hr (fun t ht hW => ⟨_, rfl, rfl, ht⟩) (fun _ h => nomatch h) dX5_ofSet_102
  · refine lv_tableIn (off := 97) (tgt := 103) hx hb dX5_ofSet_6 (by decide) (by decide) rfl (by decide) ?_
    refine lv_aload_n hx hb dX5_ofSet_103 rfl (lv_at hl 0 rfl) ?_
    refine va_get hx hb hts hinX5 hown hK hP 0 rfl rfl 4 (by decide) (hk3) (fun _ h9 => h9) rfl dX5_ofSet_104 ?_
    refine lv_iconst (v := -1) hx hb dX5_ofSet_107 (by decide) ?_
    refine lv_iload_n hx hb dX5_ofSet_108 rfl (lv_at hl 1 rfl) ?_
    refine lv_aload_n hx hb dX5_ofSet_109 rfl (lv_at hl 0 rfl) ?_
    refine va_get hx hb hts hinX5 hown hK hP 0 rfl rfl 2 (by decide) (hk4) (fun _ h9 => h9) rfl dX5_ofSet_110 ?_
    refine va_getN hx hb hts hinX1 hown hK hP 3 rfl rfl 2 (by decide) (zN.use hN (List.mem_of_getElem? (i := 10) rfl)) (fun _ h9 => h9) rfl dX5_ofSet_113 ?_
    refine zcVi (As := [.int (-1), .int (nI i), .ref (ad 21)]) (rest := []) ⟨hx, hb, hml, hown, hts⟩ (c_X3_credit_21 l D ty g ad n5 hn5 hn5b hrd5 (-1) (nI i)) (cwV 3 hts gX5_ofSet_X3_credit rfl rfl rfl (by decide +kernel) ⟨Nat.le_of_ble_eq_true rfl, Nat.le_of_ble_eq_true rfl⟩) zI_blind (zI_pre hP hK hN) (va_recv hK hP (ci := 3) (q0 := 5) rfl rfl) rfl hl.1 rfl (Nat.le_of_ble_eq_true rfl) dX5_ofSet_116 ⟨Nat.le_of_ble_eq_true rfl, Nat.le_of_ble_eq_true rfl⟩ (fun r_6 hr_6 => ?_)
    subst hr_6
    exact W.iret (v := sumN (fCr g (-1) (nI i) 21) n5) hx hb hr (fun t ht hW => ⟨_, rfl, rfl, ht⟩) (fun _ h => nomatch h) dX5_ofSet_119
set_option maxHeartbeats 4000000 in
set_option maxRecDepth 100000 in
theorem c_X5_ofReader (l : Launch) (D : va_G) (ty : Nat → ClassId) (g : Nat → Nat → Int32) (ad : Nat → Nat) (n1 n2 nL n4 n5 : Nat) (hI : dI g n1 n2 nL n4 n5) (R w0 : Nat) (hR : R < 6) (hw : w0 < 7) : Met l yX5_ofReader wsX5_ofReader ({ frames := 4, cells := 0, slots := 0, locals := 93 }) (va_Pc [.ref (ad 0), .int (nI R), .int (nI w0)] (zI D ty g ad)) (vp_Si (fun v => v = ofReaderN g n4 n5 R w0)) 0 0 (fun _ => False) := by
  refine zMet (cc := cX5_ofReader) (maxL := 3) (ret := (some .int)) (by decide) rfl (Nat.le_of_ble_eq_true rfl) ?_
  intro p e s m below meth c hx hb hr hts hown hlocks hml hB ls hl
  obtain ⟨hP, hK, hN⟩ := hB
  obtain ⟨⟨hn1, hn1b⟩, h78, ⟨hn2, hn2b⟩, h12, ⟨hnL, hnLb⟩, h15, ⟨hn4, hn4b⟩, ⟨hn5, hn5b⟩, hrd5, hd0⟩ := id hI
  have hl : lv_has ls 3 [(0, .ref (ad 0)), (1, .int (nI R)), (2, .int (nI w0))] := hl
  have hk0 := hts (.fieldLink RX5 40 "DatamarketDesk" "reads" "LDatamarketDesk$Reads;") (by decide +kernel)
  have hinX5 : ∀ w ∈ wsX50, w ∈ wsX5_ofReader := by decide +kernel
  have hk2 := hts (.fieldLink RX5 48 "DatamarketDesk" "today" "I") (by decide +kernel)
  have hk3 := hts (.fieldLink RX5 26 "DatamarketDesk" "harms" "LDatamarketDesk$Harms;") (by decide +kernel)
  have hinX1 : ∀ w ∈ wsX10, w ∈ wsX5_ofReader := by decide +kernel
  have hk5 := hts (.fieldLink RX5 33 "DatamarketDesk" "contracts" "LDatamarketDesk$Contracts;") (by decide +kernel)
  refine lv_iload_n hx hb dX5_ofReader_0 rfl (lv_at hl 1 rfl) ?_
  refine zcSv (As := [.int (nI R)]) (rest := []) ⟨hx, hb, hml, hown, hts⟩ (c_X5_needReader l _ R (by omega)) (cwS 1 hts gX5_ofReader_X5_needReader rfl rfl rfl (by decide +kernel) ⟨Nat.le_of_ble_eq_true rfl, Nat.le_of_ble_eq_true rfl⟩) (B := fun _ => True) (fun _ _ _ _ _ => trivial) (fun _ _ _ => trivial) rfl hl.1 rfl (Nat.le_of_ble_eq_true rfl) dX5_ofReader_1 ⟨Nat.le_of_ble_eq_true rfl, Nat.le_of_ble_eq_true rfl⟩ (fun _ => ?_)
  refine lv_iload_n hx hb dX5_ofReader_4 rfl (lv_at hl 2 rfl) ?_
  obtain rfl | rfl | rfl | rfl | rfl | rfl | rfl : w0 = 0 ∨ w0 = 1 ∨ w0 = 2 ∨ w0 = 3 ∨ w0 = 4 ∨ w0 = 5 ∨ w0 = 6 := by omega
  · refine lv_tableIn (off := 43) (tgt := 48) hx hb dX5_ofReader_5 (by decide) (by decide) rfl (by decide) ?_
    refine lv_aload_n hx hb dX5_ofReader_48 rfl (lv_at hl 0 rfl) ?_
    refine va_get hx hb hts hinX5 hown hK hP 0 rfl rfl 4 (by decide) (hk0) (fun _ h9 => h9) rfl dX5_ofReader_49 ?_
    refine lv_iload_n hx hb dX5_ofReader_52 rfl (lv_at hl 1 rfl) ?_
    refine lv_aload_n hx hb dX5_ofReader_53 rfl (lv_at hl 0 rfl) ?_
    refine va_get hx hb hts hinX5 hown hK hP 0 rfl rfl 6 (by decide) (hk2) (fun _ h9 => h9) rfl dX5_ofReader_54 ?_
    refine zcVi (As := [.int (nI R), .int (g 0 0)]) (rest := []) ⟨hx, hb, hml, hown, hts⟩ (c_X3_unitsInPeriod l D ty g ad n5 hn5 hn5b (nI R) (g 0 0)) (cwV 2 hts gX5_ofReader_X3_unitsInPeriod rfl rfl rfl (by decide +kernel) ⟨Nat.le_of_ble_eq_true rfl, Nat.le_of_ble_eq_true rfl⟩) zI_blind (zI_pre hP hK hN) (va_recv hK hP (ci := 3) (q0 := 5) rfl rfl) rfl hl.1 rfl (Nat.le_of_ble_eq_true rfl) dX5_ofReader_57 ⟨Nat.le_of_ble_eq_true rfl, Nat.le_of_ble_eq_true rfl⟩ (fun r_2 hr_2 => ?_)
    subst hr_2
    exact W.iret (v := sumN (fUn g (nI R) (g 0 0)) n5) hx hb hr (fun t ht hW => ⟨_, rfl, rfl, ht⟩) (fun _ h => nomatch h) dX5_ofReader_60
  · refine lv_tableIn (off := 56) (tgt := 61) hx hb dX5_ofReader_5 (by decide) (by decide) rfl (by decide) ?_
    refine lv_aload_n hx hb dX5_ofReader_61 rfl (lv_at hl 0 rfl) ?_
    refine va_get hx hb hts hinX5 hown hK hP 0 rfl rfl 4 (by decide) (hk0) (fun _ h9 => h9) rfl dX5_ofReader_62 ?_
    refine lv_iload_n hx hb dX5_ofReader_65 rfl (lv_at hl 1 rfl) ?_
    refine lv_iconst (v := -1) hx hb dX5_ofReader_66 (by decide) ?_
    refine zcVi (As := [.int (nI R), .int (-1)]) (rest := []) ⟨hx, hb, hml, hown, hts⟩ (c_X3_count l D ty g ad n5 hn5 hn5b (nI R) (-1)) (cwV 2 hts gX5_ofReader_X3_count rfl rfl rfl (by decide +kernel) ⟨Nat.le_of_ble_eq_true rfl, Nat.le_of_ble_eq_true rfl⟩) zI_blind (zI_pre hP hK hN) (va_recv hK hP (ci := 3) (q0 := 5) rfl rfl) rfl hl.1 rfl (Nat.le_of_ble_eq_true rfl) dX5_ofReader_67 ⟨Nat.le_of_ble_eq_true rfl, Nat.le_of_ble_eq_true rfl⟩ (fun r_3 hr_3 => ?_)
    subst hr_3
    exact W.iret (v := sumN (fCnt g (nI R) (-1)) n5) hx hb hr (fun t ht hW => ⟨_, rfl, rfl, ht⟩) (fun _ h => nomatch h) dX5_ofReader_70
  · refine lv_tableIn (off := 66) (tgt := 71) hx hb dX5_ofReader_5 (by decide) (by decide) rfl (by decide) ?_
    refine lv_aload_n hx hb dX5_ofReader_71 rfl (lv_at hl 0 rfl) ?_
    refine va_get hx hb hts hinX5 hown hK hP 0 rfl rfl 4 (by decide) (hk0) (fun _ h9 => h9) rfl dX5_ofReader_72 ?_
    refine lv_iload_n hx hb dX5_ofReader_75 rfl (lv_at hl 1 rfl) ?_
    refine lv_iconst (v := -1) hx hb dX5_ofReader_76 (by decide) ?_
    refine zcVi (As := [.int (nI R), .int (-1)]) (rest := []) ⟨hx, hb, hml, hown, hts⟩ (c_X3_charge l D ty g ad n5 hn5 hn5b (nI R) (-1)) (cwV 2 hts gX5_ofReader_X3_charge rfl rfl rfl (by decide +kernel) ⟨Nat.le_of_ble_eq_true rfl, Nat.le_of_ble_eq_true rfl⟩) zI_blind (zI_pre hP hK hN) (va_recv hK hP (ci := 3) (q0 := 5) rfl rfl) rfl hl.1 rfl (Nat.le_of_ble_eq_true rfl) dX5_ofReader_77 ⟨Nat.le_of_ble_eq_true rfl, Nat.le_of_ble_eq_true rfl⟩ (fun r_4 hr_4 => ?_)
    subst hr_4
    exact W.iret (v := sumN (fCh g (nI R) (-1)) n5) hx hb hr (fun t ht hW => ⟨_, rfl, rfl, ht⟩) (fun _ h => nomatch h) dX5_ofReader_80
  · refine lv_tableIn (off := 76) (tgt := 81) hx hb dX5_ofReader_5 (by decide) (by decide) rfl (by decide) ?_
    refine lv_aload_n hx hb dX5_ofReader_81 rfl (lv_at hl 0 rfl) ?_
    refine va_get hx hb hts hinX5 hown hK hP 0 rfl rfl 4 (by decide) (hk0) (fun _ h9 => h9) rfl dX5_ofReader_82 ?_
    refine lv_iload_n hx hb dX5_ofReader_85 rfl (lv_at hl 1 rfl) ?_
    refine lv_iconst (v := -1) hx hb dX5_ofReader_86 (by decide) ?_
    refine lv_aload_n hx hb dX5_ofReader_87 rfl (lv_at hl 0 rfl) ?_
    refine va_get hx hb hts hinX5 hown hK hP 0 rfl rfl 2 (by decide) (hk3) (fun _ h9 => h9) rfl dX5_ofReader_88 ?_
    refine va_getN hx hb hts hinX1 hown hK hP 3 rfl rfl 2 (by decide) (zN.use hN (List.mem_of_getElem? (i := 10) rfl)) (fun _ h9 => h9) rfl dX5_ofReader_91 ?_
    refine zcVi (As := [.int (nI R), .int (-1), .ref (ad 21)]) (rest := []) ⟨hx, hb, hml, hown, hts⟩ (c_X3_credit_21 l D ty g ad n5 hn5 hn5b hrd5 (nI R) (-1)) (cwV 3 hts gX5_ofReader_X3_credit rfl rfl rfl (by decide +kernel) ⟨Nat.le_of_ble_eq_true rfl, Nat.le_of_ble_eq_true rfl⟩) zI_blind (zI_pre hP hK hN) (va_recv hK hP (ci := 3) (q0 := 5) rfl rfl) rfl hl.1 rfl (Nat.le_of_ble_eq_true rfl) dX5_ofReader_94 ⟨Nat.le_of_ble_eq_true rfl, Nat.le_of_ble_eq_true rfl⟩ (fun r_5 hr_5 => ?_)
    subst hr_5
    exact W.iret (v := sumN (fCr g (nI R) (-1) 21) n5) hx hb hr (fun t ht hW => ⟨_, rfl, rfl, ht⟩) (fun _ h => nomatch h) dX5_ofReader_97
  · refine lv_tableIn (off := 93) (tgt := 98) hx hb dX5_ofReader_5 (by decide) (by decide) rfl (by decide) ?_
    refine lv_aload_n hx hb dX5_ofReader_98 rfl (lv_at hl 0 rfl) ?_
    refine va_get hx hb hts hinX5 hown hK hP 0 rfl rfl 4 (by decide) (hk0) (fun _ h9 => h9) rfl dX5_ofReader_99 ?_
    refine lv_iload_n hx hb dX5_ofReader_102 rfl (lv_at hl 1 rfl) ?_
    refine zcVi (As := [.int (nI R)]) (rest := []) ⟨hx, hb, hml, hown, hts⟩ (c_X3_billedTo l D ty g ad n5 hn5 hn5b (nI R)) (cwV 1 hts gX5_ofReader_X3_billedTo rfl rfl rfl (by decide +kernel) ⟨Nat.le_of_ble_eq_true rfl, Nat.le_of_ble_eq_true rfl⟩) zI_blind (zI_pre hP hK hN) (va_recv hK hP (ci := 3) (q0 := 5) rfl rfl) rfl hl.1 rfl (Nat.le_of_ble_eq_true rfl) dX5_ofReader_103 ⟨Nat.le_of_ble_eq_true rfl, Nat.le_of_ble_eq_true rfl⟩ (fun r_6 hr_6 => ?_)
    subst hr_6
    exact W.iret (v := sumN (fBil g (nI R)) n5) hx hb hr (fun t ht hW => ⟨_, rfl, rfl, ht⟩) (fun _ h => nomatch h) dX5_ofReader_106
  · refine lv_tableIn (off := 102) (tgt := 107) hx hb dX5_ofReader_5 (by decide) (by decide) rfl (by decide) ?_
    refine lv_aload_n hx hb dX5_ofReader_107 rfl (lv_at hl 0 rfl) ?_
    refine va_get hx hb hts hinX5 hown hK hP 0 rfl rfl 4 (by decide) (hk0) (fun _ h9 => h9) rfl dX5_ofReader_108 ?_
    refine lv_iload_n hx hb dX5_ofReader_111 rfl (lv_at hl 1 rfl) ?_
    refine lv_aload_n hx hb dX5_ofReader_112 rfl (lv_at hl 0 rfl) ?_
    refine va_get hx hb hts hinX5 hown hK hP 0 rfl rfl 2 (by decide) (hk3) (fun _ h9 => h9) rfl dX5_ofReader_113 ?_
    refine va_getN hx hb hts hinX1 hown hK hP 3 rfl rfl 2 (by decide) (zN.use hN (List.mem_of_getElem? (i := 10) rfl)) (fun _ h9 => h9) rfl dX5_ofReader_116 ?_
    refine zcVi (As := [.int (nI R), .ref (ad 21)]) (rest := []) ⟨hx, hb, hml, hown, hts⟩ (c_X3_due l D ty g ad n5 hn5 hn5b hrd5 (nI R)) (cwV 2 hts gX5_ofReader_X3_due rfl rfl rfl (by decide +kernel) ⟨Nat.le_of_ble_eq_true rfl, Nat.le_of_ble_eq_true rfl⟩) zI_blind (zI_pre hP hK hN) (va_recv hK hP (ci := 3) (q0 := 5) rfl rfl) rfl hl.1 rfl (Nat.le_of_ble_eq_true rfl) dX5_ofReader_119 ⟨Nat.le_of_ble_eq_true rfl, Nat.le_of_ble_eq_true rfl⟩ (fun r_7 hr_7 => ?_)
    subst hr_7
    exact W.iret (v := sumN (fDue g (nI R) 21) n5) hx hb hr (fun t ht hW => ⟨_, rfl, rfl, ht⟩) (fun _ h => nomatch h) dX5_ofReader_122
  · refine lv_tableIn (off := 118) (tgt := 123) hx hb dX5_ofReader_5 (by decide) (by decide) rfl (by decide) ?_
    refine lv_aload_n hx hb dX5_ofReader_123 rfl (lv_at hl 0 rfl) ?_
    refine va_get hx hb hts hinX5 hown hK hP 0 rfl rfl 3 (by decide) (hk5) (fun _ h9 => h9) rfl dX5_ofReader_124 ?_
    refine lv_iload_n hx hb dX5_ofReader_127 rfl (lv_at hl 1 rfl) ?_
    refine lv_aload_n hx hb dX5_ofReader_128 rfl (lv_at hl 0 rfl) ?_
    refine va_get hx hb hts hinX5 hown hK hP 0 rfl rfl 6 (by decide) (hk2) (fun _ h9 => h9) rfl dX5_ofReader_129 ?_
    refine zcVi (As := [.int (nI R), .int (g 0 0)]) (rest := []) ⟨hx, hb, hml, hown, hts⟩ (c_X0_countOpen l D ty g ad n4 hn4 hn4b (nI R) (g 0 0)) (cwV 2 hts gX5_ofReader_X0_countOpen rfl rfl rfl (by decide +kernel) ⟨Nat.le_of_ble_eq_true rfl, Nat.le_of_ble_eq_true rfl⟩) zI_blind (zI_pre hP hK hN) (va_recv hK hP (ci := 0) (q0 := 4) rfl rfl) rfl hl.1 rfl (Nat.le_of_ble_eq_true rfl) dX5_ofReader_132 ⟨Nat.le_of_ble_eq_true rfl, Nat.le_of_ble_eq_true rfl⟩ (fun r_8 hr_8 => ?_)
    subst hr_8
    exact W.iret (v := sumN (fOn g (nI R) (g 0 0)) n4) hx hb hr (fun t ht hW => ⟨_, rfl, rfl, ht⟩) (fun _ h => nomatch h) dX5_ofReader_135
set_option maxHeartbeats 4000000 in
set_option maxRecDepth 100000 in
theorem c_X5_many (l : Launch) (D : va_G) (ty : Nat → ClassId) (g : Nat → Nat → Int32) (ad : Nat → Nat) (n1 n2 nL n4 n5 : Nat) (hI : dI g n1 n2 nL n4 n5) (w0 : Nat) (hw : w0 < 9) : Met l yX5_many wsX5_many ({ frames := 3, cells := 0, slots := 0, locals := 72 }) (va_Pc [.ref (ad 0), .int (nI w0)] (zI D ty g ad)) (vp_Si (fun v => v = manyN g n1 n5 w0)) 0 0 (fun _ => False) := by
  refine zMet (cc := cX5_many) (maxL := 2) (ret := (some .int)) (by decide) rfl (Nat.le_of_ble_eq_true rfl) ?_
  intro p e s m below meth c hx hb hr hts hown hlocks hml hB ls hl
  obtain ⟨hP, hK, hN⟩ := hB
  obtain ⟨⟨hn1, hn1b⟩, h78, ⟨hn2, hn2b⟩, h12, ⟨hnL, hnLb⟩, h15, ⟨hn4, hn4b⟩, ⟨hn5, hn5b⟩, hrd5, hd0⟩ := id hI
  have hl : lv_has ls 2 [(0, .ref (ad 0)), (1, .int (nI w0))] := hl
  have hk0 := hts (.fieldLink RX5 12 "DatamarketDesk" "shelf" "LDatamarketDesk$Shelf;") (by decide +kernel)
  have hinX5 : ∀ w ∈ wsX50, w ∈ wsX5_many := by decide +kernel
  have hinX4 : ∀ w ∈ wsX40, w ∈ wsX5_many := by decide +kernel
  have hk3 := hts (.fieldLink RX5 19 "DatamarketDesk" "lineage" "LDatamarketDesk$Lineage;") (by decide +kernel)
  have hinX2 : ∀ w ∈ wsX20, w ∈ wsX5_many := by decide +kernel
  have hk5 := hts (.fieldLink RX5 33 "DatamarketDesk" "contracts" "LDatamarketDesk$Contracts;") (by decide +kernel)
  have hinX0 : ∀ w ∈ wsX00, w ∈ wsX5_many := by decide +kernel
  have hk7 := hts (.fieldLink RX5 40 "DatamarketDesk" "reads" "LDatamarketDesk$Reads;") (by decide +kernel)
  have hinX3 : ∀ w ∈ wsX30, w ∈ wsX5_many := by decide +kernel
  have hk9 := hts (.fieldLink RX5 26 "DatamarketDesk" "harms" "LDatamarketDesk$Harms;") (by decide +kernel)
  have hinX1 : ∀ w ∈ wsX10, w ∈ wsX5_many := by decide +kernel
  have hk11 := hts (.fieldLink RX5 48 "DatamarketDesk" "today" "I") (by decide +kernel)
  refine lv_iload_n hx hb dX5_many_0 rfl (lv_at hl 1 rfl) ?_
  obtain rfl | rfl | rfl | rfl | rfl | rfl | rfl | rfl | rfl : w0 = 0 ∨ w0 = 1 ∨ w0 = 2 ∨ w0 = 3 ∨ w0 = 4 ∨ w0 = 5 ∨ w0 = 6 ∨ w0 = 7 ∨ w0 = 8 := by omega
  · refine lv_tableIn (off := 51) (tgt := 52) hx hb dX5_many_1 (by decide) (by decide) rfl (by decide) ?_
    refine lv_aload_n hx hb dX5_many_52 rfl (lv_at hl 0 rfl) ?_
    refine va_get hx hb hts hinX5 hown hK hP 0 rfl rfl 0 (by decide) (hk0) (fun _ h9 => h9) rfl dX5_many_53 ?_
    refine va_getN hx hb hts hinX4 hown hK hP 1 rfl rfl 0 (by decide) (zN.use hN (List.mem_of_getElem? (i := 1) rfl)) (fun _ h9 => h9) rfl dX5_many_56 ?_
    refine zeq hn1 ?_
    exact W.iret (v := nI n1) hx hb hr (fun t ht hW => ⟨_, rfl, hn1.symm, ht⟩) (fun _ h => nomatch h) dX5_many_59
  · refine lv_tableIn (off := 59) (tgt := 60) hx hb dX5_many_1 (by decide) (by decide) rfl (by decide) ?_
    refine lv_aload_n hx hb dX5_many_60 rfl (lv_at hl 0 rfl) ?_
    refine va_get hx hb hts hinX5 hown hK hP 0 rfl rfl 0 (by decide) (hk0) (fun _ h9 => h9) rfl dX5_many_61 ?_
    refine zcVi (As := []) (rest := []) ⟨hx, hb, hml, hown, hts⟩ (c_X4_allVersions l D ty g ad n1 n2 nL n4 n5 hI ) (cwV 0 hts gX5_many_X4_allVersions rfl rfl rfl (by decide +kernel) ⟨Nat.le_of_ble_eq_true rfl, Nat.le_of_ble_eq_true rfl⟩) zI_blind (zI_pre hP hK hN) (va_recv hK hP (ci := 4) (q0 := 1) rfl rfl) rfl hl.1 rfl (Nat.le_of_ble_eq_true rfl) dX5_many_64 ⟨Nat.le_of_ble_eq_true rfl, Nat.le_of_ble_eq_true rfl⟩ (fun r_1 hr_1 => ?_)
    subst hr_1
    exact W.iret (v := sumN (g 8) n1) hx hb hr (fun t ht hW => ⟨_, rfl, rfl, ht⟩) (fun _ h => nomatch h) dX5_many_67
  · refine lv_tableIn (off := 67) (tgt := 68) hx hb dX5_many_1 (by decide) (by decide) rfl (by decide) ?_
    refine lv_aload_n hx hb dX5_many_68 rfl (lv_at hl 0 rfl) ?_
    refine va_get hx hb hts hinX5 hown hK hP 0 rfl rfl 1 (by decide) (hk3) (fun _ h9 => h9) rfl dX5_many_69 ?_
    refine va_getN hx hb hts hinX2 hown hK hP 2 rfl rfl 0 (by decide) (zN.use hN (List.mem_of_getElem? (i := 7) rfl)) (fun _ h9 => h9) rfl dX5_many_72 ?_
    refine zeq hn2 ?_
    exact W.iret (v := nI n2) hx hb hr (fun t ht hW => ⟨_, rfl, hn2.symm, ht⟩) (fun _ h => nomatch h) dX5_many_75
  · refine lv_tableIn (off := 75) (tgt := 76) hx hb dX5_many_1 (by decide) (by decide) rfl (by decide) ?_
    refine lv_aload_n hx hb dX5_many_76 rfl (lv_at hl 0 rfl) ?_
    refine va_get hx hb hts hinX5 hown hK hP 0 rfl rfl 3 (by decide) (hk5) (fun _ h9 => h9) rfl dX5_many_77 ?_
    refine va_getN hx hb hts hinX0 hown hK hP 4 rfl rfl 0 (by decide) (zN.use hN (List.mem_of_getElem? (i := 12) rfl)) (fun _ h9 => h9) rfl dX5_many_80 ?_
    refine zeq hn4 ?_
    exact W.iret (v := nI n4) hx hb hr (fun t ht hW => ⟨_, rfl, hn4.symm, ht⟩) (fun _ h => nomatch h) dX5_many_83
  · refine lv_tableIn (off := 83) (tgt := 84) hx hb dX5_many_1 (by decide) (by decide) rfl (by decide) ?_
    refine lv_aload_n hx hb dX5_many_84 rfl (lv_at hl 0 rfl) ?_
    refine va_get hx hb hts hinX5 hown hK hP 0 rfl rfl 4 (by decide) (hk7) (fun _ h9 => h9) rfl dX5_many_85 ?_
    refine va_getN hx hb hts hinX3 hown hK hP 5 rfl rfl 0 (by decide) (zN.use hN (List.mem_of_getElem? (i := 15) rfl)) (fun _ h9 => h9) rfl dX5_many_88 ?_
    refine zeq hn5 ?_
    exact W.iret (v := nI n5) hx hb hr (fun t ht hW => ⟨_, rfl, hn5.symm, ht⟩) (fun _ h => nomatch h) dX5_many_91
  · refine lv_tableIn (off := 91) (tgt := 92) hx hb dX5_many_1 (by decide) (by decide) rfl (by decide) ?_
    refine lv_aload_n hx hb dX5_many_92 rfl (lv_at hl 0 rfl) ?_
    refine va_get hx hb hts hinX5 hown hK hP 0 rfl rfl 4 (by decide) (hk7) (fun _ h9 => h9) rfl dX5_many_93 ?_
    refine lv_iconst (v := -1) hx hb dX5_many_96 (by decide) ?_
    refine lv_iconst (v := -1) hx hb dX5_many_97 (by decide) ?_
    refine zcVi (As := [.int (-1), .int (-1)]) (rest := []) ⟨hx, hb, hml, hown, hts⟩ (c_X3_charge l D ty g ad n5 hn5 hn5b (-1) (-1)) (cwV 2 hts gX5_many_X3_charge rfl rfl rfl (by decide +kernel) ⟨Nat.le_of_ble_eq_true rfl, Nat.le_of_ble_eq_true rfl⟩) zI_blind (zI_pre hP hK hN) (va_recv hK hP (ci := 3) (q0 := 5) rfl rfl) rfl hl.1 rfl (Nat.le_of_ble_eq_true rfl) dX5_many_98 ⟨Nat.le_of_ble_eq_true rfl, Nat.le_of_ble_eq_true rfl⟩ (fun r_2 hr_2 => ?_)
    subst hr_2
    exact W.iret (v := sumN (fCh g (-1) (-1)) n5) hx hb hr (fun t ht hW => ⟨_, rfl, rfl, ht⟩) (fun _ h => nomatch h) dX5_many_101
  · refine lv_tableIn (off := 101) (tgt := 102) hx hb dX5_many_1 (by decide) (by decide) rfl (by decide) ?_
    refine lv_aload_n hx hb dX5_many_102 rfl (lv_at hl 0 rfl) ?_
    refine va_get hx hb hts hinX5 hown hK hP 0 rfl rfl 4 (by decide) (hk7) (fun _ h9 => h9) rfl dX5_many_103 ?_
    refine lv_iconst (v := -1) hx hb dX5_many_106 (by decide) ?_
    refine lv_iconst (v := -1) hx hb dX5_many_107 (by decide) ?_
    refine lv_aload_n hx hb dX5_many_108 rfl (lv_at hl 0 rfl) ?_
    refine va_get hx hb hts hinX5 hown hK hP 0 rfl rfl 2 (by decide) (hk9) (fun _ h9 => h9) rfl dX5_many_109 ?_
    refine va_getN hx hb hts hinX1 hown hK hP 3 rfl rfl 2 (by decide) (zN.use hN (List.mem_of_getElem? (i := 10) rfl)) (fun _ h9 => h9) rfl dX5_many_112 ?_
    refine zcVi (As := [.int (-1), .int (-1), .ref (ad 21)]) (rest := []) ⟨hx, hb, hml, hown, hts⟩ (c_X3_credit_21 l D ty g ad n5 hn5 hn5b hrd5 (-1) (-1)) (cwV 3 hts gX5_many_X3_credit rfl rfl rfl (by decide +kernel) ⟨Nat.le_of_ble_eq_true rfl, Nat.le_of_ble_eq_true rfl⟩) zI_blind (zI_pre hP hK hN) (va_recv hK hP (ci := 3) (q0 := 5) rfl rfl) rfl hl.1 rfl (Nat.le_of_ble_eq_true rfl) dX5_many_115 ⟨Nat.le_of_ble_eq_true rfl, Nat.le_of_ble_eq_true rfl⟩ (fun r_3 hr_3 => ?_)
    subst hr_3
    exact W.iret (v := sumN (fCr g (-1) (-1) 21) n5) hx hb hr (fun t ht hW => ⟨_, rfl, rfl, ht⟩) (fun _ h => nomatch h) dX5_many_118
  · refine lv_tableIn (off := 118) (tgt := 119) hx hb dX5_many_1 (by decide) (by decide) rfl (by decide) ?_
    refine lv_aload_n hx hb dX5_many_119 rfl (lv_at hl 0 rfl) ?_
    refine va_get hx hb hts hinX5 hown hK hP 0 rfl rfl 4 (by decide) (hk7) (fun _ h9 => h9) rfl dX5_many_120 ?_
    refine lv_iconst (v := -1) hx hb dX5_many_123 (by decide) ?_
    refine zcVi (As := [.int (-1)]) (rest := []) ⟨hx, hb, hml, hown, hts⟩ (c_X3_billedTo l D ty g ad n5 hn5 hn5b (-1)) (cwV 1 hts gX5_many_X3_billedTo rfl rfl rfl (by decide +kernel) ⟨Nat.le_of_ble_eq_true rfl, Nat.le_of_ble_eq_true rfl⟩) zI_blind (zI_pre hP hK hN) (va_recv hK hP (ci := 3) (q0 := 5) rfl rfl) rfl hl.1 rfl (Nat.le_of_ble_eq_true rfl) dX5_many_124 ⟨Nat.le_of_ble_eq_true rfl, Nat.le_of_ble_eq_true rfl⟩ (fun r_4 hr_4 => ?_)
    subst hr_4
    exact W.iret (v := sumN (fBil g (-1)) n5) hx hb hr (fun t ht hW => ⟨_, rfl, rfl, ht⟩) (fun _ h => nomatch h) dX5_many_127
  · refine lv_tableIn (off := 127) (tgt := 128) hx hb dX5_many_1 (by decide) (by decide) rfl (by decide) ?_
    refine lv_aload_n hx hb dX5_many_128 rfl (lv_at hl 0 rfl) ?_
    refine va_get hx hb hts hinX5 hown hK hP 0 rfl rfl 6 (by decide) (hk11) (fun _ h9 => h9) rfl dX5_many_129 ?_
    exact W.iret (v := g 0 0) hx hb hr (fun t ht hW => ⟨_, rfl, rfl, ht⟩) (fun _ h => nomatch h) dX5_many_132
set_option maxHeartbeats 4000000 in
set_option maxRecDepth 100000 in
theorem c_X5_ofRead (l : Launch) (D : va_G) (ty : Nat → ClassId) (g : Nat → Nat → Int32) (ad : Nat → Nat) (n1 n2 nL n4 n5 : Nat) (hI : dI g n1 n2 nL n4 n5) (r0 w0 : Nat) (hr0 : r0 < n5) (hw : w0 < 12) : Met l yX5_ofRead wsX5_ofRead ({ frames := 2, cells := 0, slots := 0, locals := 47 }) (va_Pc [.ref (ad 0), .int (nI r0), .int (nI w0)] (zI D ty g ad)) (vp_Si (fun v => v = ofReadN g r0 w0)) 0 0 (fun _ => False) := by
  refine zMet (cc := cX5_ofRead) (maxL := 3) (ret := (some .int)) (by decide) rfl (Nat.le_of_ble_eq_true rfl) ?_
  intro p e s m below meth c hx hb hr hts hown hlocks hml hB ls hl
  obtain ⟨hP, hK, hN⟩ := hB
  obtain ⟨⟨hn1, hn1b⟩, h78, ⟨hn2, hn2b⟩, h12, ⟨hnL, hnLb⟩, h15, ⟨hn4, hn4b⟩, ⟨hn5, hn5b⟩, hrd5, hd0⟩ := id hI
  have hl : lv_has ls 3 [(0, .ref (ad 0)), (1, .int (nI r0)), (2, .int (nI w0))] := hl
  have hk0 := hts (.fieldLink RX5 40 "DatamarketDesk" "reads" "LDatamarketDesk$Reads;") (by decide +kernel)
  have hinX5 : ∀ w ∈ wsX50, w ∈ wsX5_ofRead := by decide +kernel
  have hinX3 : ∀ w ∈ wsX30, w ∈ wsX5_ofRead := by decide +kernel
  have hk3 := hts (.fieldLink RX5 26 "DatamarketDesk" "harms" "LDatamarketDesk$Harms;") (by decide +kernel)
  have hinX1 : ∀ w ∈ wsX10, w ∈ wsX5_ofRead := by decide +kernel
  refine lv_iload_n hx hb dX5_ofRead_0 rfl (lv_at hl 1 rfl) ?_
  refine lv_if_lt (tgt := 15) hx hb dX5_ofRead_1 (by decide) (fun c_1 => ?_) (fun c_1 => ?_)
  · have c_1 := zq_ltT (x := r0) (by omega) c_1
    exact c_1.elim
  · have c_1 := zq_ltF (x := r0) (by omega) c_1
    refine lv_iload_n hx hb dX5_ofRead_4 rfl (lv_at hl 1 rfl) ?_
    refine lv_aload_n hx hb dX5_ofRead_5 rfl (lv_at hl 0 rfl) ?_
    refine va_get hx hb hts hinX5 hown hK hP 0 rfl rfl 4 (by decide) (hk0) (fun _ h9 => h9) rfl dX5_ofRead_6 ?_
    refine va_getN hx hb hts hinX3 hown hK hP 5 rfl rfl 0 (by decide) (zN.use hN (List.mem_of_getElem? (i := 15) rfl)) (fun _ h9 => h9) rfl dX5_ofRead_9 ?_
    refine zeq hn5 ?_
    refine lv_icmp_lt (tgt := 26) hx hb dX5_ofRead_12 (by decide) (fun c_2 => ?_) (fun c_2 => ?_)
    · have c_2 := zn_ltT (a := r0) (b := n5) (by omega) (by omega) c_2
      refine lv_iload_n hx hb dX5_ofRead_26 rfl (lv_at hl 2 rfl) ?_
      obtain rfl | rfl | rfl | rfl | rfl | rfl | rfl | rfl | rfl | rfl | rfl | rfl : w0 = 0 ∨ w0 = 1 ∨ w0 = 2 ∨ w0 = 3 ∨ w0 = 4 ∨ w0 = 5 ∨ w0 = 6 ∨ w0 = 7 ∨ w0 = 8 ∨ w0 = 9 ∨ w0 = 10 ∨ w0 = 11 := by omega
      · refine lv_tableIn (off := 61) (tgt := 88) hx hb dX5_ofRead_27 (by decide) (by decide) rfl (by decide) ?_
        refine lv_aload_n hx hb dX5_ofRead_88 rfl (lv_at hl 0 rfl) ?_
        refine va_get hx hb hts hinX5 hown hK hP 0 rfl rfl 4 (by decide) (hk0) (fun _ h9 => h9) rfl dX5_ofRead_89 ?_
        refine va_getN hx hb hts hinX3 hown hK hP 5 rfl rfl 1 (by decide) (zN.use hN (List.mem_of_getElem? (i := 16) rfl)) (fun _ h9 => h9) rfl dX5_ofRead_92 ?_
        refine lv_iload_n hx hb dX5_ofRead_95 rfl (lv_at hl 1 rfl) ?_
        refine zald hx hb hK hP 29 0 rfl rfl (i := r0) (by omega) (by decide) dX5_ofRead_96 ?_
        exact W.iret (v := g 29 r0) hx hb hr (fun t ht hW => ⟨_, rfl, rfl, ht⟩) (fun _ h => nomatch h) dX5_ofRead_97
      · refine lv_tableIn (off := 71) (tgt := 98) hx hb dX5_ofRead_27 (by decide) (by decide) rfl (by decide) ?_
        refine lv_aload_n hx hb dX5_ofRead_98 rfl (lv_at hl 0 rfl) ?_
        refine va_get hx hb hts hinX5 hown hK hP 0 rfl rfl 4 (by decide) (hk0) (fun _ h9 => h9) rfl dX5_ofRead_99 ?_
        refine va_getN hx hb hts hinX3 hown hK hP 5 rfl rfl 2 (by decide) (zN.use hN (List.mem_of_getElem? (i := 17) rfl)) (fun _ h9 => h9) rfl dX5_ofRead_102 ?_
        refine lv_iload_n hx hb dX5_ofRead_105 rfl (lv_at hl 1 rfl) ?_
        refine zald hx hb hK hP 30 0 rfl rfl (i := r0) (by omega) (by decide) dX5_ofRead_106 ?_
        exact W.iret (v := g 30 r0) hx hb hr (fun t ht hW => ⟨_, rfl, rfl, ht⟩) (fun _ h => nomatch h) dX5_ofRead_107
      · refine lv_tableIn (off := 81) (tgt := 108) hx hb dX5_ofRead_27 (by decide) (by decide) rfl (by decide) ?_
        refine lv_aload_n hx hb dX5_ofRead_108 rfl (lv_at hl 0 rfl) ?_
        refine va_get hx hb hts hinX5 hown hK hP 0 rfl rfl 4 (by decide) (hk0) (fun _ h9 => h9) rfl dX5_ofRead_109 ?_
        refine va_getN hx hb hts hinX3 hown hK hP 5 rfl rfl 3 (by decide) (zN.use hN (List.mem_of_getElem? (i := 18) rfl)) (fun _ h9 => h9) rfl dX5_ofRead_112 ?_
        refine lv_iload_n hx hb dX5_ofRead_115 rfl (lv_at hl 1 rfl) ?_
        refine zald hx hb hK hP 31 0 rfl rfl (i := r0) (by omega) (by decide) dX5_ofRead_116 ?_
        exact W.iret (v := g 31 r0) hx hb hr (fun t ht hW => ⟨_, rfl, rfl, ht⟩) (fun _ h => nomatch h) dX5_ofRead_117
      · refine lv_tableIn (off := 91) (tgt := 118) hx hb dX5_ofRead_27 (by decide) (by decide) rfl (by decide) ?_
        refine lv_aload_n hx hb dX5_ofRead_118 rfl (lv_at hl 0 rfl) ?_
        refine va_get hx hb hts hinX5 hown hK hP 0 rfl rfl 4 (by decide) (hk0) (fun _ h9 => h9) rfl dX5_ofRead_119 ?_
        refine va_getN hx hb hts hinX3 hown hK hP 5 rfl rfl 4 (by decide) (zN.use hN (List.mem_of_getElem? (i := 19) rfl)) (fun _ h9 => h9) rfl dX5_ofRead_122 ?_
        refine lv_iload_n hx hb dX5_ofRead_125 rfl (lv_at hl 1 rfl) ?_
        refine zald hx hb hK hP 32 0 rfl rfl (i := r0) (by omega) (by decide) dX5_ofRead_126 ?_
        exact W.iret (v := g 32 r0) hx hb hr (fun t ht hW => ⟨_, rfl, rfl, ht⟩) (fun _ h => nomatch h) dX5_ofRead_127
      · refine lv_tableIn (off := 101) (tgt := 128) hx hb dX5_ofRead_27 (by decide) (by decide) rfl (by decide) ?_
        refine lv_aload_n hx hb dX5_ofRead_128 rfl (lv_at hl 0 rfl) ?_
        refine va_get hx hb hts hinX5 hown hK hP 0 rfl rfl 4 (by decide) (hk0) (fun _ h9 => h9) rfl dX5_ofRead_129 ?_
        refine va_getN hx hb hts hinX3 hown hK hP 5 rfl rfl 5 (by decide) (zN.use hN (List.mem_of_getElem? (i := 20) rfl)) (fun _ h9 => h9) rfl dX5_ofRead_132 ?_
        refine lv_iload_n hx hb dX5_ofRead_135 rfl (lv_at hl 1 rfl) ?_
        refine zald hx hb hK hP 33 0 rfl rfl (i := r0) (by omega) (by decide) dX5_ofRead_136 ?_
        exact W.iret (v := g 33 r0) hx hb hr (fun t ht hW => ⟨_, rfl, rfl, ht⟩) (fun _ h => nomatch h) dX5_ofRead_137
      · refine lv_tableIn (off := 111) (tgt := 138) hx hb dX5_ofRead_27 (by decide) (by decide) rfl (by decide) ?_
        refine lv_aload_n hx hb dX5_ofRead_138 rfl (lv_at hl 0 rfl) ?_
        refine va_get hx hb hts hinX5 hown hK hP 0 rfl rfl 4 (by decide) (hk0) (fun _ h9 => h9) rfl dX5_ofRead_139 ?_
        refine va_getN hx hb hts hinX3 hown hK hP 5 rfl rfl 7 (by decide) (zN.use hN (List.mem_of_getElem? (i := 22) rfl)) (fun _ h9 => h9) rfl dX5_ofRead_142 ?_
        refine lv_iload_n hx hb dX5_ofRead_145 rfl (lv_at hl 1 rfl) ?_
        refine zald hx hb hK hP 35 0 rfl rfl (i := r0) (by omega) (by decide) dX5_ofRead_146 ?_
        exact W.iret (v := g 35 r0) hx hb hr (fun t ht hW => ⟨_, rfl, rfl, ht⟩) (fun _ h => nomatch h) dX5_ofRead_147
      · refine lv_tableIn (off := 121) (tgt := 148) hx hb dX5_ofRead_27 (by decide) (by decide) rfl (by decide) ?_
        refine lv_aload_n hx hb dX5_ofRead_148 rfl (lv_at hl 0 rfl) ?_
        refine va_get hx hb hts hinX5 hown hK hP 0 rfl rfl 4 (by decide) (hk0) (fun _ h9 => h9) rfl dX5_ofRead_149 ?_
        refine lv_iload_n hx hb dX5_ofRead_152 rfl (lv_at hl 1 rfl) ?_
        refine zcVi (As := [.int (nI r0)]) (rest := []) ⟨hx, hb, hml, hown, hts⟩ (c_X3_unitsOf l D ty g ad r0 (by omega)) (cwV 1 hts gX5_ofRead_X3_unitsOf rfl rfl rfl (by decide +kernel) ⟨Nat.le_of_ble_eq_true rfl, Nat.le_of_ble_eq_true rfl⟩) zI_blind (zI_pre hP hK hN) (va_recv hK hP (ci := 3) (q0 := 5) rfl rfl) rfl hl.1 rfl (Nat.le_of_ble_eq_true rfl) dX5_ofRead_153 ⟨Nat.le_of_ble_eq_true rfl, Nat.le_of_ble_eq_true rfl⟩ (fun r_3 hr_3 => ?_)
        subst hr_3
        exact W.iret (v := g 33 r0 * bc (g 32 r0)) hx hb hr (fun t ht hW => ⟨_, rfl, rfl, ht⟩) (fun _ h => nomatch h) dX5_ofRead_156
      · refine lv_tableIn (off := 130) (tgt := 157) hx hb dX5_ofRead_27 (by decide) (by decide) rfl (by decide) ?_
        refine lv_aload_n hx hb dX5_ofRead_157 rfl (lv_at hl 0 rfl) ?_
        refine va_get hx hb hts hinX5 hown hK hP 0 rfl rfl 4 (by decide) (hk0) (fun _ h9 => h9) rfl dX5_ofRead_158 ?_
        refine va_getN hx hb hts hinX3 hown hK hP 5 rfl rfl 8 (by decide) (zN.use hN (List.mem_of_getElem? (i := 23) rfl)) (fun _ h9 => h9) rfl dX5_ofRead_161 ?_
        refine lv_iload_n hx hb dX5_ofRead_164 rfl (lv_at hl 1 rfl) ?_
        refine zald hx hb hK hP 36 0 rfl rfl (i := r0) (by omega) (by decide) dX5_ofRead_165 ?_
        exact W.iret (v := g 36 r0) hx hb hr (fun t ht hW => ⟨_, rfl, rfl, ht⟩) (fun _ h => nomatch h) dX5_ofRead_166
      · refine lv_tableIn (off := 140) (tgt := 167) hx hb dX5_ofRead_27 (by decide) (by decide) rfl (by decide) ?_
        refine lv_aload_n hx hb dX5_ofRead_167 rfl (lv_at hl 0 rfl) ?_
        refine va_get hx hb hts hinX5 hown hK hP 0 rfl rfl 4 (by decide) (hk0) (fun _ h9 => h9) rfl dX5_ofRead_168 ?_
        refine lv_iload_n hx hb dX5_ofRead_171 rfl (lv_at hl 1 rfl) ?_
        refine zcVi (As := [.int (nI r0)]) (rest := []) ⟨hx, hb, hml, hown, hts⟩ (c_X3_chargeOf l D ty g ad r0 (by omega)) (cwV 1 hts gX5_ofRead_X3_chargeOf rfl rfl rfl (by decide +kernel) ⟨Nat.le_of_ble_eq_true rfl, Nat.le_of_ble_eq_true rfl⟩) zI_blind (zI_pre hP hK hN) (va_recv hK hP (ci := 3) (q0 := 5) rfl rfl) rfl hl.1 rfl (Nat.le_of_ble_eq_true rfl) dX5_ofRead_172 ⟨Nat.le_of_ble_eq_true rfl, Nat.le_of_ble_eq_true rfl⟩ (fun r_4 hr_4 => ?_)
        subst hr_4
        exact W.iret (v := chN g r0) hx hb hr (fun t ht hW => ⟨_, rfl, rfl, ht⟩) (fun _ h => nomatch h) dX5_ofRead_175
      · refine lv_tableIn (off := 149) (tgt := 176) hx hb dX5_ofRead_27 (by decide) (by decide) rfl (by decide) ?_
        refine lv_aload_n hx hb dX5_ofRead_176 rfl (lv_at hl 0 rfl) ?_
        refine va_get hx hb hts hinX5 hown hK hP 0 rfl rfl 4 (by decide) (hk0) (fun _ h9 => h9) rfl dX5_ofRead_177 ?_
        refine lv_iload_n hx hb dX5_ofRead_180 rfl (lv_at hl 1 rfl) ?_
        refine lv_aload_n hx hb dX5_ofRead_181 rfl (lv_at hl 0 rfl) ?_
        refine va_get hx hb hts hinX5 hown hK hP 0 rfl rfl 2 (by decide) (hk3) (fun _ h9 => h9) rfl dX5_ofRead_182 ?_
        refine va_getN hx hb hts hinX1 hown hK hP 3 rfl rfl 2 (by decide) (zN.use hN (List.mem_of_getElem? (i := 10) rfl)) (fun _ h9 => h9) rfl dX5_ofRead_185 ?_
        refine zcVi (As := [.int (nI r0), .ref (ad 21)]) (rest := []) ⟨hx, hb, hml, hown, hts⟩ (c_X3_creditOf_21 l D ty g ad r0 (by omega) (hrd5 _ (by omega)).1 (hrd5 _ (by omega)).2) (cwV 2 hts gX5_ofRead_X3_creditOf rfl rfl rfl (by decide +kernel) ⟨Nat.le_of_ble_eq_true rfl, Nat.le_of_ble_eq_true rfl⟩) zI_blind (zI_pre hP hK hN) (va_recv hK hP (ci := 3) (q0 := 5) rfl rfl) rfl hl.1 rfl (Nat.le_of_ble_eq_true rfl) dX5_ofRead_188 ⟨Nat.le_of_ble_eq_true rfl, Nat.le_of_ble_eq_true rfl⟩ (fun r_5 hr_5 => ?_)
        subst hr_5
        exact W.iret (v := crN g 21 r0) hx hb hr (fun t ht hW => ⟨_, rfl, rfl, ht⟩) (fun _ h => nomatch h) dX5_ofRead_191
      · refine lv_tableIn (off := 165) (tgt := 192) hx hb dX5_ofRead_27 (by decide) (by decide) rfl (by decide) ?_
        refine lv_aload_n hx hb dX5_ofRead_192 rfl (lv_at hl 0 rfl) ?_
        refine va_get hx hb hts hinX5 hown hK hP 0 rfl rfl 4 (by decide) (hk0) (fun _ h9 => h9) rfl dX5_ofRead_193 ?_
        refine va_getN hx hb hts hinX3 hown hK hP 5 rfl rfl 9 (by decide) (zN.use hN (List.mem_of_getElem? (i := 24) rfl)) (fun _ h9 => h9) rfl dX5_ofRead_196 ?_
        refine lv_iload_n hx hb dX5_ofRead_199 rfl (lv_at hl 1 rfl) ?_
        refine zald hx hb hK hP 37 0 rfl rfl (i := r0) (by omega) (by decide) dX5_ofRead_200 ?_
        exact W.iret (v := g 37 r0) hx hb hr (fun t ht hW => ⟨_, rfl, rfl, ht⟩) (fun _ h => nomatch h) dX5_ofRead_201
      · refine lv_tableIn (off := 175) (tgt := 202) hx hb dX5_ofRead_27 (by decide) (by decide) rfl (by decide) ?_
        refine lv_aload_n hx hb dX5_ofRead_202 rfl (lv_at hl 0 rfl) ?_
        refine va_get hx hb hts hinX5 hown hK hP 0 rfl rfl 4 (by decide) (hk0) (fun _ h9 => h9) rfl dX5_ofRead_203 ?_
        refine va_getN hx hb hts hinX3 hown hK hP 5 rfl rfl 6 (by decide) (zN.use hN (List.mem_of_getElem? (i := 21) rfl)) (fun _ h9 => h9) rfl dX5_ofRead_206 ?_
        refine lv_iload_n hx hb dX5_ofRead_209 rfl (lv_at hl 1 rfl) ?_
        refine zald hx hb hK hP 34 0 rfl rfl (i := r0) (by omega) (by decide) dX5_ofRead_210 ?_
        exact W.iret (v := g 34 r0) hx hb hr (fun t ht hW => ⟨_, rfl, rfl, ht⟩) (fun _ h => nomatch h) dX5_ofRead_211
    · have c_2 := zn_ltF (a := r0) (b := n5) (by omega) (by omega) c_2
      omega
set_option maxHeartbeats 4000000 in
set_option maxRecDepth 100000 in
theorem c_X5_covered (l : Launch) (D : va_G) (ty : Nat → ClassId) (g : Nat → Nat → Int32) (ad : Nat → Nat) (n1 n2 nL n4 n5 : Nat) (hI : dI g n1 n2 nL n4 n5) (R i P : Nat) (hR : R < 6) (hi : i < n1) (hPp : P < 4) (d : Int32) (hd1 : ¬ d < 0) (hd2 : ¬ nI 359 < d) : Met l yX5_covered wsX5_covered ({ frames := 3, cells := 0, slots := 0, locals := 74 }) (va_Pc [.ref (ad 0), .int (nI R), .int (nI i), .int (nI P), .int d] (zI D ty g ad)) (vp_Si (fun v => v = orN (fOpen g (nI R) (nI i) (nI 1 <<< (nI P &&& 31)) d (-1)) n4)) 0 0 (fun _ => False) := by
  refine zMet (cc := cX5_covered) (maxL := 5) (ret := (some .int)) (by decide) rfl (Nat.le_of_ble_eq_true rfl) ?_
  intro p e s m below meth c hx hb hr hts hown hlocks hml hB ls hl
  obtain ⟨hP, hK, hN⟩ := hB
  obtain ⟨⟨hn1, hn1b⟩, h78, ⟨hn2, hn2b⟩, h12, ⟨hnL, hnLb⟩, h15, ⟨hn4, hn4b⟩, ⟨hn5, hn5b⟩, hrd5, hd0⟩ := id hI
  have hq7 : nF g i < 7 := (h78 i hi).1.2
  have hq8 : nV g i < 7 := (h78 i hi).2.1.2
  have hl : lv_has ls 5 [(0, .ref (ad 0)), (1, .int (nI R)), (2, .int (nI i)), (3, .int (nI P)), (4, .int d)] := hl
  have hk0 := hts (.fieldLink RX5 33 "DatamarketDesk" "contracts" "LDatamarketDesk$Contracts;") (by decide +kernel)
  have hinX5 : ∀ w ∈ wsX50, w ∈ wsX5_covered := by decide +kernel
  refine lv_iload_n hx hb dX5_covered_0 rfl (lv_at hl 1 rfl) ?_
  refine zcSv (As := [.int (nI R)]) (rest := []) ⟨hx, hb, hml, hown, hts⟩ (c_X5_needReader l _ R (by omega)) (cwS 1 hts gX5_covered_X5_needReader rfl rfl rfl (by decide +kernel) ⟨Nat.le_of_ble_eq_true rfl, Nat.le_of_ble_eq_true rfl⟩) (B := fun _ => True) (fun _ _ _ _ _ => trivial) (fun _ _ _ => trivial) rfl hl.1 rfl (Nat.le_of_ble_eq_true rfl) dX5_covered_1 ⟨Nat.le_of_ble_eq_true rfl, Nat.le_of_ble_eq_true rfl⟩ (fun _ => ?_)
  refine lv_aload_n hx hb dX5_covered_4 rfl (lv_at hl 0 rfl) ?_
  refine lv_iload_n hx hb dX5_covered_5 rfl (lv_at hl 2 rfl) ?_
  refine zcVv (As := [.int (nI i)]) (rest := []) ⟨hx, hb, hml, hown, hts⟩ (c_X5_needSet l D ty g ad n1 n2 nL n4 n5 hI i (by omega)) (cwV 1 hts gX5_covered_X5_needSet rfl rfl rfl (by decide +kernel) ⟨Nat.le_of_ble_eq_true rfl, Nat.le_of_ble_eq_true rfl⟩) zI_blind (zI_pre hP hK hN) (va_recv hK hP (ci := 5) (q0 := 0) rfl rfl) rfl hl.1 rfl (Nat.le_of_ble_eq_true rfl) dX5_covered_6 ⟨Nat.le_of_ble_eq_true rfl, Nat.le_of_ble_eq_true rfl⟩ (fun _ => ?_)
  refine lv_iload_n hx hb dX5_covered_9 rfl (lv_at hl 3 rfl) ?_
  refine zcSv (As := [.int (nI P)]) (rest := []) ⟨hx, hb, hml, hown, hts⟩ (c_X5_needPurpose l _ P (by omega)) (cwS 1 hts gX5_covered_X5_needPurpose rfl rfl rfl (by decide +kernel) ⟨Nat.le_of_ble_eq_true rfl, Nat.le_of_ble_eq_true rfl⟩) (B := fun _ => True) (fun _ _ _ _ _ => trivial) (fun _ _ _ => trivial) rfl hl.1 rfl (Nat.le_of_ble_eq_true rfl) dX5_covered_10 ⟨Nat.le_of_ble_eq_true rfl, Nat.le_of_ble_eq_true rfl⟩ (fun _ => ?_)
  refine lv_iload hx hb dX5_covered_13 (lv_at hl 4 rfl) ?_
  refine lv_if_lt (tgt := 26) hx hb dX5_covered_15 (by decide) (fun c_4 => ?_) (fun c_4 => ?_)
  · exact absurd c_4 hd1
  · refine lv_iload hx hb dX5_covered_18 (lv_at hl 4 rfl) ?_
    refine lv_sipush (v := nI 359) hx hb dX5_covered_20 (by decide) ?_
    refine lv_icmp_le (tgt := 36) hx hb dX5_covered_23 (by decide) (fun c_5 => ?_) (fun c_5 => ?_)
    · refine lv_aload_n hx hb dX5_covered_36 rfl (lv_at hl 0 rfl) ?_
      refine va_get hx hb hts hinX5 hown hK hP 0 rfl rfl 3 (by decide) (hk0) (fun _ h9 => h9) rfl dX5_covered_37 ?_
      refine lv_iload_n hx hb dX5_covered_40 rfl (lv_at hl 1 rfl) ?_
      refine lv_iload_n hx hb dX5_covered_41 rfl (lv_at hl 2 rfl) ?_
      refine lv_iconst (v := nI 1) hx hb dX5_covered_42 (by decide) ?_
      refine lv_iload_n hx hb dX5_covered_43 rfl (lv_at hl 3 rfl) ?_
      refine lv_ishl hx hb dX5_covered_44 ?_
      refine lv_iload hx hb dX5_covered_45 (lv_at hl 4 rfl) ?_
      refine lv_iconst (v := -1) hx hb dX5_covered_47 (by decide) ?_
      refine zcVi (As := [.int (nI R), .int (nI i), .int ((nI 1) <<< ((nI P) &&& 31)), .int d, .int (-1)]) (rest := []) ⟨hx, hb, hml, hown, hts⟩ (c_X0_open l D ty g ad n4 hn4 hn4b (nI R) (nI i) ((nI 1) <<< ((nI P) &&& 31)) d (-1)) (cwV 5 hts gX5_covered_X0_open rfl rfl rfl (by decide +kernel) ⟨Nat.le_of_ble_eq_true rfl, Nat.le_of_ble_eq_true rfl⟩) zI_blind (zI_pre hP hK hN) (va_recv hK hP (ci := 0) (q0 := 4) rfl rfl) rfl hl.1 rfl (Nat.le_of_ble_eq_true rfl) dX5_covered_48 ⟨Nat.le_of_ble_eq_true rfl, Nat.le_of_ble_eq_true rfl⟩ (fun r_6 hr_6 => ?_)
      subst hr_6
      exact W.iret (v := orN (fOpen g (nI R) (nI i) ((nI 1) <<< ((nI P) &&& 31)) d (-1)) n4) hx hb hr (fun t ht hW => ⟨_, rfl, rfl, ht⟩) (fun _ h => nomatch h) dX5_covered_51
    · exact absurd (Int32.not_le.mp c_5) hd2
set_option maxHeartbeats 4000000 in
set_option maxRecDepth 100000 in
theorem c_X5_quote (l : Launch) (D : va_G) (ty : Nat → ClassId) (g : Nat → Nat → Int32) (ad : Nat → Nat) (n1 n2 nL n4 n5 : Nat) (hI : dI g n1 n2 nL n4 n5) (R i : Nat) (hR : R < 6) (hi : i < n1) (F rw0 : Int32) (hF1 : ¬ F < nI 1) (hF2 : ¬ allF g i < F) (hr1 : ¬ rw0 < nI 1) (hr2 : ¬ nI 9999 < rw0) : Met l yX5_quote wsX5_quote ({ frames := 4, cells := 0, slots := 0, locals := 88 }) (va_Pc [.ref (ad 0), .int (nI R), .int (nI i), .int F, .int rw0] (zI D ty g ad)) (vp_Si (fun v => v = sumN (qtF g i F rw0 (tierN (sumN (fUn g (nI R) (g 0 0)) n5))) (nF g i))) 0 0 (fun _ => False) := by
  refine zMet (cc := cX5_quote) (maxL := 8) (ret := (some .int)) (by decide) rfl (Nat.le_of_ble_eq_true rfl) ?_
  intro p e s m below meth c hx hb hr hts hown hlocks hml hB ls hl
  obtain ⟨hP, hK, hN⟩ := hB
  obtain ⟨⟨hn1, hn1b⟩, h78, ⟨hn2, hn2b⟩, h12, ⟨hnL, hnLb⟩, h15, ⟨hn4, hn4b⟩, ⟨hn5, hn5b⟩, hrd5, hd0⟩ := id hI
  have hq7 : nF g i < 7 := (h78 i hi).1.2
  have hq8 : nV g i < 7 := (h78 i hi).2.1.2
  have hl : lv_has ls 8 [(0, .ref (ad 0)), (1, .int (nI R)), (2, .int (nI i)), (3, .int F), (4, .int rw0)] := hl
  have hk0 := hts (.fieldLink RX5 40 "DatamarketDesk" "reads" "LDatamarketDesk$Reads;") (by decide +kernel)
  have hinX5 : ∀ w ∈ wsX50, w ∈ wsX5_quote := by decide +kernel
  have hk2 := hts (.fieldLink RX5 48 "DatamarketDesk" "today" "I") (by decide +kernel)
  have hk3 := hts (.fieldLink RX5 12 "DatamarketDesk" "shelf" "LDatamarketDesk$Shelf;") (by decide +kernel)
  have hinX4 : ∀ w ∈ wsX40, w ∈ wsX5_quote := by decide +kernel
  refine lv_iload_n hx hb dX5_quote_0 rfl (lv_at hl 1 rfl) ?_
  refine zcSv (As := [.int (nI R)]) (rest := []) ⟨hx, hb, hml, hown, hts⟩ (c_X5_needReader l _ R (by omega)) (cwS 1 hts gX5_quote_X5_needReader rfl rfl rfl (by decide +kernel) ⟨Nat.le_of_ble_eq_true rfl, Nat.le_of_ble_eq_true rfl⟩) (B := fun _ => True) (fun _ _ _ _ _ => trivial) (fun _ _ _ => trivial) rfl hl.1 rfl (Nat.le_of_ble_eq_true rfl) dX5_quote_1 ⟨Nat.le_of_ble_eq_true rfl, Nat.le_of_ble_eq_true rfl⟩ (fun _ => ?_)
  refine lv_aload_n hx hb dX5_quote_4 rfl (lv_at hl 0 rfl) ?_
  refine lv_iload_n hx hb dX5_quote_5 rfl (lv_at hl 2 rfl) ?_
  refine zcVv (As := [.int (nI i)]) (rest := []) ⟨hx, hb, hml, hown, hts⟩ (c_X5_needSet l D ty g ad n1 n2 nL n4 n5 hI i (by omega)) (cwV 1 hts gX5_quote_X5_needSet rfl rfl rfl (by decide +kernel) ⟨Nat.le_of_ble_eq_true rfl, Nat.le_of_ble_eq_true rfl⟩) zI_blind (zI_pre hP hK hN) (va_recv hK hP (ci := 5) (q0 := 0) rfl rfl) rfl hl.1 rfl (Nat.le_of_ble_eq_true rfl) dX5_quote_6 ⟨Nat.le_of_ble_eq_true rfl, Nat.le_of_ble_eq_true rfl⟩ (fun _ => ?_)
  refine lv_aload_n hx hb dX5_quote_9 rfl (lv_at hl 0 rfl) ?_
  refine lv_iload_n hx hb dX5_quote_10 rfl (lv_at hl 2 rfl) ?_
  refine lv_iload_n hx hb dX5_quote_11 rfl (lv_at hl 3 rfl) ?_
  refine zcVv (As := [.int (nI i), .int F]) (rest := []) ⟨hx, hb, hml, hown, hts⟩ (c_X5_needFields l D ty g ad n1 n2 nL n4 n5 hI i (by omega) F hF1 hF2) (cwV 2 hts gX5_quote_X5_needFields rfl rfl rfl (by decide +kernel) ⟨Nat.le_of_ble_eq_true rfl, Nat.le_of_ble_eq_true rfl⟩) zI_blind (zI_pre hP hK hN) (va_recv hK hP (ci := 5) (q0 := 0) rfl rfl) rfl hl.1 rfl (Nat.le_of_ble_eq_true rfl) dX5_quote_12 ⟨Nat.le_of_ble_eq_true rfl, Nat.le_of_ble_eq_true rfl⟩ (fun _ => ?_)
  refine lv_iload hx hb dX5_quote_15 (lv_at hl 4 rfl) ?_
  refine lv_iconst (v := nI 1) hx hb dX5_quote_17 (by decide) ?_
  refine lv_icmp_lt (tgt := 29) hx hb dX5_quote_18 (by decide) (fun c_4 => ?_) (fun c_4 => ?_)
  · exact absurd c_4 hr1
  · refine lv_iload hx hb dX5_quote_21 (lv_at hl 4 rfl) ?_
    refine lv_sipush (v := nI 9999) hx hb dX5_quote_23 (by decide) ?_
    refine lv_icmp_le (tgt := 39) hx hb dX5_quote_26 (by decide) (fun c_5 => ?_) (fun c_5 => ?_)
    · refine lv_aload_n hx hb dX5_quote_39 rfl (lv_at hl 0 rfl) ?_
      refine va_get hx hb hts hinX5 hown hK hP 0 rfl rfl 4 (by decide) (hk0) (fun _ h9 => h9) rfl dX5_quote_40 ?_
      refine lv_iload_n hx hb dX5_quote_43 rfl (lv_at hl 1 rfl) ?_
      refine lv_aload_n hx hb dX5_quote_44 rfl (lv_at hl 0 rfl) ?_
      refine va_get hx hb hts hinX5 hown hK hP 0 rfl rfl 6 (by decide) (hk2) (fun _ h9 => h9) rfl dX5_quote_45 ?_
      refine zcVi (As := [.int (nI R), .int (g 0 0)]) (rest := []) ⟨hx, hb, hml, hown, hts⟩ (c_X3_tier l D ty g ad n5 hn5 hn5b (nI R) (g 0 0)) (cwV 2 hts gX5_quote_X3_tier rfl rfl rfl (by decide +kernel) ⟨Nat.le_of_ble_eq_true rfl, Nat.le_of_ble_eq_true rfl⟩) zI_blind (zI_pre hP hK hN) (va_recv hK hP (ci := 3) (q0 := 5) rfl rfl) rfl hl.1 rfl (Nat.le_of_ble_eq_true rfl) dX5_quote_48 ⟨Nat.le_of_ble_eq_true rfl, Nat.le_of_ble_eq_true rfl⟩ (fun r_6 hr_6 => ?_)
      subst hr_6
      refine lv_istore (lv' := [(5, .int (tierN (sumN (fUn g (nI R) (g 0 0)) n5))), (0, .ref (ad 0)), (1, .int (nI R)), (2, .int (nI i)), (3, .int F), (4, .int rw0)]) hx hb dX5_quote_51 hl (by decide) rfl (fun ls hl => ?_)
      refine lv_iconst (v := nI 0) hx hb dX5_quote_53 (by decide) ?_
      refine lv_istore (lv' := [(6, .int (nI 0)), (5, .int (tierN (sumN (fUn g (nI R) (g 0 0)) n5))), (0, .ref (ad 0)), (1, .int (nI R)), (2, .int (nI i)), (3, .int F), (4, .int rw0)]) hx hb dX5_quote_54 hl (by decide) rfl (fun ls hl => ?_)
      refine lv_iconst (v := nI 0) hx hb dX5_quote_56 (by decide) ?_
      refine lv_istore (lv' := [(7, .int (nI 0)), (6, .int (nI 0)), (5, .int (tierN (sumN (fUn g (nI R) (g 0 0)) n5))), (0, .ref (ad 0)), (1, .int (nI R)), (2, .int (nI i)), (3, .int F), (4, .int rw0)]) hx hb dX5_quote_57 hl (by decide) rfl (fun ls hl => ?_)
      refine zloopP (τ := Unit) (fun k _ ls => lv_has ls 8 [(6, .int (sumN (qtF g i F rw0 (tierN (sumN (fUn g (nI R) (g 0 0)) n5))) k)), (7, .int (nI k)), (0, .ref (ad 0)), (1, .int (nI R)), (2, .int (nI i)), (3, .int F), (4, .int rw0), (5, .int (tierN (sumN (fUn g (nI R) (g 0 0)) n5)))]) (nF g i) ?_ 0 () ls (Nat.zero_le _) (lv_sub hl [1, 0, 3, 4, 5, 6, 7, 2] rfl)
      intro k _ ls hi_k hl ih_k
      have hl : lv_has ls 8 [(6, .int (sumN (qtF g i F rw0 (tierN (sumN (fUn g (nI R) (g 0 0)) n5))) k)), (7, .int (nI k)), (0, .ref (ad 0)), (1, .int (nI R)), (2, .int (nI i)), (3, .int F), (4, .int rw0), (5, .int (tierN (sumN (fUn g (nI R) (g 0 0)) n5)))] := hl
      refine lv_iload hx hb dX5_quote_59 (lv_at hl 1 rfl) ?_
      refine lv_aload_n hx hb dX5_quote_61 rfl (lv_at hl 2 rfl) ?_
      refine va_get hx hb hts hinX5 hown hK hP 0 rfl rfl 0 (by decide) (hk3) (fun _ h9 => h9) rfl dX5_quote_62 ?_
      refine va_getN hx hb hts hinX4 hown hK hP 1 rfl rfl 1 (by decide) (zN.use hN (List.mem_of_getElem? (i := 2) rfl)) (fun _ h9 => h9) rfl dX5_quote_65 ?_
      refine lv_iload_n hx hb dX5_quote_68 rfl (lv_at hl 4 rfl) ?_
      refine zald hx hb hK hP 7 0 rfl rfl (i := i) (by omega) (by decide) dX5_quote_69 ?_
      have b_7 : nF g i < 7 := (h78 _ (by omega)).1.2
      refine zeq (show g 7 i = nI (nF g i) from (h78 _ (by omega)).1.1) ?_
      refine lv_icmp_ge (tgt := 107) hx hb dX5_quote_70 (by decide) (fun c_8 => ?_) (fun c_8 => ?_)
      · have c_8 := zn_geT (a := k) (b := (nF g i)) (by omega) (by omega) c_8
        obtain e9 : k = nF g i := by omega
        subst e9
        refine lv_iload hx hb dX5_quote_107 (lv_at hl 0 rfl) ?_
        exact W.iret (v := sumN (qtF g i F rw0 (tierN (sumN (fUn g (nI R) (g 0 0)) n5))) (nF g i)) hx hb hr (fun t ht hW => ⟨_, rfl, rfl, ht⟩) (fun _ h => nomatch h) dX5_quote_109
      · have c_8 := zn_geF (a := k) (b := (nF g i)) (by omega) (by omega) c_8
        refine lv_iload_n hx hb dX5_quote_73 rfl (lv_at hl 5 rfl) ?_
        refine lv_iload hx hb dX5_quote_74 (lv_at hl 1 rfl) ?_
        refine zcSi (As := [.int F, .int (nI k)]) (rest := []) ⟨hx, hb, hml, hown, hts⟩ (c_X5_has l _ F k) (cwS 2 hts gX5_quote_X5_has rfl rfl rfl (by decide +kernel) ⟨Nat.le_of_ble_eq_true rfl, Nat.le_of_ble_eq_true rfl⟩) (B := fun _ => True) (fun _ _ _ _ _ => trivial) (fun _ _ _ => trivial) rfl hl.1 rfl (Nat.le_of_ble_eq_true rfl) dX5_quote_76 ⟨Nat.le_of_ble_eq_true rfl, Nat.le_of_ble_eq_true rfl⟩ (fun r_9 hr_9 => ?_)
        subst hr_9
        refine lv_if_eq (tgt := 101) hx hb dX5_quote_79 (by decide) (fun c_10 => ?_) (fun c_10 => ?_)
        · have c_10 := bI_f c_10
          refine lv_iinc (v := nI (k + 1)) (lv' := [(7, .int (nI (k + 1))), (6, .int (sumN (qtF g i F rw0 (tierN (sumN (fUn g (nI R) (g 0 0)) n5))) k)), (0, .ref (ad 0)), (1, .int (nI R)), (2, .int (nI i)), (3, .int F), (4, .int rw0), (5, .int (tierN (sumN (fUn g (nI R) (g 0 0)) n5)))]) hx hb dX5_quote_101 hl (k := 1) rfl (nI_add k 1) (by decide) rfl (fun ls hl => ?_)
          refine lv_goto (tgt := 59) hx hb dX5_quote_104 (by decide) ?_
          refine ih_k () ls (by omega) (show lv_has ls 8 [(6, .int (sumN (qtF g i F rw0 (tierN (sumN (fUn g (nI R) (g 0 0)) n5))) (k + 1))), (7, .int (nI (k + 1))), (0, .ref (ad 0)), (1, .int (nI R)), (2, .int (nI i)), (3, .int F), (4, .int rw0), (5, .int (tierN (sumN (fUn g (nI R) (g 0 0)) n5)))] from ?_)
          rw [show sumN (qtF g i F rw0 (tierN (sumN (fUn g (nI R) (g 0 0)) n5))) (k + 1) = sumN (qtF g i F rw0 (tierN (sumN (fUn g (nI R) (g 0 0)) n5))) k from by simp_all [sumN_s, qtF]]
          exact lv_sub hl [1, 0, 2, 3, 4, 5, 6, 7] rfl
        · have c_10 := bI_t c_10
          refine lv_iload hx hb dX5_quote_82 (lv_at hl 0 rfl) ?_
          refine lv_aload_n hx hb dX5_quote_84 rfl (lv_at hl 2 rfl) ?_
          refine va_get hx hb hts hinX5 hown hK hP 0 rfl rfl 0 (by decide) (hk3) (fun _ h9 => h9) rfl dX5_quote_85 ?_
          refine lv_iload_n hx hb dX5_quote_88 rfl (lv_at hl 4 rfl) ?_
          refine lv_iload hx hb dX5_quote_89 (lv_at hl 1 rfl) ?_
          refine lv_iload hx hb dX5_quote_91 (lv_at hl 6 rfl) ?_
          refine lv_iload hx hb dX5_quote_93 (lv_at hl 7 rfl) ?_
          refine zcVi (As := [.int (nI i), .int (nI k), .int rw0, .int (tierN (sumN (fUn g (nI R) (g 0 0)) n5))]) (rest := [.int (sumN (qtF g i F rw0 (tierN (sumN (fUn g (nI R) (g 0 0)) n5))) k)]) ⟨hx, hb, hml, hown, hts⟩ (c_X4_fieldCharge l D ty g ad i k (by omega) (by omega) rw0 (tierN (sumN (fUn g (nI R) (g 0 0)) n5))) (cwV 4 hts gX5_quote_X4_fieldCharge rfl rfl rfl (by decide +kernel) ⟨Nat.le_of_ble_eq_true rfl, Nat.le_of_ble_eq_true rfl⟩) zI_blind (zI_pre hP hK hN) (va_recv hK hP (ci := 4) (q0 := 1) rfl rfl) rfl hl.1 rfl (Nat.le_of_ble_eq_true rfl) dX5_quote_95 ⟨Nat.le_of_ble_eq_true rfl, Nat.le_of_ble_eq_true rfl⟩ (fun r_11 hr_11 => ?_)
          subst hr_11
          refine lv_iadd hx hb dX5_quote_98 ?_
          refine lv_istore (lv' := [(6, .int ((sumN (qtF g i F rw0 (tierN (sumN (fUn g (nI R) (g 0 0)) n5))) k) + (rw0 * g 10 (i * 6 + k) * (tierN (sumN (fUn g (nI R) (g 0 0)) n5)) / nI 400))), (7, .int (nI k)), (0, .ref (ad 0)), (1, .int (nI R)), (2, .int (nI i)), (3, .int F), (4, .int rw0), (5, .int (tierN (sumN (fUn g (nI R) (g 0 0)) n5)))]) hx hb dX5_quote_99 hl (by decide) rfl (fun ls hl => ?_)
          refine lv_iinc (v := nI (k + 1)) (lv' := [(7, .int (nI (k + 1))), (6, .int ((sumN (qtF g i F rw0 (tierN (sumN (fUn g (nI R) (g 0 0)) n5))) k) + (rw0 * g 10 (i * 6 + k) * (tierN (sumN (fUn g (nI R) (g 0 0)) n5)) / nI 400))), (0, .ref (ad 0)), (1, .int (nI R)), (2, .int (nI i)), (3, .int F), (4, .int rw0), (5, .int (tierN (sumN (fUn g (nI R) (g 0 0)) n5)))]) hx hb dX5_quote_101 hl (k := 1) rfl (nI_add k 1) (by decide) rfl (fun ls hl => ?_)
          refine lv_goto (tgt := 59) hx hb dX5_quote_104 (by decide) ?_
          refine ih_k () ls (by omega) (show lv_has ls 8 [(6, .int (sumN (qtF g i F rw0 (tierN (sumN (fUn g (nI R) (g 0 0)) n5))) (k + 1))), (7, .int (nI (k + 1))), (0, .ref (ad 0)), (1, .int (nI R)), (2, .int (nI i)), (3, .int F), (4, .int rw0), (5, .int (tierN (sumN (fUn g (nI R) (g 0 0)) n5)))] from ?_)
          rw [show sumN (qtF g i F rw0 (tierN (sumN (fUn g (nI R) (g 0 0)) n5))) (k + 1) = (sumN (qtF g i F rw0 (tierN (sumN (fUn g (nI R) (g 0 0)) n5))) k) + (rw0 * g 10 (i * 6 + k) * (tierN (sumN (fUn g (nI R) (g 0 0)) n5)) / nI 400) from by simp_all [sumN_s, qtF]]
          exact lv_sub hl [1, 0, 2, 3, 4, 5, 6, 7] rfl
    · exact absurd (Int32.not_le.mp c_5) hr2
set_option maxHeartbeats 4000000 in
set_option maxRecDepth 100000 in
theorem c_X5_previews (l : Launch) (D : va_G) (ty : Nat → ClassId) (g : Nat → Nat → Int32) (ad : Nat → Nat) (n1 n2 nL n4 n5 : Nat) (hI : dI g n1 n2 nL n4 n5) (R i : Nat) (hR : R < 6) (hi : i < n1) : Met l yX5_previews wsX5_previews ({ frames := 4, cells := 0, slots := 0, locals := 96 }) (va_Pc [.ref (ad 0), .int (nI R), .int (nI i)] (zI D ty g ad)) (vp_Si (fun v => v = prevN g n4 R i)) 0 0 (fun _ => False) := by
  refine zMet (cc := cX5_previews) (maxL := 8) (ret := (some .int)) (by decide) rfl (Nat.le_of_ble_eq_true rfl) ?_
  intro p e s m below meth c hx hb hr hts hown hlocks hml hB ls hl
  obtain ⟨hP, hK, hN⟩ := hB
  obtain ⟨⟨hn1, hn1b⟩, h78, ⟨hn2, hn2b⟩, h12, ⟨hnL, hnLb⟩, h15, ⟨hn4, hn4b⟩, ⟨hn5, hn5b⟩, hrd5, hd0⟩ := id hI
  have hq7 : nF g i < 7 := (h78 i hi).1.2
  have hq8 : nV g i < 7 := (h78 i hi).2.1.2
  obtain ⟨aN, haN⟩ : ∃ z, 2 ^ nF g i - 1 = z := ⟨_, rfl⟩
  have haNb : aN < 64 := by rw [← haN]; exact p2_64 hq7
  have haF : allF g i = nI aN := by rw [← haN]; exact allF_nat hq7
  have hl : lv_has ls 8 [(0, .ref (ad 0)), (1, .int (nI R)), (2, .int (nI i))] := hl
  have hk0 := hts (.fieldLink RX5 12 "DatamarketDesk" "shelf" "LDatamarketDesk$Shelf;") (by decide +kernel)
  have hinX5 : ∀ w ∈ wsX50, w ∈ wsX5_previews := by decide +kernel
  have hinX4 : ∀ w ∈ wsX40, w ∈ wsX5_previews := by decide +kernel
  have hk3 := hts (.fieldLink RX5 44 "DatamarketDesk" "previewed" "[I") (by decide +kernel)
  rcases Nat.eq_zero_or_pos (nV g i) with hv0 | hv0
  · refine lv_iload_n hx hb dX5_previews_0 rfl (lv_at hl 1 rfl) ?_
    refine zcSv (As := [.int (nI R)]) (rest := []) ⟨hx, hb, hml, hown, hts⟩ (c_X5_needReader l _ R (by omega)) (cwS 1 hts gX5_previews_X5_needReader rfl rfl rfl (by decide +kernel) ⟨Nat.le_of_ble_eq_true rfl, Nat.le_of_ble_eq_true rfl⟩) (B := fun _ => True) (fun _ _ _ _ _ => trivial) (fun _ _ _ => trivial) rfl hl.1 rfl (Nat.le_of_ble_eq_true rfl) dX5_previews_1 ⟨Nat.le_of_ble_eq_true rfl, Nat.le_of_ble_eq_true rfl⟩ (fun _ => ?_)
    refine lv_aload_n hx hb dX5_previews_4 rfl (lv_at hl 0 rfl) ?_
    refine lv_iload_n hx hb dX5_previews_5 rfl (lv_at hl 2 rfl) ?_
    refine zcVv (As := [.int (nI i)]) (rest := []) ⟨hx, hb, hml, hown, hts⟩ (c_X5_needSet l D ty g ad n1 n2 nL n4 n5 hI i (by omega)) (cwV 1 hts gX5_previews_X5_needSet rfl rfl rfl (by decide +kernel) ⟨Nat.le_of_ble_eq_true rfl, Nat.le_of_ble_eq_true rfl⟩) zI_blind (zI_pre hP hK hN) (va_recv hK hP (ci := 5) (q0 := 0) rfl rfl) rfl hl.1 rfl (Nat.le_of_ble_eq_true rfl) dX5_previews_6 ⟨Nat.le_of_ble_eq_true rfl, Nat.le_of_ble_eq_true rfl⟩ (fun _ => ?_)
    refine lv_aload_n hx hb dX5_previews_9 rfl (lv_at hl 0 rfl) ?_
    refine va_get hx hb hts hinX5 hown hK hP 0 rfl rfl 0 (by decide) (hk0) (fun _ h9 => h9) rfl dX5_previews_10 ?_
    refine va_getN hx hb hts hinX4 hown hK hP 1 rfl rfl 2 (by decide) (zN.use hN (List.mem_of_getElem? (i := 3) rfl)) (fun _ h9 => h9) rfl dX5_previews_13 ?_
    refine lv_iload_n hx hb dX5_previews_16 rfl (lv_at hl 2 rfl) ?_
    refine zald hx hb hK hP 8 0 rfl rfl (i := i) (by omega) (by decide) dX5_previews_17 ?_
    have b_3 : nV g i < 7 := (h78 _ (by omega)).2.1.2
    refine zeq (show g 8 i = nI (nV g i) from (h78 _ (by omega)).2.1.1) ?_
    refine lv_if_ne (tgt := 23) hx hb dX5_previews_18 (by decide) (fun c_4 => ?_) (fun c_4 => ?_)
    · have c_4 := zq_neT (x := (nV g i)) (by omega) c_4
      omega
    · have c_4 := zq_neF (x := (nV g i)) (by omega) c_4
      refine lv_iconst (v := nI 0) hx hb dX5_previews_21 (by decide) ?_
      exact W.iret (v := nI 0) hx hb hr (fun t ht hW => ⟨_, rfl, by simp only [prevN, if_pos hv0], ht⟩) (fun _ h => nomatch h) dX5_previews_22
  · refine lv_iload_n hx hb dX5_previews_0 rfl (lv_at hl 1 rfl) ?_
    refine zcSv (As := [.int (nI R)]) (rest := []) ⟨hx, hb, hml, hown, hts⟩ (c_X5_needReader l _ R (by omega)) (cwS 1 hts gX5_previews_X5_needReader rfl rfl rfl (by decide +kernel) ⟨Nat.le_of_ble_eq_true rfl, Nat.le_of_ble_eq_true rfl⟩) (B := fun _ => True) (fun _ _ _ _ _ => trivial) (fun _ _ _ => trivial) rfl hl.1 rfl (Nat.le_of_ble_eq_true rfl) dX5_previews_1 ⟨Nat.le_of_ble_eq_true rfl, Nat.le_of_ble_eq_true rfl⟩ (fun _ => ?_)
    refine lv_aload_n hx hb dX5_previews_4 rfl (lv_at hl 0 rfl) ?_
    refine lv_iload_n hx hb dX5_previews_5 rfl (lv_at hl 2 rfl) ?_
    refine zcVv (As := [.int (nI i)]) (rest := []) ⟨hx, hb, hml, hown, hts⟩ (c_X5_needSet l D ty g ad n1 n2 nL n4 n5 hI i (by omega)) (cwV 1 hts gX5_previews_X5_needSet rfl rfl rfl (by decide +kernel) ⟨Nat.le_of_ble_eq_true rfl, Nat.le_of_ble_eq_true rfl⟩) zI_blind (zI_pre hP hK hN) (va_recv hK hP (ci := 5) (q0 := 0) rfl rfl) rfl hl.1 rfl (Nat.le_of_ble_eq_true rfl) dX5_previews_6 ⟨Nat.le_of_ble_eq_true rfl, Nat.le_of_ble_eq_true rfl⟩ (fun _ => ?_)
    refine lv_aload_n hx hb dX5_previews_9 rfl (lv_at hl 0 rfl) ?_
    refine va_get hx hb hts hinX5 hown hK hP 0 rfl rfl 0 (by decide) (hk0) (fun _ h9 => h9) rfl dX5_previews_10 ?_
    refine va_getN hx hb hts hinX4 hown hK hP 1 rfl rfl 2 (by decide) (zN.use hN (List.mem_of_getElem? (i := 3) rfl)) (fun _ h9 => h9) rfl dX5_previews_13 ?_
    refine lv_iload_n hx hb dX5_previews_16 rfl (lv_at hl 2 rfl) ?_
    refine zald hx hb hK hP 8 0 rfl rfl (i := i) (by omega) (by decide) dX5_previews_17 ?_
    have b_7 : nV g i < 7 := (h78 _ (by omega)).2.1.2
    refine zeq (show g 8 i = nI (nV g i) from (h78 _ (by omega)).2.1.1) ?_
    refine lv_if_ne (tgt := 23) hx hb dX5_previews_18 (by decide) (fun c_8 => ?_) (fun c_8 => ?_)
    · have c_8 := zq_neT (x := (nV g i)) (by omega) c_8
      refine lv_aload_n hx hb dX5_previews_23 rfl (lv_at hl 0 rfl) ?_
      refine va_get hx hb hts hinX5 hown hK hP 0 rfl rfl 5 (by decide) (hk3) (fun _ h9 => h9) rfl dX5_previews_24 ?_
      refine lv_iload_n hx hb dX5_previews_27 rfl (lv_at hl 1 rfl) ?_
      refine lv_iload_n hx hb dX5_previews_28 rfl (lv_at hl 2 rfl) ?_
      refine zcSi (As := [.int (nI R), .int (nI i)]) (rest := [.ref (ad 6)]) ⟨hx, hb, hml, hown, hts⟩ (c_X5_previewAt l _ R i) (cwS 2 hts gX5_previews_X5_previewAt rfl rfl rfl (by decide +kernel) ⟨Nat.le_of_ble_eq_true rfl, Nat.le_of_ble_eq_true rfl⟩) (B := fun _ => True) (fun _ _ _ _ _ => trivial) (fun _ _ _ => trivial) rfl hl.1 rfl (Nat.le_of_ble_eq_true rfl) dX5_previews_29 ⟨Nat.le_of_ble_eq_true rfl, Nat.le_of_ble_eq_true rfl⟩ (fun r_9 hr_9 => ?_)
      subst hr_9
      refine zald hx hb hK hP 6 0 rfl rfl (i := R * 8 + i) (by omega) (by decide) dX5_previews_32 ?_
      refine lv_istore_n (lv' := [(3, .int (g 6 (R * 8 + i))), (0, .ref (ad 0)), (1, .int (nI R)), (2, .int (nI i))]) hx hb dX5_previews_33 rfl hl (by decide) rfl (fun ls hl => ?_)
      refine lv_aload_n hx hb dX5_previews_34 rfl (lv_at hl 1 rfl) ?_
      refine lv_iload_n hx hb dX5_previews_35 rfl (lv_at hl 2 rfl) ?_
      refine lv_iload_n hx hb dX5_previews_36 rfl (lv_at hl 3 rfl) ?_
      refine zcVi (As := [.int (nI R), .int (nI i)]) (rest := []) ⟨hx, hb, hml, hown, hts⟩ (c_X5_openToday l D ty g ad n1 n2 nL n4 n5 hI (nI R) (nI i)) (cwV 2 hts gX5_previews_X5_openToday rfl rfl rfl (by decide +kernel) ⟨Nat.le_of_ble_eq_true rfl, Nat.le_of_ble_eq_true rfl⟩) zI_blind (zI_pre hP hK hN) (va_recv hK hP (ci := 5) (q0 := 0) rfl rfl) rfl hl.1 rfl (Nat.le_of_ble_eq_true rfl) dX5_previews_37 ⟨Nat.le_of_ble_eq_true rfl, Nat.le_of_ble_eq_true rfl⟩ (fun r_10 hr_10 => ?_)
      subst hr_10
      refine lv_istore (lv' := [(4, .int (openT g n4 (nI R) (nI i))), (3, .int (g 6 (R * 8 + i))), (0, .ref (ad 0)), (1, .int (nI R)), (2, .int (nI i))]) hx hb dX5_previews_40 hl (by decide) rfl (fun ls hl => ?_)
      refine lv_aload_n hx hb dX5_previews_42 rfl (lv_at hl 2 rfl) ?_
      refine va_get hx hb hts hinX5 hown hK hP 0 rfl rfl 0 (by decide) (hk0) (fun _ h9 => h9) rfl dX5_previews_43 ?_
      refine lv_iload_n hx hb dX5_previews_46 rfl (lv_at hl 4 rfl) ?_
      refine zcVi (As := [.int (nI i)]) (rest := []) ⟨hx, hb, hml, hown, hts⟩ (c_X4_allFields l D ty g ad n1 n2 nL n4 n5 hI i (by omega)) (cwV 1 hts gX5_previews_X4_allFields rfl rfl rfl (by decide +kernel) ⟨Nat.le_of_ble_eq_true rfl, Nat.le_of_ble_eq_true rfl⟩) zI_blind (zI_pre hP hK hN) (va_recv hK hP (ci := 4) (q0 := 1) rfl rfl) rfl hl.1 rfl (Nat.le_of_ble_eq_true rfl) dX5_previews_47 ⟨Nat.le_of_ble_eq_true rfl, Nat.le_of_ble_eq_true rfl⟩ (fun r_11 hr_11 => ?_)
      subst hr_11
      refine zeq haF ?_
      refine lv_istore (lv' := [(5, .int (nI aN)), (4, .int (openT g n4 (nI R) (nI i))), (3, .int (g 6 (R * 8 + i))), (0, .ref (ad 0)), (1, .int (nI R)), (2, .int (nI i))]) hx hb dX5_previews_50 hl (by decide) rfl (fun ls hl => ?_)
      refine lv_iconst (v := nI 0) hx hb dX5_previews_52 (by decide) ?_
      refine lv_istore (lv' := [(6, .int (nI 0)), (5, .int (nI aN)), (4, .int (openT g n4 (nI R) (nI i))), (3, .int (g 6 (R * 8 + i))), (0, .ref (ad 0)), (1, .int (nI R)), (2, .int (nI i))]) hx hb dX5_previews_53 hl (by decide) rfl (fun ls hl => ?_)
      refine lv_iconst (v := nI 1) hx hb dX5_previews_55 (by decide) ?_
      refine lv_istore (lv' := [(7, .int (nI 1)), (6, .int (nI 0)), (5, .int (nI aN)), (4, .int (openT g n4 (nI R) (nI i))), (3, .int (g 6 (R * 8 + i))), (0, .ref (ad 0)), (1, .int (nI R)), (2, .int (nI i))]) hx hb dX5_previews_56 hl (by decide) rfl (fun ls hl => ?_)
      refine zloopP (τ := Unit) (fun k _ ls => lv_has ls 8 [(6, .int (sumN (fPrev g i (g 6 (R * 8 + i)) (openT g n4 (nI R) (nI i))) k)), (7, .int (nI (k + 1))), (0, .ref (ad 0)), (1, .int (nI R)), (2, .int (nI i)), (3, .int (g 6 (R * 8 + i))), (4, .int (openT g n4 (nI R) (nI i))), (5, .int (nI aN))]) aN ?_ 0 () ls (Nat.zero_le _) (lv_sub hl [1, 0, 5, 6, 7, 4, 3, 2] rfl)
      intro k _ ls hi_k hl ih_k
      have hl : lv_has ls 8 [(6, .int (sumN (fPrev g i (g 6 (R * 8 + i)) (openT g n4 (nI R) (nI i))) k)), (7, .int (nI (k + 1))), (0, .ref (ad 0)), (1, .int (nI R)), (2, .int (nI i)), (3, .int (g 6 (R * 8 + i))), (4, .int (openT g n4 (nI R) (nI i))), (5, .int (nI aN))] := hl
      refine lv_iload hx hb dX5_previews_58 (lv_at hl 1 rfl) ?_
      refine lv_iload hx hb dX5_previews_60 (lv_at hl 7 rfl) ?_
      refine lv_icmp_gt (tgt := 97) hx hb dX5_previews_62 (by decide) (fun c_12 => ?_) (fun c_12 => ?_)
      · have c_12 := zn_gtT (a := (k + 1)) (b := aN) (by omega) (by omega) c_12
        obtain rfl : k = aN := by omega
        refine lv_iload hx hb dX5_previews_97 (lv_at hl 0 rfl) ?_
        exact W.iret (v := sumN (fPrev g i (g 6 (R * 8 + i)) (openT g n4 (nI R) (nI i))) k) hx hb hr (fun t ht hW => ⟨_, rfl, by simp only [prevN, if_neg (Nat.pos_iff_ne_zero.mp hv0)]; rw [haN], ht⟩) (fun _ h => nomatch h) dX5_previews_99
      · have c_12 := zn_gtF (a := (k + 1)) (b := aN) (by omega) (by omega) c_12
        refine lv_iload hx hb dX5_previews_65 (lv_at hl 1 rfl) ?_
        refine zcSi (As := [.int (nI (k + 1))]) (rest := []) ⟨hx, hb, hml, hown, hts⟩ (c_J6_bitCount l _ (nI (k + 1))) (va_cwS 1 hts gX5_previews_J6_bitCount_0f7a4 rfl rfl rfl (by decide +kernel) ⟨Nat.le_of_ble_eq_true rfl, Nat.le_of_ble_eq_true rfl⟩) (B := fun _ => True) (fun _ _ _ _ _ => trivial) (fun _ _ _ => trivial) rfl hl.1 rfl (Nat.le_of_ble_eq_true rfl) dX5_previews_67 ⟨Nat.le_of_ble_eq_true rfl, Nat.le_of_ble_eq_true rfl⟩ (fun r_13 hr_13 => ?_)
        subst hr_13
        refine lv_iconst (v := nI 2) hx hb dX5_previews_70 (by decide) ?_
        refine lv_icmp_gt (tgt := 91) hx hb dX5_previews_71 (by decide) (fun c_14 => ?_) (fun c_14 => ?_)
        · refine lv_iinc (v := nI ((k + 1) + 1)) (lv' := [(7, .int (nI ((k + 1) + 1))), (6, .int (sumN (fPrev g i (g 6 (R * 8 + i)) (openT g n4 (nI R) (nI i))) k)), (0, .ref (ad 0)), (1, .int (nI R)), (2, .int (nI i)), (3, .int (g 6 (R * 8 + i))), (4, .int (openT g n4 (nI R) (nI i))), (5, .int (nI aN))]) hx hb dX5_previews_91 hl (k := 1) rfl (nI_add (k + 1) 1) (by decide) rfl (fun ls hl => ?_)
          refine lv_goto (tgt := 58) hx hb dX5_previews_94 (by decide) ?_
          refine ih_k () ls (by omega) (show lv_has ls 8 [(6, .int (sumN (fPrev g i (g 6 (R * 8 + i)) (openT g n4 (nI R) (nI i))) (k + 1))), (7, .int (nI ((k + 1) + 1))), (0, .ref (ad 0)), (1, .int (nI R)), (2, .int (nI i)), (3, .int (g 6 (R * 8 + i))), (4, .int (openT g n4 (nI R) (nI i))), (5, .int (nI aN))] from ?_)
          rw [show sumN (fPrev g i (g 6 (R * 8 + i)) (openT g n4 (nI R) (nI i))) (k + 1) = sumN (fPrev g i (g 6 (R * 8 + i)) (openT g n4 (nI R) (nI i))) k from by simp_all [sumN_s, fPrev]]
          exact lv_sub hl [1, 0, 2, 3, 4, 5, 6, 7] rfl
        · refine lv_aload_n hx hb dX5_previews_74 rfl (lv_at hl 2 rfl) ?_
          refine lv_iload_n hx hb dX5_previews_75 rfl (lv_at hl 4 rfl) ?_
          refine lv_iload_n hx hb dX5_previews_76 rfl (lv_at hl 5 rfl) ?_
          refine lv_iload hx hb dX5_previews_77 (lv_at hl 1 rfl) ?_
          refine lv_ior hx hb dX5_previews_79 ?_
          refine lv_iload hx hb dX5_previews_80 (lv_at hl 6 rfl) ?_
          refine zcVi (As := [.int (nI i), .int ((g 6 (R * 8 + i)) ||| (nI (k + 1))), .int (openT g n4 (nI R) (nI i))]) (rest := []) ⟨hx, hb, hml, hown, hts⟩ (c_X5_mayBeSeen l D ty g ad n1 n2 nL n4 n5 hI i (by omega) ((g 6 (R * 8 + i)) ||| (nI (k + 1))) (openT g n4 (nI R) (nI i))) (cwV 3 hts gX5_previews_X5_mayBeSeen rfl rfl rfl (by decide +kernel) ⟨Nat.le_of_ble_eq_true rfl, Nat.le_of_ble_eq_true rfl⟩) zI_blind (zI_pre hP hK hN) (va_recv hK hP (ci := 5) (q0 := 0) rfl rfl) rfl hl.1 rfl (Nat.le_of_ble_eq_true rfl) dX5_previews_82 ⟨Nat.le_of_ble_eq_true rfl, Nat.le_of_ble_eq_true rfl⟩ (fun r_15 hr_15 => ?_)
          subst hr_15
          refine lv_if_eq (tgt := 91) hx hb dX5_previews_85 (by decide) (fun c_16 => ?_) (fun c_16 => ?_)
          · have c_16 := bI_f c_16
            refine lv_iinc (v := nI ((k + 1) + 1)) (lv' := [(7, .int (nI ((k + 1) + 1))), (6, .int (sumN (fPrev g i (g 6 (R * 8 + i)) (openT g n4 (nI R) (nI i))) k)), (0, .ref (ad 0)), (1, .int (nI R)), (2, .int (nI i)), (3, .int (g 6 (R * 8 + i))), (4, .int (openT g n4 (nI R) (nI i))), (5, .int (nI aN))]) hx hb dX5_previews_91 hl (k := 1) rfl (nI_add (k + 1) 1) (by decide) rfl (fun ls hl => ?_)
            refine lv_goto (tgt := 58) hx hb dX5_previews_94 (by decide) ?_
            refine ih_k () ls (by omega) (show lv_has ls 8 [(6, .int (sumN (fPrev g i (g 6 (R * 8 + i)) (openT g n4 (nI R) (nI i))) (k + 1))), (7, .int (nI ((k + 1) + 1))), (0, .ref (ad 0)), (1, .int (nI R)), (2, .int (nI i)), (3, .int (g 6 (R * 8 + i))), (4, .int (openT g n4 (nI R) (nI i))), (5, .int (nI aN))] from ?_)
            rw [show sumN (fPrev g i (g 6 (R * 8 + i)) (openT g n4 (nI R) (nI i))) (k + 1) = sumN (fPrev g i (g 6 (R * 8 + i)) (openT g n4 (nI R) (nI i))) k from by simp_all [sumN_s, fPrev]]
            exact lv_sub hl [1, 0, 2, 3, 4, 5, 6, 7] rfl
          · have c_16 := bI_t c_16
            refine lv_iinc (v := (sumN (fPrev g i (g 6 (R * 8 + i)) (openT g n4 (nI R) (nI i))) k) + 1) (lv' := [(6, .int ((sumN (fPrev g i (g 6 (R * 8 + i)) (openT g n4 (nI R) (nI i))) k) + 1)), (7, .int (nI (k + 1))), (0, .ref (ad 0)), (1, .int (nI R)), (2, .int (nI i)), (3, .int (g 6 (R * 8 + i))), (4, .int (openT g n4 (nI R) (nI i))), (5, .int (nI aN))]) hx hb dX5_previews_88 hl (k := 0) rfl (rfl) (by decide) rfl (fun ls hl => ?_)
            refine lv_iinc (v := nI ((k + 1) + 1)) (lv' := [(7, .int (nI ((k + 1) + 1))), (6, .int ((sumN (fPrev g i (g 6 (R * 8 + i)) (openT g n4 (nI R) (nI i))) k) + 1)), (0, .ref (ad 0)), (1, .int (nI R)), (2, .int (nI i)), (3, .int (g 6 (R * 8 + i))), (4, .int (openT g n4 (nI R) (nI i))), (5, .int (nI aN))]) hx hb dX5_previews_91 hl (k := 1) rfl (nI_add (k + 1) 1) (by decide) rfl (fun ls hl => ?_)
            refine lv_goto (tgt := 58) hx hb dX5_previews_94 (by decide) ?_
            refine ih_k () ls (by omega) (show lv_has ls 8 [(6, .int (sumN (fPrev g i (g 6 (R * 8 + i)) (openT g n4 (nI R) (nI i))) (k + 1))), (7, .int (nI ((k + 1) + 1))), (0, .ref (ad 0)), (1, .int (nI R)), (2, .int (nI i)), (3, .int (g 6 (R * 8 + i))), (4, .int (openT g n4 (nI R) (nI i))), (5, .int (nI aN))] from ?_)
            rw [show sumN (fPrev g i (g 6 (R * 8 + i)) (openT g n4 (nI R) (nI i))) (k + 1) = (sumN (fPrev g i (g 6 (R * 8 + i)) (openT g n4 (nI R) (nI i))) k) + 1 from by simp_all [sumN_s, fPrev]]
            exact lv_sub hl [1, 0, 2, 3, 4, 5, 6, 7] rfl
    · have c_8 := zq_neF (x := (nV g i)) (by omega) c_8
      omega
