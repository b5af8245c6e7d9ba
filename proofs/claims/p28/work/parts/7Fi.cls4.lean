set_option maxHeartbeats 4000000 in
set_option maxRecDepth 100000 in
theorem c_X5_enterRead (l : Launch) (D : va_G) (ty : Nat → ClassId) (g : Nat → Nat → Int32) (ad : Nat → Nat) (sz : Nat) (hij : zIj ad) (n1 n2 nL n4 n5 : Nat) (hI : dI g n1 n2 nL n4 n5) (R i P : Nat) (hi : i < n1) (hv0 : 0 < nV g i) (F rw0 : Int32) (hn40 : n5 < 40) : Met l yX5_enterRead wsX5_enterRead ({ frames := 5, cells := 0, slots := 0, locals := 116 }) (va_Pc [.ref (ad 0), .int (nI R), .int (nI i), .int F, .int rw0, .int (nI P)] (fun U => zI D ty g ad U ∧ U.heap.size = sz)) (va_Qi (fun (v9 : Int32) (g2 : Nat → Nat → Int32) => v9 = chN (readG g n5 R i F rw0 P) n5 ∧ g2 = readG g n5 R i F rw0 P) (fun g2 t => zI D ty g2 ad t) (AC ad sz)) 0 0 (AC ad sz) := by
  refine zMet (cc := cX5_enterRead) (maxL := 8) (ret := (some .int)) (by decide) rfl (Nat.le_of_ble_eq_true rfl) ?_
  intro p e s m below meth c hx hb hr hts hown hlocks hml hB ls hl
  obtain ⟨⟨hP, hK, hN⟩, hsz⟩ := hB
  subst hsz
  have hS : va_S (AC ad s.heap.size) s.heap s.heap [] := va_S.rf
  have hA9 : ∀ q : Nat, s.heap.size ≤ q → AC ad s.heap.size q := fun q h => Or.inr h
  obtain ⟨⟨hn1, hn1b⟩, h78, ⟨hn2, hn2b⟩, h12, ⟨hnL, hnLb⟩, h15, ⟨hn4, hn4b⟩, ⟨hn5, hn5b⟩, hrd5, hd0⟩ := id hI
  have hq7 : nF g i < 7 := (h78 i hi).1.2
  have hq8 : nV g i < 7 := (h78 i hi).2.1.2
  have hl : lv_has ls 8 [(0, .ref (ad 0)), (1, .int (nI R)), (2, .int (nI i)), (3, .int F), (4, .int rw0), (5, .int (nI P))] := hl
  have hk0 := hts (.fieldLink RX5 40 "DatamarketDesk" "reads" "LDatamarketDesk$Reads;") (by decide +kernel)
  have hinX5 : ∀ w ∈ wsX50, w ∈ wsX5_enterRead := by decide +kernel
  have hk2 := hts (.fieldLink RX5 12 "DatamarketDesk" "shelf" "LDatamarketDesk$Shelf;") (by decide +kernel)
  have hk3 := hts (.fieldLink RX5 48 "DatamarketDesk" "today" "I") (by decide +kernel)
  have hinX4 : ∀ w ∈ wsX40, w ∈ wsX5_enterRead := by decide +kernel
  have hinX3 : ∀ w ∈ wsX30, w ∈ wsX5_enterRead := by decide +kernel
  refine lv_aload_n hx hb dX5_enterRead_0 rfl (lv_at hl 0 rfl) ?_
  refine va_get hx hb hts hinX5 hown hK hP 0 rfl rfl 4 (by decide) (hk0) (fun _ h9 => h9) rfl dX5_enterRead_1 ?_
  refine lv_iload_n hx hb dX5_enterRead_4 rfl (lv_at hl 1 rfl) ?_
  refine lv_iload_n hx hb dX5_enterRead_5 rfl (lv_at hl 2 rfl) ?_
  refine lv_aload_n hx hb dX5_enterRead_6 rfl (lv_at hl 0 rfl) ?_
  refine va_get hx hb hts hinX5 hown hK hP 0 rfl rfl 0 (by decide) (hk2) (fun _ h9 => h9) rfl dX5_enterRead_7 ?_
  refine lv_iload_n hx hb dX5_enterRead_10 rfl (lv_at hl 2 rfl) ?_
  refine zcVi (As := [.int (nI i)]) (rest := [.int (nI i), .int (nI R), .ref (ad 5)]) ⟨hx, hb, hml, hown, hts⟩ (c_X4_latestVersion_p l D ty g ad i (by omega) (h78 _ (by omega)).2.1 hv0) (cwV 1 hts gX5_enterRead_X4_latestVersion rfl rfl rfl (by decide +kernel) ⟨Nat.le_of_ble_eq_true rfl, Nat.le_of_ble_eq_true rfl⟩) zI_blind (zI_pre hP hK hN) (va_recv hK hP (ci := 4) (q0 := 1) rfl rfl) rfl hl.1 rfl (Nat.le_of_ble_eq_true rfl) dX5_enterRead_11 ⟨Nat.le_of_ble_eq_true rfl, Nat.le_of_ble_eq_true rfl⟩ (fun r_1 hr_1 => ?_)
  subst hr_1
  refine lv_iload_n hx hb dX5_enterRead_14 rfl (lv_at hl 3 rfl) ?_
  refine lv_iload hx hb dX5_enterRead_15 (lv_at hl 4 rfl) ?_
  refine lv_iload hx hb dX5_enterRead_17 (lv_at hl 5 rfl) ?_
  refine lv_aload_n hx hb dX5_enterRead_19 rfl (lv_at hl 0 rfl) ?_
  refine va_get hx hb hts hinX5 hown hK hP 0 rfl rfl 6 (by decide) (hk3) (fun _ h9 => h9) rfl dX5_enterRead_20 ?_
  have hFc : ∀ q, AC ad s.heap.size q → AC ad s.heap.size q := fun q h => h
  refine va_calli (va_runV (As := [.int (nI R), .int (nI i), .int (nI (nV g i - 1)), .int F, .int rw0, .int (nI P), .int (g 0 0)]) (rest := []) ⟨hx, hb, hml, hown, hts⟩ (c_X3_add l D ty g ad s.heap.size hij n5 hn5 (by omega) (nI R) (nI i) (nI (nV g i - 1)) F rw0 (nI P) (g 0 0)) (cwV 7 hts gX5_enterRead_X3_add rfl rfl rfl (by decide +kernel) ⟨Nat.le_of_ble_eq_true rfl, Nat.le_of_ble_eq_true rfl⟩) ⟨zBl (zW_blind), va_recv hK hP (ci := 3) (q0 := 5) rfl rfl, fun U h1 h2 => ⟨rfl, zI_pre hP hK hN U h1 h2, by rw [h1]⟩⟩ rfl rfl hl.1 rfl (lv_room (Nat.le_of_ble_eq_true rfl)) dX5_enterRead_23 ⟨Nat.le_of_ble_eq_true rfl, Nat.le_of_ble_eq_true rfl⟩) hS (fun q _ h => hFc q h) hFc (fun r_3 g_2 t H locs ht hvm hw hB _ _ hS => ?_)
  obtain ⟨hr_3, eg_2⟩ := hw
  subst hr_3
  have hP : va_P D vwCl (zC ty g_2 ad) H := by rw [← ht]; exact hB.1
  refine lv_istore (lv' := [(6, .int (nI n5)), (0, .ref (ad 0)), (1, .int (nI R)), (2, .int (nI i)), (3, .int F), (4, .int rw0), (5, .int (nI P))]) hx hb dX5_enterRead_26 hl (by decide) rfl (fun ls hl => ?_)
  refine lv_iconst (v := nI 0) hx hb dX5_enterRead_28 (by decide) ?_
  refine lv_istore (lv' := [(7, .int (nI 0)), (6, .int (nI n5)), (0, .ref (ad 0)), (1, .int (nI R)), (2, .int (nI i)), (3, .int F), (4, .int rw0), (5, .int (nI P))]) hx hb dX5_enterRead_29 hl (by decide) rfl (fun ls hl => ?_)
  refine zloop (τ := Unit) (fun k _ ls H locs cells slots => cells = 0 ∧ slots = 0 ∧ lv_has ls 8 [(6, .int (nI n5)), (7, .int (nI k)), (0, .ref (ad 0)), (1, .int (nI R)), (2, .int (nI i)), (3, .int F), (4, .int rw0), (5, .int (nI P))] ∧ va_P D vwCl (zC ty (va_up (addR g n5 (nI R) (nI i) (nI (nV g i - 1)) F rw0 (nI P) (g 0 0)) 38 (chgW (g 38) (n5 * 6) (fun f => g 10 (i * 6 + f)) F rw0 (tierN (sumN (fUn g (nI R) (g 0 0)) n5)) k)) ad) H ∧ va_S (AC ad s.heap.size) s.heap H locs) (nF g i) ?_ 0 () ls _ _ _ _ (Nat.zero_le _) (⟨rfl, rfl, lv_sub hl [1, 0, 2, 3, 4, 5, 6, 7] rfl, (by rw [chgW_0, show va_up (addR g n5 (nI R) (nI i) (nI (nV g i - 1)) F rw0 (nI P) (g 0 0)) 38 (g 38) = g_2 from by rw [eg_2]; exact vu_self (f := addR g n5 (nI R) (nI i) (nI (nV g i - 1)) F rw0 (nI P) (g 0 0)) 38]; exact hP), hS⟩)
  intro k _ ls H locs cells slots hi_k hinv ih_k
  obtain ⟨rfl, rfl, hl, hP, hS⟩ := hinv
  obtain ⟨g_4, eg_4⟩ : ∃ z : Nat → Nat → Int32, z = va_up (addR g n5 (nI R) (nI i) (nI (nV g i - 1)) F rw0 (nI P) (g 0 0)) 38 (chgW (g 38) (n5 * 6) (fun f => g 10 (i * 6 + f)) F rw0 (tierN (sumN (fUn g (nI R) (g 0 0)) n5)) k) := ⟨_, rfl⟩
  rw [← eg_4] at hP
  have hl : lv_has ls 8 [(6, .int (nI n5)), (7, .int (nI k)), (0, .ref (ad 0)), (1, .int (nI R)), (2, .int (nI i)), (3, .int F), (4, .int rw0), (5, .int (nI P))] := hl
  refine lv_iload hx hb dX5_enterRead_31 (lv_at hl 1 rfl) ?_
  refine lv_aload_n hx hb dX5_enterRead_33 rfl (lv_at hl 2 rfl) ?_
  refine va_get hx hb hts hinX5 hown hK hP 0 rfl rfl 0 (by decide) (hk2) (fun _ h9 => h9) rfl dX5_enterRead_34 ?_
  refine va_getN hx hb hts hinX4 hown hK hP 1 rfl rfl 1 (by decide) (zN.use hN (List.mem_of_getElem? (i := 2) rfl)) (fun _ h9 => h9) rfl dX5_enterRead_37 ?_
  refine lv_iload_n hx hb dX5_enterRead_40 rfl (lv_at hl 4 rfl) ?_
  refine zald hx hb hK hP 7 0 rfl rfl (i := i) (by omega) (by decide) dX5_enterRead_41 ?_
  have b_5 : nF g i < 7 := (h78 _ (by omega)).1.2
  refine zeq (show g_4 7 i = nI (nF g i) from (by rw [eg_4]; exact (h78 _ (by omega)).1.1)) ?_
  refine lv_icmp_ge (tgt := 97) hx hb dX5_enterRead_42 (by decide) (fun c_6 => ?_) (fun c_6 => ?_)
  · have c_6 := zn_geT (a := k) (b := (nF g i)) (by omega) (by omega) c_6
    obtain e9 : k = nF g i := by omega
    subst e9
    refine lv_aload_n hx hb dX5_enterRead_97 rfl (lv_at hl 2 rfl) ?_
    refine va_get hx hb hts hinX5 hown hK hP 0 rfl rfl 4 (by decide) (hk0) (fun _ h9 => h9) rfl dX5_enterRead_98 ?_
    refine lv_iload hx hb dX5_enterRead_101 (lv_at hl 0 rfl) ?_
    refine zcVi (As := [.int (nI n5)]) (rest := []) ⟨hx, hb, hml, hown, hts⟩ (c_X3_chargeOf l D ty g_4 ad n5 (by omega)) (cwV 1 hts gX5_enterRead_X3_chargeOf rfl rfl rfl (by decide +kernel) ⟨Nat.le_of_ble_eq_true rfl, Nat.le_of_ble_eq_true rfl⟩) zI_blind (zI_pre hP hK hN) (va_recv hK hP (ci := 3) (q0 := 5) rfl rfl) rfl hl.1 rfl (Nat.le_of_ble_eq_true rfl) dX5_enterRead_103 ⟨Nat.le_of_ble_eq_true rfl, Nat.le_of_ble_eq_true rfl⟩ (fun r_7 hr_7 => ?_)
    subst hr_7
    exact W.iret (v := chN g_4 n5) hx hb hr (fun t ht hW => ⟨⟨_, g_4, rfl, ⟨by rw [eg_4]; rfl, by rw [eg_4]; rfl⟩, ⟨by rw [ht]; exact hP, va_K.moved hW.alike hK, hN.warm hW⟩⟩, hS.F ht⟩) hS.2.2 dX5_enterRead_106
  · have c_6 := zn_geF (a := k) (b := (nF g i)) (by omega) (by omega) c_6
    refine lv_iload_n hx hb dX5_enterRead_45 rfl (lv_at hl 5 rfl) ?_
    refine lv_iload hx hb dX5_enterRead_46 (lv_at hl 1 rfl) ?_
    refine zcSi (As := [.int F, .int (nI k)]) (rest := []) ⟨hx, hb, hml, hown, hts⟩ (c_X5_has l _ F k) (cwS 2 hts gX5_enterRead_X5_has rfl rfl rfl (by decide +kernel) ⟨Nat.le_of_ble_eq_true rfl, Nat.le_of_ble_eq_true rfl⟩) (B := fun _ => True) (fun _ _ _ _ _ => trivial) (fun _ _ _ => trivial) rfl hl.1 rfl (Nat.le_of_ble_eq_true rfl) dX5_enterRead_48 ⟨Nat.le_of_ble_eq_true rfl, Nat.le_of_ble_eq_true rfl⟩ (fun r_8 hr_8 => ?_)
    subst hr_8
    refine lv_if_eq (tgt := 91) hx hb dX5_enterRead_51 (by decide) (fun c_9 => ?_) (fun c_9 => ?_)
    · have c_9 := bI_f c_9
      refine lv_iinc (v := nI (k + 1)) (lv' := [(7, .int (nI (k + 1))), (6, .int (nI n5)), (0, .ref (ad 0)), (1, .int (nI R)), (2, .int (nI i)), (3, .int F), (4, .int rw0), (5, .int (nI P))]) hx hb dX5_enterRead_91 hl (k := 1) rfl (nI_add k 1) (by decide) rfl (fun ls hl => ?_)
      refine lv_goto (tgt := 31) hx hb dX5_enterRead_94 (by decide) ?_
      refine ih_k () ls _ _ _ _ (by omega) ⟨rfl, rfl, ?_, ?_, hS⟩
      · show lv_has ls 8 [(6, .int (nI n5)), (7, .int (nI (k + 1))), (0, .ref (ad 0)), (1, .int (nI R)), (2, .int (nI i)), (3, .int F), (4, .int rw0), (5, .int (nI P))]
        exact lv_sub hl [1, 0, 2, 3, 4, 5, 6, 7] rfl
      · have e9 : g_4 = va_up (addR g n5 (nI R) (nI i) (nI (nV g i - 1)) F rw0 (nI P) (g 0 0)) 38 (chgW (g 38) (n5 * 6) (fun f => g 10 (i * 6 + f)) F rw0 (tierN (sumN (fUn g (nI R) (g 0 0)) n5)) ((k + 1))) := by rw [eg_4, chgW_n c_9]
        rw [← e9]; exact hP
    · have c_9 := bI_t c_9
      refine lv_aload_n hx hb dX5_enterRead_54 rfl (lv_at hl 2 rfl) ?_
      refine va_get hx hb hts hinX5 hown hK hP 0 rfl rfl 4 (by decide) (hk0) (fun _ h9 => h9) rfl dX5_enterRead_55 ?_
      refine va_getN hx hb hts hinX3 hown hK hP 5 rfl rfl 10 (by decide) (zN.use hN (List.mem_of_getElem? (i := 25) rfl)) (fun _ h9 => h9) rfl dX5_enterRead_58 ?_
      refine lv_iload hx hb dX5_enterRead_61 (lv_at hl 0 rfl) ?_
      refine lv_iload hx hb dX5_enterRead_63 (lv_at hl 1 rfl) ?_
      refine zcSi (As := [.int (nI n5), .int (nI k)]) (rest := [.ref (ad 38)]) ⟨hx, hb, hml, hown, hts⟩ (c_X5_chargeAt l _ n5 k) (cwS 2 hts gX5_enterRead_X5_chargeAt rfl rfl rfl (by decide +kernel) ⟨Nat.le_of_ble_eq_true rfl, Nat.le_of_ble_eq_true rfl⟩) (B := fun _ => True) (fun _ _ _ _ _ => trivial) (fun _ _ _ => trivial) rfl hl.1 rfl (Nat.le_of_ble_eq_true rfl) dX5_enterRead_65 ⟨Nat.le_of_ble_eq_true rfl, Nat.le_of_ble_eq_true rfl⟩ (fun r_10 hr_10 => ?_)
      subst hr_10
      refine lv_aload_n hx hb dX5_enterRead_68 rfl (lv_at hl 2 rfl) ?_
      refine va_get hx hb hts hinX5 hown hK hP 0 rfl rfl 0 (by decide) (hk2) (fun _ h9 => h9) rfl dX5_enterRead_69 ?_
      refine lv_iload_n hx hb dX5_enterRead_72 rfl (lv_at hl 4 rfl) ?_
      refine lv_iload hx hb dX5_enterRead_73 (lv_at hl 1 rfl) ?_
      refine lv_iload hx hb dX5_enterRead_75 (lv_at hl 6 rfl) ?_
      refine lv_aload_n hx hb dX5_enterRead_77 rfl (lv_at hl 2 rfl) ?_
      refine va_get hx hb hts hinX5 hown hK hP 0 rfl rfl 4 (by decide) (hk0) (fun _ h9 => h9) rfl dX5_enterRead_78 ?_
      refine va_getN hx hb hts hinX3 hown hK hP 5 rfl rfl 8 (by decide) (zN.use hN (List.mem_of_getElem? (i := 23) rfl)) (fun _ h9 => h9) rfl dX5_enterRead_81 ?_
      refine lv_iload hx hb dX5_enterRead_84 (lv_at hl 0 rfl) ?_
      refine zald hx hb hK hP 36 0 rfl rfl (i := n5) (by omega) (by decide) dX5_enterRead_86 ?_
      refine zeq (show g_4 36 n5 = tierN (sumN (fUn g (nI R) (g 0 0)) n5) from (by rw [eg_4]; exact if_pos rfl)) ?_
      refine zcVi (As := [.int (nI i), .int (nI k), .int rw0, .int (tierN (sumN (fUn g (nI R) (g 0 0)) n5))]) (rest := [.int (nI (n5 * 6 + k)), .ref (ad 38)]) ⟨hx, hb, hml, hown, hts⟩ (c_X4_fieldCharge l D ty g_4 ad i k (by omega) (by omega) rw0 (tierN (sumN (fUn g (nI R) (g 0 0)) n5))) (cwV 4 hts gX5_enterRead_X4_fieldCharge rfl rfl rfl (by decide +kernel) ⟨Nat.le_of_ble_eq_true rfl, Nat.le_of_ble_eq_true rfl⟩) zI_blind (zI_pre hP hK hN) (va_recv hK hP (ci := 4) (q0 := 1) rfl rfl) rfl hl.1 rfl (Nat.le_of_ble_eq_true rfl) dX5_enterRead_87 ⟨Nat.le_of_ble_eq_true rfl, Nat.le_of_ble_eq_true rfl⟩ (fun r_11 hr_11 => ?_)
      subst hr_11
      refine zast hx hb hK hP (zD hij) hS 38 0 rfl rfl (i := n5 * 6 + k) (by omega) (by decide) dX5_enterRead_90 (fun H locs hP hS => ?_)
      obtain ⟨g_12, eg_12⟩ : ∃ z : Nat → Nat → Int32, z = va_up g_4 38 (upd (g_4 38) (n5 * 6 + k) (rw0 * g_4 10 (i * 6 + k) * (tierN (sumN (fUn g (nI R) (g 0 0)) n5)) / nI 400)) := ⟨_, rfl⟩
      have hP : va_P D vwCl (zC ty g_12 ad) H := by rw [eg_12]; exact hP
      refine lv_iinc (v := nI (k + 1)) (lv' := [(7, .int (nI (k + 1))), (6, .int (nI n5)), (0, .ref (ad 0)), (1, .int (nI R)), (2, .int (nI i)), (3, .int F), (4, .int rw0), (5, .int (nI P))]) hx hb dX5_enterRead_91 hl (k := 1) rfl (nI_add k 1) (by decide) rfl (fun ls hl => ?_)
      refine lv_goto (tgt := 31) hx hb dX5_enterRead_94 (by decide) ?_
      refine ih_k () ls _ _ _ _ (by omega) ⟨rfl, rfl, ?_, ?_, hS⟩
      · show lv_has ls 8 [(6, .int (nI n5)), (7, .int (nI (k + 1))), (0, .ref (ad 0)), (1, .int (nI R)), (2, .int (nI i)), (3, .int F), (4, .int rw0), (5, .int (nI P))]
        exact lv_sub hl [1, 0, 2, 3, 4, 5, 6, 7] rfl
      · have e9 : g_12 = va_up (addR g n5 (nI R) (nI i) (nI (nV g i - 1)) F rw0 (nI P) (g 0 0)) 38 (chgW (g 38) (n5 * 6) (fun f => g 10 (i * 6 + f)) F rw0 (tierN (sumN (fUn g (nI R) (g 0 0)) n5)) ((k + 1))) := by rw [eg_12, eg_4, ← chgW_y c_9]; exact vu_2 _ _ _ _
        rw [← e9]; exact hP
