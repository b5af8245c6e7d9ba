set_option maxHeartbeats 4000000 in
set_option maxRecDepth 100000 in
theorem c_X5_read (l : Launch) (D : va_G) (ty : Nat → ClassId) (g : Nat → Nat → Int32) (ad : Nat → Nat) (sz : Nat) (hij : zIj ad) (n1 n2 nL n4 n5 : Nat) (hI : dI g n1 n2 nL n4 n5) (R i P : Nat) (hR : R < 6) (hi : i < n1) (hPp : P < 4) (F rw0 : Int32) (hF1 : ¬ F < nI 1) (hF2 : ¬ allF g i < F) (hr1 : ¬ rw0 < nI 1) (hn40 : n5 < 40) (hr2 : ¬ rowsL g i < rw0) (hcv : F &&& (orN (fOpen g (nI R) (nI i) (nI 1 <<< (nI P &&& 31)) (g 0 0) (-1)) n4 ^^^ (-1)) = 0) : Met l yX5_read wsX5_read ({ frames := 6, cells := 0, slots := 0, locals := 143 }) (va_Pc [.ref (ad 0), .int (nI R), .int (nI i), .int F, .int rw0, .int (nI P)] (fun U => zI D ty g ad U ∧ U.heap.size = sz)) (va_Qi (fun (v9 : Int32) (g2 : Nat → Nat → Int32) => v9 = chN (readG g n5 R i F rw0 P) n5 ∧ g2 = readG g n5 R i F rw0 P) (fun g2 t => zI D ty g2 ad t) (AC ad sz)) 0 0 (AC ad sz) := by
  refine zMet (cc := cX5_read) (maxL := 6) (ret := (some .int)) (by decide) rfl (Nat.le_of_ble_eq_true rfl) ?_
  intro p e s m below meth c hx hb hr hts hown hlocks hml hB ls hl
  obtain ⟨⟨hP, hK, hN⟩, hsz⟩ := hB
  subst hsz
  have hS : va_S (AC ad s.heap.size) s.heap s.heap [] := va_S.rf
  have hA9 : ∀ q : Nat, s.heap.size ≤ q → AC ad s.heap.size q := fun q h => Or.inr h
  obtain ⟨⟨hn1, hn1b⟩, h78, ⟨hn2, hn2b⟩, h12, ⟨hnL, hnLb⟩, h15, ⟨hn4, hn4b⟩, ⟨hn5, hn5b⟩, hrd5, hd0⟩ := id hI
  have hq7 : nF g i < 7 := (h78 i hi).1.2
  have hq8 : nV g i < 7 := (h78 i hi).2.1.2
  have hv0 : 0 < nV g i := Nat.pos_of_ne_zero fun q => by
    have q9 : rowsL g i = nI 0 := by unfold rowsL; rw [if_pos q]
    rw [q9] at hr2
    exact rows0 hr1 hr2
  have hl : lv_has ls 6 [(0, .ref (ad 0)), (1, .int (nI R)), (2, .int (nI i)), (3, .int F), (4, .int rw0), (5, .int (nI P))] := hl
  have hk0 := hts (.fieldLink RX5 40 "DatamarketDesk" "reads" "LDatamarketDesk$Reads;") (by decide +kernel)
  have hinX5 : ∀ w ∈ wsX50, w ∈ wsX5_read := by decide +kernel
  have hinX3 : ∀ w ∈ wsX30, w ∈ wsX5_read := by decide +kernel
  have hk3 := hts (.fieldLink RX5 12 "DatamarketDesk" "shelf" "LDatamarketDesk$Shelf;") (by decide +kernel)
  have hk4 := hts (.fieldLink RX5 33 "DatamarketDesk" "contracts" "LDatamarketDesk$Contracts;") (by decide +kernel)
  have hk5 := hts (.fieldLink RX5 48 "DatamarketDesk" "today" "I") (by decide +kernel)
  refine lv_iload_n hx hb dX5_read_0 rfl (lv_at hl 1 rfl) ?_
  refine zcSv (As := [.int (nI R)]) (rest := []) ⟨hx, hb, hml, hown, hts⟩ (c_X5_needReader l _ R (by omega)) (cwS 1 hts gX5_read_X5_needReader rfl rfl rfl (by decide +kernel) ⟨Nat.le_of_ble_eq_true rfl, Nat.le_of_ble_eq_true rfl⟩) (B := fun _ => True) (fun _ _ _ _ _ => trivial) (fun _ _ _ => trivial) rfl hl.1 rfl (Nat.le_of_ble_eq_true rfl) dX5_read_1 ⟨Nat.le_of_ble_eq_true rfl, Nat.le_of_ble_eq_true rfl⟩ (fun _ => ?_)
  refine lv_aload_n hx hb dX5_read_4 rfl (lv_at hl 0 rfl) ?_
  refine lv_iload_n hx hb dX5_read_5 rfl (lv_at hl 2 rfl) ?_
  refine zcVv (As := [.int (nI i)]) (rest := []) ⟨hx, hb, hml, hown, hts⟩ (c_X5_needSet l D ty g ad n1 n2 nL n4 n5 hI i (by omega)) (cwV 1 hts gX5_read_X5_needSet rfl rfl rfl (by decide +kernel) ⟨Nat.le_of_ble_eq_true rfl, Nat.le_of_ble_eq_true rfl⟩) zI_blind (zI_pre hP hK hN) (va_recv hK hP (ci := 5) (q0 := 0) rfl rfl) rfl hl.1 rfl (Nat.le_of_ble_eq_true rfl) dX5_read_6 ⟨Nat.le_of_ble_eq_true rfl, Nat.le_of_ble_eq_true rfl⟩ (fun _ => ?_)
  refine lv_iload hx hb dX5_read_9 (lv_at hl 5 rfl) ?_
  refine zcSv (As := [.int (nI P)]) (rest := []) ⟨hx, hb, hml, hown, hts⟩ (c_X5_needPurpose l _ P (by omega)) (cwS 1 hts gX5_read_X5_needPurpose rfl rfl rfl (by decide +kernel) ⟨Nat.le_of_ble_eq_true rfl, Nat.le_of_ble_eq_true rfl⟩) (B := fun _ => True) (fun _ _ _ _ _ => trivial) (fun _ _ _ => trivial) rfl hl.1 rfl (Nat.le_of_ble_eq_true rfl) dX5_read_11 ⟨Nat.le_of_ble_eq_true rfl, Nat.le_of_ble_eq_true rfl⟩ (fun _ => ?_)
  refine lv_aload_n hx hb dX5_read_14 rfl (lv_at hl 0 rfl) ?_
  refine lv_iload_n hx hb dX5_read_15 rfl (lv_at hl 2 rfl) ?_
  refine lv_iload_n hx hb dX5_read_16 rfl (lv_at hl 3 rfl) ?_
  refine zcVv (As := [.int (nI i), .int F]) (rest := []) ⟨hx, hb, hml, hown, hts⟩ (c_X5_needFields l D ty g ad n1 n2 nL n4 n5 hI i (by omega) F hF1 hF2) (cwV 2 hts gX5_read_X5_needFields rfl rfl rfl (by decide +kernel) ⟨Nat.le_of_ble_eq_true rfl, Nat.le_of_ble_eq_true rfl⟩) zI_blind (zI_pre hP hK hN) (va_recv hK hP (ci := 5) (q0 := 0) rfl rfl) rfl hl.1 rfl (Nat.le_of_ble_eq_true rfl) dX5_read_17 ⟨Nat.le_of_ble_eq_true rfl, Nat.le_of_ble_eq_true rfl⟩ (fun _ => ?_)
  refine lv_iload hx hb dX5_read_20 (lv_at hl 4 rfl) ?_
  refine lv_iconst (v := nI 1) hx hb dX5_read_22 (by decide) ?_
  refine lv_icmp_ge (tgt := 36) hx hb dX5_read_23 (by decide) (fun c_5 => ?_) (fun c_5 => ?_)
  · refine lv_aload_n hx hb dX5_read_36 rfl (lv_at hl 0 rfl) ?_
    refine va_get hx hb hts hinX5 hown hK hP 0 rfl rfl 4 (by decide) (hk0) (fun _ h9 => h9) rfl dX5_read_37 ?_
    refine va_getN hx hb hts hinX3 hown hK hP 5 rfl rfl 0 (by decide) (zN.use hN (List.mem_of_getElem? (i := 15) rfl)) (fun _ h9 => h9) rfl dX5_read_40 ?_
    refine zeq (show g 5 0 = nI n5 from hn5) ?_
    refine lv_bipush (v := nI 40) hx hb dX5_read_43 (by decide) ?_
    refine lv_icmp_lt (tgt := 58) hx hb dX5_read_45 (by decide) (fun c_6 => ?_) (fun c_6 => ?_)
    · have c_6 := zn_ltT (a := n5) (b := 40) (by omega) (by omega) c_6
      refine lv_iload hx hb dX5_read_58 (lv_at hl 4 rfl) ?_
      refine lv_aload_n hx hb dX5_read_60 rfl (lv_at hl 0 rfl) ?_
      refine va_get hx hb hts hinX5 hown hK hP 0 rfl rfl 0 (by decide) (hk3) (fun _ h9 => h9) rfl dX5_read_61 ?_
      refine lv_iload_n hx hb dX5_read_64 rfl (lv_at hl 2 rfl) ?_
      refine zcVi (As := [.int (nI i)]) (rest := [.int rw0]) ⟨hx, hb, hml, hown, hts⟩ (c_X4_latestRows l D ty g ad n1 n2 nL n4 n5 hI i (by omega)) (cwV 1 hts gX5_read_X4_latestRows rfl rfl rfl (by decide +kernel) ⟨Nat.le_of_ble_eq_true rfl, Nat.le_of_ble_eq_true rfl⟩) zI_blind (zI_pre hP hK hN) (va_recv hK hP (ci := 4) (q0 := 1) rfl rfl) rfl hl.1 rfl (Nat.le_of_ble_eq_true rfl) dX5_read_65 ⟨Nat.le_of_ble_eq_true rfl, Nat.le_of_ble_eq_true rfl⟩ (fun r_7 hr_7 => ?_)
      subst hr_7
      refine lv_icmp_le (tgt := 81) hx hb dX5_read_68 (by decide) (fun c_8 => ?_) (fun c_8 => ?_)
      · refine lv_iload_n hx hb dX5_read_81 rfl (lv_at hl 3 rfl) ?_
        refine lv_aload_n hx hb dX5_read_82 rfl (lv_at hl 0 rfl) ?_
        refine va_get hx hb hts hinX5 hown hK hP 0 rfl rfl 3 (by decide) (hk4) (fun _ h9 => h9) rfl dX5_read_83 ?_
        refine lv_iload_n hx hb dX5_read_86 rfl (lv_at hl 1 rfl) ?_
        refine lv_iload_n hx hb dX5_read_87 rfl (lv_at hl 2 rfl) ?_
        refine lv_iconst (v := nI 1) hx hb dX5_read_88 (by decide) ?_
        refine lv_iload hx hb dX5_read_89 (lv_at hl 5 rfl) ?_
        refine lv_ishl hx hb dX5_read_91 ?_
        refine lv_aload_n hx hb dX5_read_92 rfl (lv_at hl 0 rfl) ?_
        refine va_get hx hb hts hinX5 hown hK hP 0 rfl rfl 6 (by decide) (hk5) (fun _ h9 => h9) rfl dX5_read_93 ?_
        refine lv_iconst (v := -1) hx hb dX5_read_96 (by decide) ?_
        refine zcVi (As := [.int (nI R), .int (nI i), .int ((nI 1) <<< ((nI P) &&& 31)), .int (g 0 0), .int (-1)]) (rest := [.int F]) ⟨hx, hb, hml, hown, hts⟩ (c_X0_open l D ty g ad n4 hn4 hn4b (nI R) (nI i) ((nI 1) <<< ((nI P) &&& 31)) (g 0 0) (-1)) (cwV 5 hts gX5_read_X0_open rfl rfl rfl (by decide +kernel) ⟨Nat.le_of_ble_eq_true rfl, Nat.le_of_ble_eq_true rfl⟩) zI_blind (zI_pre hP hK hN) (va_recv hK hP (ci := 0) (q0 := 4) rfl rfl) rfl hl.1 rfl (Nat.le_of_ble_eq_true rfl) dX5_read_97 ⟨Nat.le_of_ble_eq_true rfl, Nat.le_of_ble_eq_true rfl⟩ (fun r_9 hr_9 => ?_)
        subst hr_9
        refine lv_iconst (v := -1) hx hb dX5_read_100 (by decide) ?_
        refine lv_ixor hx hb dX5_read_101 ?_
        refine lv_iand hx hb dX5_read_102 ?_
        refine lv_if_eq (tgt := 116) hx hb dX5_read_103 (by decide) (fun c_10 => ?_) (fun c_10 => ?_)
        · refine lv_aload_n hx hb dX5_read_116 rfl (lv_at hl 0 rfl) ?_
          refine lv_iload_n hx hb dX5_read_117 rfl (lv_at hl 1 rfl) ?_
          refine lv_iload_n hx hb dX5_read_118 rfl (lv_at hl 2 rfl) ?_
          refine lv_iload_n hx hb dX5_read_119 rfl (lv_at hl 3 rfl) ?_
          refine lv_iload hx hb dX5_read_120 (lv_at hl 4 rfl) ?_
          refine lv_iload hx hb dX5_read_122 (lv_at hl 5 rfl) ?_
          have hFc : ∀ q, AC ad s.heap.size q → AC ad s.heap.size q := fun q h => h
          refine va_calli (va_runV (As := [.int (nI R), .int (nI i), .int F, .int rw0, .int (nI P)]) (rest := []) ⟨hx, hb, hml, hown, hts⟩ (c_X5_enterRead l D ty g ad s.heap.size hij n1 n2 nL n4 n5 hI R i P (by omega) hv0 F rw0 (by omega)) (cwV 5 hts gX5_read_X5_enterRead rfl rfl rfl (by decide +kernel) ⟨Nat.le_of_ble_eq_true rfl, Nat.le_of_ble_eq_true rfl⟩) ⟨zBl (zW_blind), va_recv hK hP (ci := 5) (q0 := 0) rfl rfl, fun U h1 h2 => ⟨rfl, zI_pre hP hK hN U h1 h2, by rw [h1]⟩⟩ rfl rfl hl.1 rfl (lv_room (Nat.le_of_ble_eq_true rfl)) dX5_read_124 ⟨Nat.le_of_ble_eq_true rfl, Nat.le_of_ble_eq_true rfl⟩) hS (fun q _ h => hFc q h) hFc (fun r_12 g_11 t H locs ht hvm hw hB _ _ hS => ?_)
          obtain ⟨hr_12, eg_11⟩ := hw
          subst hr_12
          have hP : va_P D vwCl (zC ty g_11 ad) H := by rw [← ht]; exact hB.1
          exact W.iret (v := chN (readG g n5 R i F rw0 P) n5) hx hb hr (fun t ht hW => ⟨⟨_, g_11, rfl, ⟨rfl, by rw [eg_11]⟩, ⟨by rw [ht]; exact hP, va_K.moved hW.alike hK, hN.warm hW⟩⟩, hS.F ht⟩) hS.2.2 dX5_read_127
        · exact absurd hcv c_10
      · exact absurd (Int32.not_le.mp c_8) hr2
    · have c_6 := zn_ltF (a := n5) (b := 40) (by omega) (by omega) c_6
      omega
  · exact absurd (Int32.not_le.mp c_5) hr1
set_option maxHeartbeats 4000000 in
set_option maxRecDepth 100000 in
theorem c_X5_preview (l : Launch) (D : va_G) (ty : Nat → ClassId) (g : Nat → Nat → Int32) (ad : Nat → Nat) (sz : Nat) (hij : zIj ad) (n1 n2 nL n4 n5 : Nat) (hI : dI g n1 n2 nL n4 n5) (R i : Nat) (hR : R < 6) (hi : i < n1) (F : Int32) (hF1 : ¬ F < nI 1) (hF2 : ¬ allF g i < F) (hb2 : ¬ nI 2 < bc F) (hv0 : 0 < nV g i) (hmb : mayB g i (g 6 (R * 8 + i) ||| F) (openT g n4 (nI R) (nI i)) = true) : Met l yX5_preview wsX5_preview ({ frames := 4, cells := 0, slots := 0, locals := 96 }) (va_Pc [.ref (ad 0), .int (nI R), .int (nI i), .int F] (fun U => zI D ty g ad U ∧ U.heap.size = sz)) (va_Qi (fun (v9 : Int32) (g2 : Nat → Nat → Int32) => v9 = g 6 (R * 8 + i) ||| F ∧ g2 = va_up g 6 (upd (g 6) (R * 8 + i) (g 6 (R * 8 + i) ||| F))) (fun g2 t => zI D ty g2 ad t) (AC ad sz)) 0 0 (AC ad sz) := by
  refine zMet (cc := cX5_preview) (maxL := 6) (ret := (some .int)) (by decide) rfl (Nat.le_of_ble_eq_true rfl) ?_
  intro p e s m below meth c hx hb hr hts hown hlocks hml hB ls hl
  obtain ⟨⟨hP, hK, hN⟩, hsz⟩ := hB
  subst hsz
  have hS : va_S (AC ad s.heap.size) s.heap s.heap [] := va_S.rf
  have hA9 : ∀ q : Nat, s.heap.size ≤ q → AC ad s.heap.size q := fun q h => Or.inr h
  obtain ⟨⟨hn1, hn1b⟩, h78, ⟨hn2, hn2b⟩, h12, ⟨hnL, hnLb⟩, h15, ⟨hn4, hn4b⟩, ⟨hn5, hn5b⟩, hrd5, hd0⟩ := id hI
  have hq7 : nF g i < 7 := (h78 i hi).1.2
  have hq8 : nV g i < 7 := (h78 i hi).2.1.2
  have hl : lv_has ls 6 [(0, .ref (ad 0)), (1, .int (nI R)), (2, .int (nI i)), (3, .int F)] := hl
  have hk0 := hts (.fieldLink RX5 12 "DatamarketDesk" "shelf" "LDatamarketDesk$Shelf;") (by decide +kernel)
  have hinX5 : ∀ w ∈ wsX50, w ∈ wsX5_preview := by decide +kernel
  have hinX4 : ∀ w ∈ wsX40, w ∈ wsX5_preview := by decide +kernel
  have hk3 := hts (.fieldLink RX5 44 "DatamarketDesk" "previewed" "[I") (by decide +kernel)
  refine lv_iload_n hx hb dX5_preview_0 rfl (lv_at hl 1 rfl) ?_
  refine zcSv (As := [.int (nI R)]) (rest := []) ⟨hx, hb, hml, hown, hts⟩ (c_X5_needReader l _ R (by omega)) (cwS 1 hts gX5_preview_X5_needReader rfl rfl rfl (by decide +kernel) ⟨Nat.le_of_ble_eq_true rfl, Nat.le_of_ble_eq_true rfl⟩) (B := fun _ => True) (fun _ _ _ _ _ => trivial) (fun _ _ _ => trivial) rfl hl.1 rfl (Nat.le_of_ble_eq_true rfl) dX5_preview_1 ⟨Nat.le_of_ble_eq_true rfl, Nat.le_of_ble_eq_true rfl⟩ (fun _ => ?_)
  refine lv_aload_n hx hb dX5_preview_4 rfl (lv_at hl 0 rfl) ?_
  refine lv_iload_n hx hb dX5_preview_5 rfl (lv_at hl 2 rfl) ?_
  refine zcVv (As := [.int (nI i)]) (rest := []) ⟨hx, hb, hml, hown, hts⟩ (c_X5_needSet l D ty g ad n1 n2 nL n4 n5 hI i (by omega)) (cwV 1 hts gX5_preview_X5_needSet rfl rfl rfl (by decide +kernel) ⟨Nat.le_of_ble_eq_true rfl, Nat.le_of_ble_eq_true rfl⟩) zI_blind (zI_pre hP hK hN) (va_recv hK hP (ci := 5) (q0 := 0) rfl rfl) rfl hl.1 rfl (Nat.le_of_ble_eq_true rfl) dX5_preview_6 ⟨Nat.le_of_ble_eq_true rfl, Nat.le_of_ble_eq_true rfl⟩ (fun _ => ?_)
  refine lv_aload_n hx hb dX5_preview_9 rfl (lv_at hl 0 rfl) ?_
  refine lv_iload_n hx hb dX5_preview_10 rfl (lv_at hl 2 rfl) ?_
  refine lv_iload_n hx hb dX5_preview_11 rfl (lv_at hl 3 rfl) ?_
  refine zcVv (As := [.int (nI i), .int F]) (rest := []) ⟨hx, hb, hml, hown, hts⟩ (c_X5_needFields l D ty g ad n1 n2 nL n4 n5 hI i (by omega) F hF1 hF2) (cwV 2 hts gX5_preview_X5_needFields rfl rfl rfl (by decide +kernel) ⟨Nat.le_of_ble_eq_true rfl, Nat.le_of_ble_eq_true rfl⟩) zI_blind (zI_pre hP hK hN) (va_recv hK hP (ci := 5) (q0 := 0) rfl rfl) rfl hl.1 rfl (Nat.le_of_ble_eq_true rfl) dX5_preview_12 ⟨Nat.le_of_ble_eq_true rfl, Nat.le_of_ble_eq_true rfl⟩ (fun _ => ?_)
  refine lv_iload_n hx hb dX5_preview_15 rfl (lv_at hl 3 rfl) ?_
  refine zcSi (As := [.int F]) (rest := []) ⟨hx, hb, hml, hown, hts⟩ (c_J6_bitCount l _ F) (va_cwS 1 hts gX5_preview_J6_bitCount_0f7a4 rfl rfl rfl (by decide +kernel) ⟨Nat.le_of_ble_eq_true rfl, Nat.le_of_ble_eq_true rfl⟩) (B := fun _ => True) (fun _ _ _ _ _ => trivial) (fun _ _ _ => trivial) rfl hl.1 rfl (Nat.le_of_ble_eq_true rfl) dX5_preview_16 ⟨Nat.le_of_ble_eq_true rfl, Nat.le_of_ble_eq_true rfl⟩ (fun r_4 hr_4 => ?_)
  subst hr_4
  refine lv_iconst (v := nI 2) hx hb dX5_preview_19 (by decide) ?_
  refine lv_icmp_le (tgt := 33) hx hb dX5_preview_20 (by decide) (fun c_5 => ?_) (fun c_5 => ?_)
  · refine lv_aload_n hx hb dX5_preview_33 rfl (lv_at hl 0 rfl) ?_
    refine va_get hx hb hts hinX5 hown hK hP 0 rfl rfl 0 (by decide) (hk0) (fun _ h9 => h9) rfl dX5_preview_34 ?_
    refine va_getN hx hb hts hinX4 hown hK hP 1 rfl rfl 2 (by decide) (zN.use hN (List.mem_of_getElem? (i := 3) rfl)) (fun _ h9 => h9) rfl dX5_preview_37 ?_
    refine lv_iload_n hx hb dX5_preview_40 rfl (lv_at hl 2 rfl) ?_
    refine zald hx hb hK hP 8 0 rfl rfl (i := i) (by omega) (by decide) dX5_preview_41 ?_
    have b_6 : nV g i < 7 := (h78 _ (by omega)).2.1.2
    refine zeq (show g 8 i = nI (nV g i) from (h78 _ (by omega)).2.1.1) ?_
    refine lv_if_ne (tgt := 55) hx hb dX5_preview_42 (by decide) (fun c_7 => ?_) (fun c_7 => ?_)
    · have c_7 := zq_neT (x := (nV g i)) (by omega) c_7
      refine lv_iload_n hx hb dX5_preview_55 rfl (lv_at hl 1 rfl) ?_
      refine lv_iload_n hx hb dX5_preview_56 rfl (lv_at hl 2 rfl) ?_
      refine zcSi (As := [.int (nI R), .int (nI i)]) (rest := []) ⟨hx, hb, hml, hown, hts⟩ (c_X5_previewAt l _ R i) (cwS 2 hts gX5_preview_X5_previewAt rfl rfl rfl (by decide +kernel) ⟨Nat.le_of_ble_eq_true rfl, Nat.le_of_ble_eq_true rfl⟩) (B := fun _ => True) (fun _ _ _ _ _ => trivial) (fun _ _ _ => trivial) rfl hl.1 rfl (Nat.le_of_ble_eq_true rfl) dX5_preview_57 ⟨Nat.le_of_ble_eq_true rfl, Nat.le_of_ble_eq_true rfl⟩ (fun r_8 hr_8 => ?_)
      subst hr_8
      refine lv_istore (lv' := [(4, .int (nI (R * 8 + i))), (0, .ref (ad 0)), (1, .int (nI R)), (2, .int (nI i)), (3, .int F)]) hx hb dX5_preview_60 hl (by decide) rfl (fun ls hl => ?_)
      refine lv_aload_n hx hb dX5_preview_62 rfl (lv_at hl 1 rfl) ?_
      refine va_get hx hb hts hinX5 hown hK hP 0 rfl rfl 5 (by decide) (hk3) (fun _ h9 => h9) rfl dX5_preview_63 ?_
      refine lv_iload hx hb dX5_preview_66 (lv_at hl 0 rfl) ?_
      refine zald hx hb hK hP 6 0 rfl rfl (i := R * 8 + i) (by omega) (by decide) dX5_preview_68 ?_
      refine lv_iload_n hx hb dX5_preview_69 rfl (lv_at hl 4 rfl) ?_
      refine lv_ior hx hb dX5_preview_70 ?_
      refine lv_istore (lv' := [(5, .int ((g 6 (R * 8 + i)) ||| F)), (4, .int (nI (R * 8 + i))), (0, .ref (ad 0)), (1, .int (nI R)), (2, .int (nI i)), (3, .int F)]) hx hb dX5_preview_71 hl (by decide) rfl (fun ls hl => ?_)
      refine lv_aload_n hx hb dX5_preview_73 rfl (lv_at hl 2 rfl) ?_
      refine lv_iload_n hx hb dX5_preview_74 rfl (lv_at hl 4 rfl) ?_
      refine lv_iload hx hb dX5_preview_75 (lv_at hl 0 rfl) ?_
      refine lv_aload_n hx hb dX5_preview_77 rfl (lv_at hl 2 rfl) ?_
      refine lv_iload_n hx hb dX5_preview_78 rfl (lv_at hl 3 rfl) ?_
      refine lv_iload_n hx hb dX5_preview_79 rfl (lv_at hl 4 rfl) ?_
      refine zcVi (As := [.int (nI R), .int (nI i)]) (rest := [.int ((g 6 (R * 8 + i)) ||| F), .int (nI i), .ref (ad 0)]) ⟨hx, hb, hml, hown, hts⟩ (c_X5_openToday l D ty g ad n1 n2 nL n4 n5 hI (nI R) (nI i)) (cwV 2 hts gX5_preview_X5_openToday rfl rfl rfl (by decide +kernel) ⟨Nat.le_of_ble_eq_true rfl, Nat.le_of_ble_eq_true rfl⟩) zI_blind (zI_pre hP hK hN) (va_recv hK hP (ci := 5) (q0 := 0) rfl rfl) rfl hl.1 rfl (Nat.le_of_ble_eq_true rfl) dX5_preview_80 ⟨Nat.le_of_ble_eq_true rfl, Nat.le_of_ble_eq_true rfl⟩ (fun r_9 hr_9 => ?_)
      subst hr_9
      refine zcVi (As := [.int (nI i), .int ((g 6 (R * 8 + i)) ||| F), .int (openT g n4 (nI R) (nI i))]) (rest := []) ⟨hx, hb, hml, hown, hts⟩ (c_X5_mayBeSeen l D ty g ad n1 n2 nL n4 n5 hI i (by omega) ((g 6 (R * 8 + i)) ||| F) (openT g n4 (nI R) (nI i))) (cwV 3 hts gX5_preview_X5_mayBeSeen rfl rfl rfl (by decide +kernel) ⟨Nat.le_of_ble_eq_true rfl, Nat.le_of_ble_eq_true rfl⟩) zI_blind (zI_pre hP hK hN) (va_recv hK hP (ci := 5) (q0 := 0) rfl rfl) rfl hl.1 rfl (Nat.le_of_ble_eq_true rfl) dX5_preview_83 ⟨Nat.le_of_ble_eq_true rfl, Nat.le_of_ble_eq_true rfl⟩ (fun r_10 hr_10 => ?_)
      subst hr_10
      refine lv_if_ne (tgt := 99) hx hb dX5_preview_86 (by decide) (fun c_11 => ?_) (fun c_11 => ?_)
      · have c_11 := bI_t c_11
        refine lv_aload_n hx hb dX5_preview_99 rfl (lv_at hl 2 rfl) ?_
        refine va_get hx hb hts hinX5 hown hK hP 0 rfl rfl 5 (by decide) (hk3) (fun _ h9 => h9) rfl dX5_preview_100 ?_
        refine lv_iload hx hb dX5_preview_103 (lv_at hl 1 rfl) ?_
        refine lv_iload hx hb dX5_preview_105 (lv_at hl 0 rfl) ?_
        refine zast hx hb hK hP (zD hij) hS 6 0 rfl rfl (i := R * 8 + i) (by omega) (by decide) dX5_preview_107 (fun H locs hP hS => ?_)
        obtain ⟨g_12, eg_12⟩ : ∃ z : Nat → Nat → Int32, z = va_up g 6 (upd (g 6) (R * 8 + i) ((g 6 (R * 8 + i)) ||| F)) := ⟨_, rfl⟩
        have hP : va_P D vwCl (zC ty g_12 ad) H := by rw [eg_12]; exact hP
        refine lv_iload hx hb dX5_preview_108 (lv_at hl 0 rfl) ?_
        exact W.iret (v := (g 6 (R * 8 + i)) ||| F) hx hb hr (fun t ht hW => ⟨⟨_, g_12, rfl, ⟨rfl, by rw [eg_12]⟩, ⟨by rw [ht]; exact hP, va_K.moved hW.alike hK, hN.warm hW⟩⟩, hS.F ht⟩) hS.2.2 dX5_preview_110
      · have c_11 := bI_f c_11
        rw [hmb] at c_11; cases c_11
    · have c_7 := zq_neF (x := (nV g i)) (by omega) c_7
      omega
  · exact absurd (Int32.not_le.mp c_5) hb2
set_option maxHeartbeats 4000000 in
set_option maxRecDepth 100000 in
theorem c_X5_bill (l : Launch) (D : va_G) (ty : Nat → ClassId) (g : Nat → Nat → Int32) (ad : Nat → Nat) (sz : Nat) (hij : zIj ad) (n1 n2 nL n4 n5 : Nat) (hI : dI g n1 n2 nL n4 n5) (R : Nat) (hR : R < 6) : Met l yX5_bill wsX5_bill ({ frames := 4, cells := 0, slots := 0, locals := 93 }) (va_Pc [.ref (ad 0), .int (nI R)] (fun U => zI D ty g ad U ∧ U.heap.size = sz)) (va_Qi (fun (v9 : Int32) (g2 : Nat → Nat → Int32) => v9 = sumN (fDue g (nI R) 21) n5 ∧ g2 = va_up g 37 (bilN g (nI R) n5)) (fun g2 t => zI D ty g2 ad t) (AC ad sz)) 0 0 (AC ad sz) := by
  refine zMet (cc := cX5_bill) (maxL := 3) (ret := (some .int)) (by decide) rfl (Nat.le_of_ble_eq_true rfl) ?_
  intro p e s m below meth c hx hb hr hts hown hlocks hml hB ls hl
  obtain ⟨⟨hP, hK, hN⟩, hsz⟩ := hB
  subst hsz
  have hS : va_S (AC ad s.heap.size) s.heap s.heap [] := va_S.rf
  have hA9 : ∀ q : Nat, s.heap.size ≤ q → AC ad s.heap.size q := fun q h => Or.inr h
  obtain ⟨⟨hn1, hn1b⟩, h78, ⟨hn2, hn2b⟩, h12, ⟨hnL, hnLb⟩, h15, ⟨hn4, hn4b⟩, ⟨hn5, hn5b⟩, hrd5, hd0⟩ := id hI
  have hl : lv_has ls 3 [(0, .ref (ad 0)), (1, .int (nI R))] := hl
  have hk0 := hts (.fieldLink RX5 40 "DatamarketDesk" "reads" "LDatamarketDesk$Reads;") (by decide +kernel)
  have hinX5 : ∀ w ∈ wsX50, w ∈ wsX5_bill := by decide +kernel
  have hk2 := hts (.fieldLink RX5 26 "DatamarketDesk" "harms" "LDatamarketDesk$Harms;") (by decide +kernel)
  have hinX1 : ∀ w ∈ wsX10, w ∈ wsX5_bill := by decide +kernel
  refine lv_iload_n hx hb dX5_bill_0 rfl (lv_at hl 1 rfl) ?_
  refine zcSv (As := [.int (nI R)]) (rest := []) ⟨hx, hb, hml, hown, hts⟩ (c_X5_needReader l _ R (by omega)) (cwS 1 hts gX5_bill_X5_needReader rfl rfl rfl (by decide +kernel) ⟨Nat.le_of_ble_eq_true rfl, Nat.le_of_ble_eq_true rfl⟩) (B := fun _ => True) (fun _ _ _ _ _ => trivial) (fun _ _ _ => trivial) rfl hl.1 rfl (Nat.le_of_ble_eq_true rfl) dX5_bill_1 ⟨Nat.le_of_ble_eq_true rfl, Nat.le_of_ble_eq_true rfl⟩ (fun _ => ?_)
  refine lv_aload_n hx hb dX5_bill_4 rfl (lv_at hl 0 rfl) ?_
  refine va_get hx hb hts hinX5 hown hK hP 0 rfl rfl 4 (by decide) (hk0) (fun _ h9 => h9) rfl dX5_bill_5 ?_
  refine lv_iload_n hx hb dX5_bill_8 rfl (lv_at hl 1 rfl) ?_
  refine lv_aload_n hx hb dX5_bill_9 rfl (lv_at hl 0 rfl) ?_
  refine va_get hx hb hts hinX5 hown hK hP 0 rfl rfl 2 (by decide) (hk2) (fun _ h9 => h9) rfl dX5_bill_10 ?_
  refine va_getN hx hb hts hinX1 hown hK hP 3 rfl rfl 2 (by decide) (zN.use hN (List.mem_of_getElem? (i := 10) rfl)) (fun _ h9 => h9) rfl dX5_bill_13 ?_
  refine zcVi (As := [.int (nI R), .ref (ad 21)]) (rest := []) ⟨hx, hb, hml, hown, hts⟩ (c_X3_due l D ty g ad n5 hn5 hn5b hrd5 (nI R)) (cwV 2 hts gX5_bill_X3_due rfl rfl rfl (by decide +kernel) ⟨Nat.le_of_ble_eq_true rfl, Nat.le_of_ble_eq_true rfl⟩) zI_blind (zI_pre hP hK hN) (va_recv hK hP (ci := 3) (q0 := 5) rfl rfl) rfl hl.1 rfl (Nat.le_of_ble_eq_true rfl) dX5_bill_16 ⟨Nat.le_of_ble_eq_true rfl, Nat.le_of_ble_eq_true rfl⟩ (fun r_2 hr_2 => ?_)
  subst hr_2
  refine lv_istore_n (lv' := [(2, .int (sumN (fDue g (nI R) 21) n5)), (0, .ref (ad 0)), (1, .int (nI R))]) hx hb dX5_bill_19 rfl hl (by decide) rfl (fun ls hl => ?_)
  refine lv_aload_n hx hb dX5_bill_20 rfl (lv_at hl 1 rfl) ?_
  refine va_get hx hb hts hinX5 hown hK hP 0 rfl rfl 4 (by decide) (hk0) (fun _ h9 => h9) rfl dX5_bill_21 ?_
  refine lv_iload_n hx hb dX5_bill_24 rfl (lv_at hl 2 rfl) ?_
  refine lv_aload_n hx hb dX5_bill_25 rfl (lv_at hl 1 rfl) ?_
  refine va_get hx hb hts hinX5 hown hK hP 0 rfl rfl 2 (by decide) (hk2) (fun _ h9 => h9) rfl dX5_bill_26 ?_
  refine va_getN hx hb hts hinX1 hown hK hP 3 rfl rfl 2 (by decide) (zN.use hN (List.mem_of_getElem? (i := 10) rfl)) (fun _ h9 => h9) rfl dX5_bill_29 ?_
  have hFc : ∀ q, AC ad s.heap.size q → AC ad s.heap.size q := fun q h => h
  refine va_callv (va_runV (As := [.int (nI R), .ref (ad 21)]) (rest := []) ⟨hx, hb, hml, hown, hts⟩ (c_X3_settle l D ty g ad s.heap.size hij n5 hn5 hn5b hrd5 (nI R)) (cwV 2 hts gX5_bill_X3_settle rfl rfl rfl (by decide +kernel) ⟨Nat.le_of_ble_eq_true rfl, Nat.le_of_ble_eq_true rfl⟩) ⟨zBl (zW_blind), va_recv hK hP (ci := 3) (q0 := 5) rfl rfl, fun U h1 h2 => ⟨rfl, zI_pre hP hK hN U h1 h2, by rw [h1]⟩⟩ rfl rfl hl.1 rfl (lv_room (Nat.le_of_ble_eq_true rfl)) dX5_bill_32 ⟨Nat.le_of_ble_eq_true rfl, Nat.le_of_ble_eq_true rfl⟩) hS (fun q _ h => hFc q h) hFc (fun g_3 t H locs ht hvm hw hB _ _ hS => ?_)
  have eg_3 := hw
  have hP : va_P D vwCl (zC ty g_3 ad) H := by rw [← ht]; exact hB.1
  refine lv_iload_n hx hb dX5_bill_35 rfl (lv_at hl 0 rfl) ?_
  exact W.iret (v := sumN (fDue g (nI R) 21) n5) hx hb hr (fun t ht hW => ⟨⟨_, g_3, rfl, ⟨rfl, by rw [eg_3]⟩, ⟨by rw [ht]; exact hP, va_K.moved hW.alike hK, hN.warm hW⟩⟩, hS.F ht⟩) hS.2.2 dX5_bill_36
set_option maxHeartbeats 4000000 in
set_option maxRecDepth 100000 in
theorem c_X5_pass (l : Launch) (D : va_G) (ty : Nat → ClassId) (g : Nat → Nat → Int32) (ad : Nat → Nat) (sz : Nat) (hij : zIj ad) (n1 n2 nL n4 n5 : Nat) (hI : dI g n1 n2 nL n4 n5) (d : Int32) (hd1 : ¬ d < nI 1) (hd2 : ¬ nI 30 < d) (hd3 : ¬ nI 359 < g 0 0 + d) : Met l yX5_pass wsX5_pass ({ frames := 0, cells := 0, slots := 0, locals := 0 }) (va_Pc [.ref (ad 0), .int d] (fun U => zI D ty g ad U ∧ U.heap.size = sz)) (va_Qi (fun (v9 : Int32) (g2 : Nat → Nat → Int32) => v9 = g 0 0 + d ∧ g2 = va_up g 0 (upd (g 0) 0 (g 0 0 + d))) (fun g2 t => zI D ty g2 ad t) (AC ad sz)) 0 0 (AC ad sz) := by
  refine zMet (cc := cX5_pass) (maxL := 2) (ret := (some .int)) (by decide) rfl (Nat.le_of_ble_eq_true rfl) ?_
  intro p e s m below meth c hx hb hr hts hown hlocks hml hB ls hl
  obtain ⟨⟨hP, hK, hN⟩, hsz⟩ := hB
  subst hsz
  have hS : va_S (AC ad s.heap.size) s.heap s.heap [] := va_S.rf
  have hA9 : ∀ q : Nat, s.heap.size ≤ q → AC ad s.heap.size q := fun q h => Or.inr h
  obtain ⟨⟨hn1, hn1b⟩, h78, ⟨hn2, hn2b⟩, h12, ⟨hnL, hnLb⟩, h15, ⟨hn4, hn4b⟩, ⟨hn5, hn5b⟩, hrd5, hd0⟩ := id hI
  have hl : lv_has ls 2 [(0, .ref (ad 0)), (1, .int d)] := hl
  have hk0 := hts (.fieldLink RX5 48 "DatamarketDesk" "today" "I") (by decide +kernel)
  have hinX5 : ∀ w ∈ wsX50, w ∈ wsX5_pass := by decide +kernel
  refine lv_iload_n hx hb dX5_pass_0 rfl (lv_at hl 1 rfl) ?_
  refine lv_iconst (v := nI 1) hx hb dX5_pass_1 (by decide) ?_
  refine lv_icmp_lt (tgt := 11) hx hb dX5_pass_2 (by decide) (fun c_1 => ?_) (fun c_1 => ?_)
  · exact absurd c_1 hd1
  · refine lv_iload_n hx hb dX5_pass_5 rfl (lv_at hl 1 rfl) ?_
    refine lv_bipush (v := nI 30) hx hb dX5_pass_6 (by decide) ?_
    refine lv_icmp_le (tgt := 22) hx hb dX5_pass_8 (by decide) (fun c_2 => ?_) (fun c_2 => ?_)
    · refine lv_aload_n hx hb dX5_pass_22 rfl (lv_at hl 0 rfl) ?_
      refine va_get hx hb hts hinX5 hown hK hP 0 rfl rfl 6 (by decide) (hk0) (fun _ h9 => h9) rfl dX5_pass_23 ?_
      refine lv_iload_n hx hb dX5_pass_26 rfl (lv_at hl 1 rfl) ?_
      refine lv_iadd hx hb dX5_pass_27 ?_
      refine lv_sipush (v := nI 359) hx hb dX5_pass_28 (by decide) ?_
      refine lv_icmp_le (tgt := 45) hx hb dX5_pass_31 (by decide) (fun c_3 => ?_) (fun c_3 => ?_)
      · refine lv_aload_n hx hb dX5_pass_45 rfl (lv_at hl 0 rfl) ?_
        refine lv_dup hx hb dX5_pass_46 rfl ?_
        refine va_get hx hb hts hinX5 hown hK hP 0 rfl rfl 6 (by decide) (hk0) (fun _ h9 => h9) rfl dX5_pass_47 ?_
        refine lv_iload_n hx hb dX5_pass_50 rfl (lv_at hl 1 rfl) ?_
        refine lv_iadd hx hb dX5_pass_51 ?_
        refine va_put (ty := .int) hx hb hts hinX5 tyX5 tyX5_ok nmX5 hown hK hP (zD hij) hS 0 rfl rfl 6 (by decide) (hk0) (fun _ h9 => h9) rfl (by decide +kernel) rfl rfl (Nat.le_of_ble_eq_true rfl) dX5_pass_52 (fun H locs hP _ hS => ?_)
        obtain ⟨g_4, eg_4⟩ : ∃ z : Nat → Nat → Int32, z = va_up g 0 (upd (g 0) 0 ((g 0 0) + d)) := ⟨_, rfl⟩
        have hP : va_P D vwCl (zC ty g_4 ad) H := by rw [eg_4]; exact hP
        refine lv_aload_n hx hb dX5_pass_55 rfl (lv_at hl 0 rfl) ?_
        refine va_get hx hb hts hinX5 hown hK hP 0 rfl rfl 6 (by decide) (hk0) (fun _ h9 => h9) rfl dX5_pass_56 ?_
        exact W.iret (v := g_4 0 0) hx hb hr (fun t ht hW => ⟨⟨_, g_4, rfl, ⟨by rw [eg_4]; rfl, by rw [eg_4]⟩, ⟨by rw [ht]; exact hP, va_K.moved hW.alike hK, hN.warm hW⟩⟩, hS.F ht⟩) hS.2.2 dX5_pass_59
      · exact absurd (Int32.not_le.mp c_3) hd3
    · exact absurd (Int32.not_le.mp c_2) hd2
