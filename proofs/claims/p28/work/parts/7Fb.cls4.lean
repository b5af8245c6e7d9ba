set_option maxHeartbeats 4000000 in
set_option maxRecDepth 100000 in
theorem c_X5_version (l : Launch) (D : va_G) (ty : Nat → ClassId) (g : Nat → Nat → Int32) (ad : Nat → Nat) (sz : Nat) (hij : zIj ad) (n1 n2 nL n4 n5 : Nat) (hI : dI g n1 n2 nL n4 n5) (i : Nat) (hi : i < n1) (hv6 : nV g i < 6) (x : Int32) (hx1 : ¬ x < nI 1) (hx2 : ¬ nI 9999 < x) : Met l yX5_version wsX5_version ({ frames := 3, cells := 0, slots := 0, locals := 64 }) (va_Pc [.ref (ad 0), .int (nI i), .int x] (fun U => zI D ty g ad U ∧ U.heap.size = sz)) (va_Qi (fun (v9 : Int32) (g2 : Nat → Nat → Int32) => v9 = nI (nV g i) ∧ g2 = verG g n2 i x) (fun g2 t => zI D ty g2 ad t) (AC ad sz)) 0 0 (AC ad sz) := by
  refine zMet (cc := cX5_version) (maxL := 4) (ret := (some .int)) (by decide) rfl (Nat.le_of_ble_eq_true rfl) ?_
  intro p e s m below meth c hx hb hr hts hown hlocks hml hB ls hl
  obtain ⟨⟨hP, hK, hN⟩, hsz⟩ := hB
  subst hsz
  have hS : va_S (AC ad s.heap.size) s.heap s.heap [] := va_S.rf
  have hA9 : ∀ q : Nat, s.heap.size ≤ q → AC ad s.heap.size q := fun q h => Or.inr h
  obtain ⟨⟨hn1, hn1b⟩, h78, ⟨hn2, hn2b⟩, h12, ⟨hnL, hnLb⟩, h15, ⟨hn4, hn4b⟩, ⟨hn5, hn5b⟩, hrd5, hd0⟩ := id hI
  have hq7 : nF g i < 7 := (h78 i hi).1.2
  have hq8 : nV g i < 7 := (h78 i hi).2.1.2
  have h21 : nb (g 2 1) 121 := by rw [hnL]; exact nb_nI (by omega) (by decide)
  have hlk : lkOk g := ⟨h21, fun j hj => h15 j (by rw [hnL, cn_nI (by omega)] at hj; exact hj)⟩
  have hl : lv_has ls 4 [(0, .ref (ad 0)), (1, .int (nI i)), (2, .int x)] := hl
  have hk0 := hts (.fieldLink RX5 12 "DatamarketDesk" "shelf" "LDatamarketDesk$Shelf;") (by decide +kernel)
  have hinX5 : ∀ w ∈ wsX50, w ∈ wsX5_version := by decide +kernel
  have hinX4 : ∀ w ∈ wsX40, w ∈ wsX5_version := by decide +kernel
  have hk3 := hts (.fieldLink RX5 19 "DatamarketDesk" "lineage" "LDatamarketDesk$Lineage;") (by decide +kernel)
  have hk4 := hts (.fieldLink RX5 26 "DatamarketDesk" "harms" "LDatamarketDesk$Harms;") (by decide +kernel)
  refine lv_aload_n hx hb dX5_version_0 rfl (lv_at hl 0 rfl) ?_
  refine lv_iload_n hx hb dX5_version_1 rfl (lv_at hl 1 rfl) ?_
  refine zcVv (As := [.int (nI i)]) (rest := []) ⟨hx, hb, hml, hown, hts⟩ (c_X5_needSet l D ty g ad n1 n2 nL n4 n5 hI i (by omega)) (cwV 1 hts gX5_version_X5_needSet rfl rfl rfl (by decide +kernel) ⟨Nat.le_of_ble_eq_true rfl, Nat.le_of_ble_eq_true rfl⟩) zI_blind (zI_pre hP hK hN) (va_recv hK hP (ci := 5) (q0 := 0) rfl rfl) rfl hl.1 rfl (Nat.le_of_ble_eq_true rfl) dX5_version_2 ⟨Nat.le_of_ble_eq_true rfl, Nat.le_of_ble_eq_true rfl⟩ (fun _ => ?_)
  refine lv_iload_n hx hb dX5_version_5 rfl (lv_at hl 2 rfl) ?_
  refine lv_iconst (v := nI 1) hx hb dX5_version_6 (by decide) ?_
  refine lv_icmp_lt (tgt := 17) hx hb dX5_version_7 (by decide) (fun c_2 => ?_) (fun c_2 => ?_)
  · exact absurd c_2 hx1
  · refine lv_iload_n hx hb dX5_version_10 rfl (lv_at hl 2 rfl) ?_
    refine lv_sipush (v := nI 9999) hx hb dX5_version_11 (by decide) ?_
    refine lv_icmp_le (tgt := 27) hx hb dX5_version_14 (by decide) (fun c_3 => ?_) (fun c_3 => ?_)
    · refine lv_aload_n hx hb dX5_version_27 rfl (lv_at hl 0 rfl) ?_
      refine va_get hx hb hts hinX5 hown hK hP 0 rfl rfl 0 (by decide) (hk0) (fun _ h9 => h9) rfl dX5_version_28 ?_
      refine va_getN hx hb hts hinX4 hown hK hP 1 rfl rfl 2 (by decide) (zN.use hN (List.mem_of_getElem? (i := 3) rfl)) (fun _ h9 => h9) rfl dX5_version_31 ?_
      refine lv_iload_n hx hb dX5_version_34 rfl (lv_at hl 1 rfl) ?_
      refine zald hx hb hK hP 8 0 rfl rfl (i := i) (by omega) (by decide) dX5_version_35 ?_
      have b_4 : nV g i < 7 := (h78 _ (by omega)).2.1.2
      refine zeq (show g 8 i = nI (nV g i) from (h78 _ (by omega)).2.1.1) ?_
      refine lv_bipush (v := nI 6) hx hb dX5_version_36 (by decide) ?_
      refine lv_icmp_lt (tgt := 51) hx hb dX5_version_38 (by decide) (fun c_5 => ?_) (fun c_5 => ?_)
      · have c_5 := zn_ltT (a := (nV g i)) (b := 6) (by omega) (by omega) c_5
        refine lv_aload_n hx hb dX5_version_51 rfl (lv_at hl 0 rfl) ?_
        refine va_get hx hb hts hinX5 hown hK hP 0 rfl rfl 0 (by decide) (hk0) (fun _ h9 => h9) rfl dX5_version_52 ?_
        refine lv_iload_n hx hb dX5_version_55 rfl (lv_at hl 1 rfl) ?_
        refine lv_iload_n hx hb dX5_version_56 rfl (lv_at hl 2 rfl) ?_
        have hFc : ∀ q, AC ad s.heap.size q → AC ad s.heap.size q := fun q h => h
        refine va_calli (va_runV (As := [.int (nI i), .int x]) (rest := []) ⟨hx, hb, hml, hown, hts⟩ (c_X4_addVersion l D ty g ad s.heap.size hij i (by omega) (h78 _ (by omega)).2.1 (by omega) x) (cwV 2 hts gX5_version_X4_addVersion rfl rfl rfl (by decide +kernel) ⟨Nat.le_of_ble_eq_true rfl, Nat.le_of_ble_eq_true rfl⟩) ⟨zBl (zW_blind), va_recv hK hP (ci := 4) (q0 := 1) rfl rfl, fun U h1 h2 => ⟨rfl, zI_pre hP hK hN U h1 h2, by rw [h1]⟩⟩ rfl rfl hl.1 rfl (lv_room (Nat.le_of_ble_eq_true rfl)) dX5_version_57 ⟨Nat.le_of_ble_eq_true rfl, Nat.le_of_ble_eq_true rfl⟩) hS (fun q _ h => hFc q h) hFc (fun r_7 g_6 t H locs ht hvm hw hB _ _ hS => ?_)
        obtain ⟨hr_7, eg_6⟩ := hw
        subst hr_7
        have hP : va_P D vwCl (zC ty g_6 ad) H := by rw [← ht]; exact hB.1
        refine lv_istore_n (lv' := [(3, .int (nI (nV g i))), (0, .ref (ad 0)), (1, .int (nI i)), (2, .int x)]) hx hb dX5_version_60 rfl hl (by decide) rfl (fun ls hl => ?_)
        refine lv_aload_n hx hb dX5_version_61 rfl (lv_at hl 1 rfl) ?_
        refine va_get hx hb hts hinX5 hown hK hP 0 rfl rfl 1 (by decide) (hk3) (fun _ h9 => h9) rfl dX5_version_62 ?_
        refine lv_aload_n hx hb dX5_version_65 rfl (lv_at hl 1 rfl) ?_
        refine va_get hx hb hts hinX5 hown hK hP 0 rfl rfl 0 (by decide) (hk0) (fun _ h9 => h9) rfl dX5_version_66 ?_
        refine lv_iload_n hx hb dX5_version_69 rfl (lv_at hl 2 rfl) ?_
        refine lv_iload_n hx hb dX5_version_70 rfl (lv_at hl 0 rfl) ?_
        have hFc : ∀ q, AC ad H.size q → AC ad s.heap.size q := fun q h => h.elim Or.inl (fun z => Or.inr (Nat.le_trans hS.1 z))
        refine va_callv (va_runV (As := [.ref (ad 1), .int (nI i), .int (nI (nV g i))]) (rest := []) ⟨hx, hb, hml, hown, hts⟩ (c_X2_linkVersion l D ty g_6 ad H.size hij i (nV g i) (by omega) (by omega) n2 (by rw [eg_6]; exact hn2) hn2b (by rw [eg_6]; exact h21) (by rw [eg_6]; exact (fun j hj => ⟨(h12 j hj).1, (h12 j hj).2.1⟩)) (by rw [eg_6]; exact (fun j hj => ver8 (k := cn (g 13 j) / 6) hv6 (h78 (cn (g 13 j) / 6) (by have q9 := (h12 j hj).2.2; omega)).2.1))) (cwV 3 hts gX5_version_X2_linkVersion rfl rfl rfl (by decide +kernel) ⟨Nat.le_of_ble_eq_true rfl, Nat.le_of_ble_eq_true rfl⟩) ⟨zBl (zW_blind), va_recv hK hP (ci := 2) (q0 := 2) rfl rfl, fun U h1 h2 => ⟨rfl, zI_pre hP hK hN U h1 h2, by rw [h1]⟩⟩ rfl rfl hl.1 rfl (lv_room (Nat.le_of_ble_eq_true rfl)) dX5_version_71 ⟨Nat.le_of_ble_eq_true rfl, Nat.le_of_ble_eq_true rfl⟩) hS (fun q _ h => hFc q h) hFc (fun g_8 t H locs ht hvm hw hB _ _ hS => ?_)
        have eg_8 := hw
        have hP : va_P D vwCl (zC ty g_8 ad) H := by rw [← ht]; exact hB.1
        have hok : lkOk g_8 := by rw [eg_8, eg_6]; exact lkN_ok hlk (by omega) (by omega) (fun j hj => ⟨(h12 j hj).1, (h12 j hj).2.1⟩) (fun j hj => ver8 (k := cn (g 13 j) / 6) hv6 (h78 (cn (g 13 j) / 6) (by have q9 := (h12 j hj).2.2; omega)).2.1)
        refine lv_aload_n hx hb dX5_version_74 rfl (lv_at hl 1 rfl) ?_
        refine va_get hx hb hts hinX5 hown hK hP 0 rfl rfl 2 (by decide) (hk4) (fun _ h9 => h9) rfl dX5_version_75 ?_
        refine lv_aload_n hx hb dX5_version_78 rfl (lv_at hl 1 rfl) ?_
        refine va_get hx hb hts hinX5 hown hK hP 0 rfl rfl 1 (by decide) (hk3) (fun _ h9 => h9) rfl dX5_version_79 ?_
        have hFc : ∀ q, AC ad H.size q → AC ad s.heap.size q := fun q h => h.elim Or.inl (fun z => Or.inr (Nat.le_trans hS.1 z))
        refine va_callv (va_runV (As := [.ref (ad 2)]) (rest := []) ⟨hx, hb, hml, hown, hts⟩ (c_X1_settle l D ty g_8 ad H.size hij (cn (g_8 2 1)) hok.1.1 (by have q9 := hok.1.2; omega) hok.2) (cwV 1 hts gX5_version_X1_settle rfl rfl rfl (by decide +kernel) ⟨Nat.le_of_ble_eq_true rfl, Nat.le_of_ble_eq_true rfl⟩) ⟨zBl (zW_blind), va_recv hK hP (ci := 1) (q0 := 3) rfl rfl, fun U h1 h2 => ⟨rfl, zI_pre hP hK hN U h1 h2, by rw [h1]⟩⟩ rfl rfl hl.1 rfl (lv_room (Nat.le_of_ble_eq_true rfl)) dX5_version_82 ⟨Nat.le_of_ble_eq_true rfl, Nat.le_of_ble_eq_true rfl⟩) hS (fun q _ h => hFc q h) hFc (fun g_10 t H locs ht hvm hw hB _ _ hS => ?_)
        have eg_10 := hw
        have hP : va_P D vwCl (zC ty g_10 ad) H := by rw [← ht]; exact hB.1
        refine lv_iload_n hx hb dX5_version_85 rfl (lv_at hl 0 rfl) ?_
        exact W.iret (v := nI (nV g i)) hx hb hr (fun t ht hW => ⟨⟨_, g_10, rfl, ⟨rfl, by rw [eg_10, eg_8, eg_6]; rfl⟩, ⟨by rw [ht]; exact hP, va_K.moved hW.alike hK, hN.warm hW⟩⟩, hS.F ht⟩) hS.2.2 dX5_version_86
      · have c_5 := zn_ltF (a := (nV g i)) (b := 6) (by omega) (by omega) c_5
        omega
    · exact absurd (Int32.not_le.mp c_3) hx2
