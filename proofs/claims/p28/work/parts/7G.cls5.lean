set_option maxHeartbeats 4000000 in
set_option maxRecDepth 100000 in
theorem c_X5_preview_xS2 (l : Launch) (hlt : l.stackTraces = false) (D : va_G) (ty : Nat → ClassId) (g : Nat → Nat → Int32) (ad : Nat → Nat) (n1 n2 nL n4 n5 : Nat) (hI : dI g n1 n2 nL n4 n5) (R i : Nat) (hR : R < 6) (hi : i < n1) (F : Int32) (hF1 : ¬ F < nI 1) (hF2 : ¬ allF g i < F) (hb2 : ¬ nI 2 < bc F) (hv0 : 0 < nV g i) (hmb : mayB g i (g 6 (R * 8 + i) ||| F) (openT g n4 (nI R) (nI i)) = false) : vx_Met l yX5_preview wsX5_preview ({ frames := 6, cells := 1, slots := 6, locals := 96 }) (va_Pc [.ref (ad 0), .int (nI R), .int (nI i), .int F] (zX D ty g ad)) zno (zXC "java/lang/IllegalStateException") 1 6 (fun _ => False) := by
  refine zXMet (cc := cX5_preview) (maxL := 6) (ret := (some .int)) (by decide) rfl (Nat.le_of_ble_eq_true rfl) ?_
  intro p e s m below meth c hx hb hr hts hown hlocks hml hno hB ls hl
  obtain ⟨⟨hP, hK, hN⟩, hQ, hT⟩ := hB
  obtain ⟨⟨hn1, hn1b⟩, h78, ⟨hn2, hn2b⟩, h12, ⟨hnL, hnLb⟩, h15, ⟨hn4, hn4b⟩, ⟨hn5, hn5b⟩, hrd5, hd0⟩ := id hI
  have hq7 : nF g i < 7 := (h78 i hi).1.2
  have hq8 : nV g i < 7 := (h78 i hi).2.1.2
  have hl : lv_has ls 6 [(0, .ref (ad 0)), (1, .int (nI R)), (2, .int (nI i)), (3, .int F)] := hl
  have hk0 := hts (.fieldLink RX5 12 "DatamarketDesk" "shelf" "LDatamarketDesk$Shelf;") (by decide +kernel)
  have hinX5 : ∀ w ∈ wsX50, w ∈ wsX5_preview := by decide +kernel
  have hinX4 : ∀ w ∈ wsX40, w ∈ wsX5_preview := by decide +kernel
  have hk3 := hts (.fieldLink RX5 44 "DatamarketDesk" "previewed" "[I") (by decide +kernel)
  refine lv_iload_n hx hb dX5_preview_0 rfl (lv_at hl 1 rfl) ?_
  refine zcSv (As := [.int (nI R)]) (rest := []) ⟨hx, hb, hml, hown, hts⟩ (c_X5_needReader l _ R (by omega)) (cwS 1 hts gX5_preview_X5_needReader rfl rfl rfl (by decide +kernel) ⟨Nat.le_of_ble_eq_true rfl, Nat.le_of_ble_eq_true rfl⟩) (B := fun _ => True) (fun _ _ _ _ _ => trivial) (fun _ _ _ => trivial) rfl hl.1 rfl (Nat.le_of_ble_eq_true rfl) dX5_preview_1 ⟨Nat.le_of_ble_eq_true rfl, Nat.le_of_ble_eq_true rfl⟩ (fun _ => ?_)
  refine lv_aload_n hx hb dX5_preview_4 rfl (lv_at hl 0 rfl) ?_
  refine lv_iload_n hx hb dX5_preview_5 rfl (lv_at hl 2 rfl) ?_
  refine zcVv (As := [.int (nI i)]) (rest := []) ⟨hx, hb, hml, hown, hts⟩ (c_X5_needSet l D ty g ad n1 n2 nL n4 n5 hI i (by omega)) (cwV 1 hts gX5_preview_X5_needSet rfl rfl rfl (by decide +kernel) ⟨Nat.le_of_ble_eq_true rfl, Nat.le_of_ble_eq_true rfl⟩) zI_blind (zI_pre hP hK hN) (va_recv hK hP (ci := 5) (q0 := 0) rfl rfl) rfl hl.1 rfl (Nat.le_of_ble_eq_true rfl) dX5_preview_6 ⟨Nat.le_of_ble_eq_true rfl, Nat.le_of_ble_eq_true rfl⟩ (fun _ => ?_)
  refine lv_aload_n hx hb dX5_preview_9 rfl (lv_at hl 0 rfl) ?_
  refine lv_iload_n hx hb dX5_preview_10 rfl (lv_at hl 2 rfl) ?_
  refine lv_iload_n hx hb dX5_preview_11 rfl (lv_at hl 3 rfl) ?_
  refine zcVv (As := [.int (nI i), .int F]) (rest := []) ⟨hx, hb, hml, hown, hts⟩ (c_X5_needFields l D ty g ad n1 n2 nL n4 n5 hI i (by omega) F hF1 hF2) (cwV 2 hts gX5_preview_X5_needFields rfl rfl rfl (by decide +kernel) ⟨Nat.le_of_ble_eq_true rfl, Nat.le_of_ble_eq_true rfl⟩) zI_blind (zI_pre hP hK hN) (va_recv hK hP (ci := 5) (q0 := 0) rfl rfl) rfl hl.1 rfl (Nat.le_of_ble_eq_true rfl) dX5_preview_12 ⟨Nat.le_of_ble_eq_true rfl, Nat.le_of_ble_eq_true rfl⟩ (fun _ => ?_)
  refine lv_iload_n hx hb dX5_preview_15 rfl (lv_at hl 3 rfl) ?_
  refine zcSi (As := [.int F]) (rest := []) ⟨hx, hb, hml, hown, hts⟩ (c_J6_bitCount l _ F) (va_cwS 1 hts gX5_preview_J6_bitCount_0f7a4 rfl rfl rfl (by decide +kernel) ⟨Nat.le_of_ble_eq_true rfl, Nat.le_of_ble_eq_true rfl⟩) (B := fun _ => True) (fun _ _ _ _ _ => trivial) (fun _ _ _ => trivial) rfl hl.1 rfl (Nat.le_of_ble_eq_true rfl) dX5_preview_16 ⟨Nat.le_of_ble_eq_true rfl, Nat.le_of_ble_eq_true rfl⟩ (fun r_4 hr_4 => ?_)
  subst hr_4
  refine lv_iconst (v := nI 2) hx hb dX5_preview_19 (by decide) ?_
  refine lv_icmp_le (tgt := 33) hx hb dX5_preview_20 (by decide) (fun c_5 => ?_) (fun c_5 => ?_)
  · refine lv_aload_n hx hb dX5_preview_33 rfl (lv_at hl 0 rfl) ?_
    refine va_get hx hb hts hinX5 hown hK hP 0 rfl rfl 0 (by decide) (hk0) (fun _ h9 => h9) rfl dX5_preview_34 ?_
    refine va_getN hx hb hts hinX4 hown hK hP 1 rfl rfl 2 (by decide) (zN.use hN (List.mem_of_getElem? (i := 3) rfl)) (fun _ h9 => h9) rfl dX5_preview_37 ?_
    refine lv_iload_n hx hb dX5_preview_40 rfl (lv_at hl 2 rfl) ?_
    refine zald hx hb hK hP 8 0 rfl rfl (i := i) (by omega) (by decide) dX5_preview_41 ?_
    have b_6 : nV g i < 7 := (h78 _ (by omega)).2.1.2
    refine zeq (show g 8 i = nI (nV g i) from (h78 _ (by omega)).2.1.1) ?_
    refine lv_if_ne (tgt := 55) hx hb dX5_preview_42 (by decide) (fun c_7 => ?_) (fun c_7 => ?_)
    · have c_7 := zq_neT (x := (nV g i)) (by omega) c_7
      refine lv_iload_n hx hb dX5_preview_55 rfl (lv_at hl 1 rfl) ?_
      refine lv_iload_n hx hb dX5_preview_56 rfl (lv_at hl 2 rfl) ?_
      refine zcSi (As := [.int (nI R), .int (nI i)]) (rest := []) ⟨hx, hb, hml, hown, hts⟩ (c_X5_previewAt l _ R i) (cwS 2 hts gX5_preview_X5_previewAt rfl rfl rfl (by decide +kernel) ⟨Nat.le_of_ble_eq_true rfl, Nat.le_of_ble_eq_true rfl⟩) (B := fun _ => True) (fun _ _ _ _ _ => trivial) (fun _ _ _ => trivial) rfl hl.1 rfl (Nat.le_of_ble_eq_true rfl) dX5_preview_57 ⟨Nat.le_of_ble_eq_true rfl, Nat.le_of_ble_eq_true rfl⟩ (fun r_8 hr_8 => ?_)
      subst hr_8
      refine lv_istore (lv' := [(4, .int (nI (R * 8 + i))), (0, .ref (ad 0)), (1, .int (nI R)), (2, .int (nI i)), (3, .int F)]) hx hb dX5_preview_60 hl (by decide) rfl (fun ls hl => ?_)
      refine lv_aload_n hx hb dX5_preview_62 rfl (lv_at hl 1 rfl) ?_
      refine va_get hx hb hts hinX5 hown hK hP 0 rfl rfl 5 (by decide) (hk3) (fun _ h9 => h9) rfl dX5_preview_63 ?_
      refine lv_iload hx hb dX5_preview_66 (lv_at hl 0 rfl) ?_
      refine zald hx hb hK hP 6 0 rfl rfl (i := R * 8 + i) (by omega) (by decide) dX5_preview_68 ?_
      refine lv_iload_n hx hb dX5_preview_69 rfl (lv_at hl 4 rfl) ?_
      refine lv_ior hx hb dX5_preview_70 ?_
      refine lv_istore (lv' := [(5, .int ((g 6 (R * 8 + i)) ||| F)), (4, .int (nI (R * 8 + i))), (0, .ref (ad 0)), (1, .int (nI R)), (2, .int (nI i)), (3, .int F)]) hx hb dX5_preview_71 hl (by decide) rfl (fun ls hl => ?_)
      refine lv_aload_n hx hb dX5_preview_73 rfl (lv_at hl 2 rfl) ?_
      refine lv_iload_n hx hb dX5_preview_74 rfl (lv_at hl 4 rfl) ?_
      refine lv_iload hx hb dX5_preview_75 (lv_at hl 0 rfl) ?_
      refine lv_aload_n hx hb dX5_preview_77 rfl (lv_at hl 2 rfl) ?_
      refine lv_iload_n hx hb dX5_preview_78 rfl (lv_at hl 3 rfl) ?_
      refine lv_iload_n hx hb dX5_preview_79 rfl (lv_at hl 4 rfl) ?_
      refine zcVi (As := [.int (nI R), .int (nI i)]) (rest := [.int ((g 6 (R * 8 + i)) ||| F), .int (nI i), .ref (ad 0)]) ⟨hx, hb, hml, hown, hts⟩ (c_X5_openToday l D ty g ad n1 n2 nL n4 n5 hI (nI R) (nI i)) (cwV 2 hts gX5_preview_X5_openToday rfl rfl rfl (by decide +kernel) ⟨Nat.le_of_ble_eq_true rfl, Nat.le_of_ble_eq_true rfl⟩) zI_blind (zI_pre hP hK hN) (va_recv hK hP (ci := 5) (q0 := 0) rfl rfl) rfl hl.1 rfl (Nat.le_of_ble_eq_true rfl) dX5_preview_80 ⟨Nat.le_of_ble_eq_true rfl, Nat.le_of_ble_eq_true rfl⟩ (fun r_9 hr_9 => ?_)
      subst hr_9
      refine zcVi (As := [.int (nI i), .int ((g 6 (R * 8 + i)) ||| F), .int (openT g n4 (nI R) (nI i))]) (rest := []) ⟨hx, hb, hml, hown, hts⟩ (c_X5_mayBeSeen l D ty g ad n1 n2 nL n4 n5 hI i (by omega) ((g 6 (R * 8 + i)) ||| F) (openT g n4 (nI R) (nI i))) (cwV 3 hts gX5_preview_X5_mayBeSeen rfl rfl rfl (by decide +kernel) ⟨Nat.le_of_ble_eq_true rfl, Nat.le_of_ble_eq_true rfl⟩) zI_blind (zI_pre hP hK hN) (va_recv hK hP (ci := 5) (q0 := 0) rfl rfl) rfl hl.1 rfl (Nat.le_of_ble_eq_true rfl) dX5_preview_83 ⟨Nat.le_of_ble_eq_true rfl, Nat.le_of_ble_eq_true rfl⟩ (fun r_10 hr_10 => ?_)
      subst hr_10
      refine lv_if_ne (tgt := 99) hx hb dX5_preview_86 (by decide) (fun c_11 => ?_) (fun c_11 => ?_)
      · have c_11 := bI_t c_11
        rw [hmb] at c_11; cases c_11
      · have c_11 := bI_f c_11
        exact zthrS (text := "too much would be seen") (E0 := "java/lang/IllegalStateException") (own := RX5) hx hb hlt hown hts hno hlocks hml hN hQ hT rfl zfit_S (by decide +kernel) (by decide +kernel) (by decide +kernel) zbad_S zgood_S (by decide +kernel) hl.1 dX5_preview_89 dX5_preview_92 dX5_preview_93 dX5_preview_95 dX5_preview_98 (Nat.le_of_ble_eq_true rfl) (Nat.le_of_ble_eq_true rfl) (Nat.le_of_ble_eq_true rfl) (Nat.le_of_ble_eq_true rfl)
    · have c_7 := zq_neF (x := (nV g i)) (by omega) c_7
      omega
  · exact absurd (Int32.not_le.mp c_5) hb2
