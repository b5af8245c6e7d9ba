set_option maxHeartbeats 4000000 in
set_option maxRecDepth 100000 in
theorem c_X5_missing (l : Launch) (D : va_G) (ty : Nat → ClassId) (g : Nat → Nat → Int32) (ad : Nat → Nat) (sz : Nat) (hij : zIj ad) (n1 n2 nL n4 n5 : Nat) (hI : dI g n1 n2 nL n4 n5) (i f : Nat) (hi : i < n1) (hf : f < nF g i) (hv0 : 0 < nV g i) (x : Int32) (hx1 : ¬ x < 0) (hx2 : ¬ nI 1000 < x) (ht0 : g 20 ((i * 6 + (nV g i - 1)) * 6 + f) = 0) : Met l yX5_missing wsX5_missing ({ frames := 3, cells := 0, slots := 0, locals := 64 }) (va_Pc [.ref (ad 0), .int (nI i), .int (nI f), .int x] (fun U => zI D ty g ad U ∧ U.heap.size = sz)) (va_Qi (fun (v9 : Int32) (g2 : Nat → Nat → Int32) => v9 = setlN (rse g ((i * 6 + (nV g i - 1)) * 6 + f) (ovr x (g 11 (i * 6 + f)))) nL ((i * 6 + (nV g i - 1)) * 6 + f) ∧ g2 = misG g nL ((i * 6 + (nV g i - 1)) * 6 + f) (ovr x (g 11 (i * 6 + f)))) (fun g2 t => zI D ty g2 ad t) (AC ad sz)) 0 0 (AC ad sz) := by
  refine zMet (cc := cX5_missing) (maxL := 7) (ret := (some .int)) (by decide) rfl (Nat.le_of_ble_eq_true rfl) ?_
  intro p e s m below meth c hx hb hr hts hown hlocks hml hB ls hl
  obtain ⟨⟨hP, hK, hN⟩, hsz⟩ := hB
  subst hsz
  have hS : va_S (AC ad s.heap.size) s.heap s.heap [] := va_S.rf
  have hA9 : ∀ q : Nat, s.heap.size ≤ q → AC ad s.heap.size q := fun q h => Or.inr h
  obtain ⟨⟨hn1, hn1b⟩, h78, ⟨hn2, hn2b⟩, h12, ⟨hnL, hnLb⟩, h15, ⟨hn4, hn4b⟩, ⟨hn5, hn5b⟩, hrd5, hd0⟩ := id hI
  have hq7 : nF g i < 7 := (h78 i hi).1.2
  have hq8 : nV g i < 7 := (h78 i hi).2.1.2
  have hl : lv_has ls 7 [(0, .ref (ad 0)), (1, .int (nI i)), (2, .int (nI f)), (3, .int x)] := hl
  have hk0 := hts (.fieldLink RX5 12 "DatamarketDesk" "shelf" "LDatamarketDesk$Shelf;") (by decide +kernel)
  have hinX5 : ∀ w ∈ wsX50, w ∈ wsX5_missing := by decide +kernel
  have hk2 := hts (.fieldLink RX5 26 "DatamarketDesk" "harms" "LDatamarketDesk$Harms;") (by decide +kernel)
  have hinX1 : ∀ w ∈ wsX10, w ∈ wsX5_missing := by decide +kernel
  have hinX4 : ∀ w ∈ wsX40, w ∈ wsX5_missing := by decide +kernel
  have hk5 := hts (.fieldLink RX5 19 "DatamarketDesk" "lineage" "LDatamarketDesk$Lineage;") (by decide +kernel)
  refine lv_aload_n hx hb dX5_missing_0 rfl (lv_at hl 0 rfl) ?_
  refine lv_iload_n hx hb dX5_missing_1 rfl (lv_at hl 1 rfl) ?_
  refine lv_iload_n hx hb dX5_missing_2 rfl (lv_at hl 2 rfl) ?_
  refine zcVv (As := [.int (nI i), .int (nI f)]) (rest := []) ⟨hx, hb, hml, hown, hts⟩ (c_X5_needField l D ty g ad n1 n2 nL n4 n5 hI i f (by omega) (by omega)) (cwV 2 hts gX5_missing_X5_needField rfl rfl rfl (by decide +kernel) ⟨Nat.le_of_ble_eq_true rfl, Nat.le_of_ble_eq_true rfl⟩) zI_blind (zI_pre hP hK hN) (va_recv hK hP (ci := 6) (q0 := 0) rfl rfl) rfl hl.1 rfl (Nat.le_of_ble_eq_true rfl) dX5_missing_3 ⟨Nat.le_of_ble_eq_true rfl, Nat.le_of_ble_eq_true rfl⟩ (fun _ => ?_)
  refine lv_iload_n hx hb dX5_missing_6 rfl (lv_at hl 3 rfl) ?_
  refine lv_if_lt (tgt := 17) hx hb dX5_missing_7 (by decide) (fun c_2 => ?_) (fun c_2 => ?_)
  · exact absurd c_2 hx1
  · refine lv_iload_n hx hb dX5_missing_10 rfl (lv_at hl 3 rfl) ?_
    refine lv_sipush (v := nI 1000) hx hb dX5_missing_11 (by decide) ?_
    refine lv_icmp_le (tgt := 27) hx hb dX5_missing_14 (by decide) (fun c_3 => ?_) (fun c_3 => ?_)
    · refine lv_aload_n hx hb dX5_missing_27 rfl (lv_at hl 0 rfl) ?_
      refine va_get hx hb hts hinX5 hown hK hP 0 rfl rfl 0 (by decide) (hk0) (fun _ h9 => h9) rfl dX5_missing_28 ?_
      refine lv_iload_n hx hb dX5_missing_31 rfl (lv_at hl 1 rfl) ?_
      refine zcVi (As := [.int (nI i)]) (rest := []) ⟨hx, hb, hml, hown, hts⟩ (c_X4_latestVersion_p l D ty g ad i (by omega) (h78 _ (by omega)).2.1 hv0) (cwV 1 hts gX5_missing_X4_latestVersion rfl rfl rfl (by decide +kernel) ⟨Nat.le_of_ble_eq_true rfl, Nat.le_of_ble_eq_true rfl⟩) zI_blind (zI_pre hP hK hN) (va_recv hK hP (ci := 5) (q0 := 1) rfl rfl) rfl hl.1 rfl (Nat.le_of_ble_eq_true rfl) dX5_missing_32 ⟨Nat.le_of_ble_eq_true rfl, Nat.le_of_ble_eq_true rfl⟩ (fun r_4 hr_4 => ?_)
      subst hr_4
      refine lv_istore (lv' := [(4, .int (nI (nV g i - 1))), (0, .ref (ad 0)), (1, .int (nI i)), (2, .int (nI f)), (3, .int x)]) hx hb dX5_missing_35 hl (by decide) rfl (fun ls hl => ?_)
      refine lv_iload hx hb dX5_missing_37 (lv_at hl 0 rfl) ?_
      refine lv_iconst (v := -1) hx hb dX5_missing_39 (by decide) ?_
      refine lv_icmp_ne (tgt := 53) hx hb dX5_missing_40 (by decide) (fun c_5 => ?_) (fun c_5 => ?_)
      · refine lv_iload_n hx hb dX5_missing_53 rfl (lv_at hl 2 rfl) ?_
        refine lv_iload hx hb dX5_missing_54 (lv_at hl 0 rfl) ?_
        refine lv_iload_n hx hb dX5_missing_56 rfl (lv_at hl 3 rfl) ?_
        refine zcSi (As := [.int (nI i), .int (nI (nV g i - 1)), .int (nI f)]) (rest := []) ⟨hx, hb, hml, hown, hts⟩ (c_X5_placeAt l _ i (nV g i - 1) f) (cwS 3 hts gX5_missing_X5_placeAt rfl rfl rfl (by decide +kernel) ⟨Nat.le_of_ble_eq_true rfl, Nat.le_of_ble_eq_true rfl⟩) (B := fun _ => True) (fun _ _ _ _ _ => trivial) (fun _ _ _ => trivial) rfl hl.1 rfl (Nat.le_of_ble_eq_true rfl) dX5_missing_57 ⟨Nat.le_of_ble_eq_true rfl, Nat.le_of_ble_eq_true rfl⟩ (fun r_6 hr_6 => ?_)
        subst hr_6
        refine lv_istore (lv' := [(5, .int (nI ((i * 6 + (nV g i - 1)) * 6 + f))), (4, .int (nI (nV g i - 1))), (0, .ref (ad 0)), (1, .int (nI i)), (2, .int (nI f)), (3, .int x)]) hx hb dX5_missing_60 hl (by decide) rfl (fun ls hl => ?_)
        refine lv_aload_n hx hb dX5_missing_62 rfl (lv_at hl 2 rfl) ?_
        refine va_get hx hb hts hinX5 hown hK hP 0 rfl rfl 2 (by decide) (hk2) (fun _ h9 => h9) rfl dX5_missing_63 ?_
        refine va_getN hx hb hts hinX1 hown hK hP 3 rfl rfl 1 (by decide) (zN.use hN (List.mem_of_getElem? (i := 10) rfl)) (fun _ h9 => h9) rfl dX5_missing_66 ?_
        refine lv_iload hx hb dX5_missing_69 (lv_at hl 0 rfl) ?_
        refine zaldz hx hb hK hP 20 1 rfl rfl (i := (i * 6 + (nV g i - 1)) * 6 + f) (by omega) (by decide) dX5_missing_71 ?_
        refine lv_if_eq (tgt := 85) hx hb dX5_missing_72 (by decide) (fun c_7 => ?_) (fun c_7 => ?_)
        · refine lv_iload_n hx hb dX5_missing_85 rfl (lv_at hl 5 rfl) ?_
          refine lv_aload_n hx hb dX5_missing_86 rfl (lv_at hl 2 rfl) ?_
          refine va_get hx hb hts hinX5 hown hK hP 0 rfl rfl 0 (by decide) (hk0) (fun _ h9 => h9) rfl dX5_missing_87 ?_
          refine va_getN hx hb hts hinX4 hown hK hP 1 rfl rfl 5 (by decide) (zN.use hN (List.mem_of_getElem? (i := 5) rfl)) (fun _ h9 => h9) rfl dX5_missing_90 ?_
          refine lv_iload_n hx hb dX5_missing_93 rfl (lv_at hl 3 rfl) ?_
          refine lv_iload_n hx hb dX5_missing_94 rfl (lv_at hl 4 rfl) ?_
          refine zcSi (As := [.int (nI i), .int (nI f)]) (rest := [.ref (ad 11), .int x]) ⟨hx, hb, hml, hown, hts⟩ (c_X5_fieldAt l _ i f) (cwS 2 hts gX5_missing_X5_fieldAt rfl rfl rfl (by decide +kernel) ⟨Nat.le_of_ble_eq_true rfl, Nat.le_of_ble_eq_true rfl⟩) (B := fun _ => True) (fun _ _ _ _ _ => trivial) (fun _ _ _ => trivial) rfl hl.1 rfl (Nat.le_of_ble_eq_true rfl) dX5_missing_95 ⟨Nat.le_of_ble_eq_true rfl, Nat.le_of_ble_eq_true rfl⟩ (fun r_8 hr_8 => ?_)
          subst hr_8
          refine zald hx hb hK hP 11 0 rfl rfl (i := i * 6 + f) (by omega) (by decide) dX5_missing_98 ?_
          refine lv_isub hx hb dX5_missing_99 ?_
          refine lv_istore (lv' := [(6, .int (x - (g 11 (i * 6 + f)))), (5, .int (nI ((i * 6 + (nV g i - 1)) * 6 + f))), (4, .int (nI (nV g i - 1))), (0, .ref (ad 0)), (1, .int (nI i)), (2, .int (nI f)), (3, .int x)]) hx hb dX5_missing_100 hl (by decide) rfl (fun ls hl => ?_)
          refine lv_aload_n hx hb dX5_missing_102 rfl (lv_at hl 3 rfl) ?_
          refine va_get hx hb hts hinX5 hown hK hP 0 rfl rfl 2 (by decide) (hk2) (fun _ h9 => h9) rfl dX5_missing_103 ?_
          refine va_getN hx hb hts hinX1 hown hK hP 3 rfl rfl 1 (by decide) (zN.use hN (List.mem_of_getElem? (i := 10) rfl)) (fun _ h9 => h9) rfl dX5_missing_106 ?_
          refine lv_iload hx hb dX5_missing_109 (lv_at hl 1 rfl) ?_
          refine lv_iconst (v := nI 1) hx hb dX5_missing_111 (by decide) ?_
          refine zastz hx hb hK hP (zD hij) hS 20 1 rfl rfl (i := (i * 6 + (nV g i - 1)) * 6 + f) (by omega) (by decide) (by decide) dX5_missing_112 (fun H locs hP hS => ?_)
          obtain ⟨g_9, eg_9⟩ : ∃ z : Nat → Nat → Int32, z = va_up g 20 (upd (g 20) ((i * 6 + (nV g i - 1)) * 6 + f) (nI 1)) := ⟨_, rfl⟩
          have hP : va_P D vwCl (zC ty g_9 ad) H := by rw [eg_9]; exact hP
          refine lv_aload_n hx hb dX5_missing_113 rfl (lv_at hl 3 rfl) ?_
          refine va_get hx hb hts hinX5 hown hK hP 0 rfl rfl 2 (by decide) (hk2) (fun _ h9 => h9) rfl dX5_missing_114 ?_
          refine lv_iload hx hb dX5_missing_117 (lv_at hl 1 rfl) ?_
          refine lv_iload hx hb dX5_missing_119 (lv_at hl 0 rfl) ?_
          refine lv_if_le (tgt := 132) hx hb dX5_missing_121 (by decide) (fun c_10 => ?_) (fun c_10 => ?_)
          · have eo : ovr x (g 11 (i * 6 + f)) = nI 0 := by unfold ovr; rw [if_pos c_10]
            refine lv_iconst (v := nI 0) hx hb dX5_missing_132 (by decide) ?_
            have hFc : ∀ q, AC ad H.size q → AC ad s.heap.size q := fun q h => h.elim Or.inl (fun z => Or.inr (Nat.le_trans hS.1 z))
            refine va_callv (va_runV (As := [.int (nI ((i * 6 + (nV g i - 1)) * 6 + f)), .int (nI 0)]) (rest := []) ⟨hx, hb, hml, hown, hts⟩ (c_X1_raise l D ty g_9 ad H.size hij ((i * 6 + (nV g i - 1)) * 6 + f) (by omega) (nI 0)) (cwV 2 hts gX5_missing_X1_raise rfl rfl rfl (by decide +kernel) ⟨Nat.le_of_ble_eq_true rfl, Nat.le_of_ble_eq_true rfl⟩) ⟨zBl (zW_blind), va_recv hK hP (ci := 2) (q0 := 3) rfl rfl, fun U h1 h2 => ⟨rfl, zI_pre hP hK hN U h1 h2, by rw [h1]⟩⟩ rfl rfl hl.1 rfl (lv_room (Nat.le_of_ble_eq_true rfl)) dX5_missing_133 ⟨Nat.le_of_ble_eq_true rfl, Nat.le_of_ble_eq_true rfl⟩) hS (fun q _ h => hFc q h) hFc (fun g_11 t H locs ht hvm hw hB _ _ hS => ?_)
            have eg_11 := hw
            have hP : va_P D vwCl (zC ty g_11 ad) H := by rw [← ht]; exact hB.1
            refine lv_aload_n hx hb dX5_missing_136 rfl (lv_at hl 3 rfl) ?_
            refine va_get hx hb hts hinX5 hown hK hP 0 rfl rfl 2 (by decide) (hk2) (fun _ h9 => h9) rfl dX5_missing_137 ?_
            refine lv_aload_n hx hb dX5_missing_140 rfl (lv_at hl 3 rfl) ?_
            refine va_get hx hb hts hinX5 hown hK hP 0 rfl rfl 1 (by decide) (hk5) (fun _ h9 => h9) rfl dX5_missing_141 ?_
            have hFc : ∀ q, AC ad H.size q → AC ad s.heap.size q := fun q h => h.elim Or.inl (fun z => Or.inr (Nat.le_trans hS.1 z))
            refine va_callv (va_runV (As := [.ref (ad 2)]) (rest := []) ⟨hx, hb, hml, hown, hts⟩ (c_X1_settle l D ty g_11 ad H.size hij nL (by rw [eg_11, eg_9]; exact hnL) hnLb (by rw [eg_11, eg_9]; exact h15)) (cwV 1 hts gX5_missing_X1_settle rfl rfl rfl (by decide +kernel) ⟨Nat.le_of_ble_eq_true rfl, Nat.le_of_ble_eq_true rfl⟩) ⟨zBl (zW_blind), va_recv hK hP (ci := 2) (q0 := 3) rfl rfl, fun U h1 h2 => ⟨rfl, zI_pre hP hK hN U h1 h2, by rw [h1]⟩⟩ rfl rfl hl.1 rfl (lv_room (Nat.le_of_ble_eq_true rfl)) dX5_missing_144 ⟨Nat.le_of_ble_eq_true rfl, Nat.le_of_ble_eq_true rfl⟩) hS (fun q _ h => hFc q h) hFc (fun g_13 t H locs ht hvm hw hB _ _ hS => ?_)
            have eg_13 := hw
            have hP : va_P D vwCl (zC ty g_13 ad) H := by rw [← ht]; exact hB.1
            refine lv_aload_n hx hb dX5_missing_147 rfl (lv_at hl 3 rfl) ?_
            refine va_get hx hb hts hinX5 hown hK hP 0 rfl rfl 2 (by decide) (hk2) (fun _ h9 => h9) rfl dX5_missing_148 ?_
            refine va_getN hx hb hts hinX1 hown hK hP 3 rfl rfl 2 (by decide) (zN.use hN (List.mem_of_getElem? (i := 11) rfl)) (fun _ h9 => h9) rfl dX5_missing_151 ?_
            refine lv_iload hx hb dX5_missing_154 (lv_at hl 1 rfl) ?_
            refine zald hx hb hK hP 21 0 rfl rfl (i := (i * 6 + (nV g i - 1)) * 6 + f) (by omega) (by decide) dX5_missing_156 ?_
            exact W.iret (v := g_13 21 ((i * 6 + (nV g i - 1)) * 6 + f)) hx hb hr (fun t ht hW => ⟨⟨_, g_13, rfl, ⟨by rw [eo, show g_13 = _ from set_eq (g := g) (fun k hk => by rw [eg_9]; exact vn (by omega)) eg_11 eg_13, vs], by rw [eo]; exact (set_eq (g := g) (fun k hk => by rw [eg_9]; exact vn (by omega)) eg_11 eg_13).trans (by rw [eg_9]; rfl)⟩, ⟨by rw [ht]; exact hP, va_K.moved hW.alike hK, hN.warm hW⟩⟩, hS.F ht⟩) hS.2.2 dX5_missing_157
          · have eo : ovr x (g 11 (i * 6 + f)) = (x - g 11 (i * 6 + f)) / nI 10 := by unfold ovr; rw [if_neg c_10]
            refine lv_iload hx hb dX5_missing_124 (lv_at hl 0 rfl) ?_
            refine lv_bipush (v := nI 10) hx hb dX5_missing_126 (by decide) ?_
            refine lv_idiv hx hb dX5_missing_128 (by decide) ?_
            refine lv_goto (tgt := 133) hx hb dX5_missing_129 (by decide) ?_
            have hFc : ∀ q, AC ad H.size q → AC ad s.heap.size q := fun q h => h.elim Or.inl (fun z => Or.inr (Nat.le_trans hS.1 z))
            refine va_callv (va_runV (As := [.int (nI ((i * 6 + (nV g i - 1)) * 6 + f)), .int ((x - (g 11 (i * 6 + f))) / (nI 10))]) (rest := []) ⟨hx, hb, hml, hown, hts⟩ (c_X1_raise l D ty g_9 ad H.size hij ((i * 6 + (nV g i - 1)) * 6 + f) (by omega) ((x - (g 11 (i * 6 + f))) / (nI 10))) (cwV 2 hts gX5_missing_X1_raise rfl rfl rfl (by decide +kernel) ⟨Nat.le_of_ble_eq_true rfl, Nat.le_of_ble_eq_true rfl⟩) ⟨zBl (zW_blind), va_recv hK hP (ci := 2) (q0 := 3) rfl rfl, fun U h1 h2 => ⟨rfl, zI_pre hP hK hN U h1 h2, by rw [h1]⟩⟩ rfl rfl hl.1 rfl (lv_room (Nat.le_of_ble_eq_true rfl)) dX5_missing_133 ⟨Nat.le_of_ble_eq_true rfl, Nat.le_of_ble_eq_true rfl⟩) hS (fun q _ h => hFc q h) hFc (fun g_15 t H locs ht hvm hw hB _ _ hS => ?_)
            have eg_15 := hw
            have hP : va_P D vwCl (zC ty g_15 ad) H := by rw [← ht]; exact hB.1
            refine lv_aload_n hx hb dX5_missing_136 rfl (lv_at hl 3 rfl) ?_
            refine va_get hx hb hts hinX5 hown hK hP 0 rfl rfl 2 (by decide) (hk2) (fun _ h9 => h9) rfl dX5_missing_137 ?_
            refine lv_aload_n hx hb dX5_missing_140 rfl (lv_at hl 3 rfl) ?_
            refine va_get hx hb hts hinX5 hown hK hP 0 rfl rfl 1 (by decide) (hk5) (fun _ h9 => h9) rfl dX5_missing_141 ?_
            have hFc : ∀ q, AC ad H.size q → AC ad s.heap.size q := fun q h => h.elim Or.inl (fun z => Or.inr (Nat.le_trans hS.1 z))
            refine va_callv (va_runV (As := [.ref (ad 2)]) (rest := []) ⟨hx, hb, hml, hown, hts⟩ (c_X1_settle l D ty g_15 ad H.size hij nL (by rw [eg_15, eg_9]; exact hnL) hnLb (by rw [eg_15, eg_9]; exact h15)) (cwV 1 hts gX5_missing_X1_settle rfl rfl rfl (by decide +kernel) ⟨Nat.le_of_ble_eq_true rfl, Nat.le_of_ble_eq_true rfl⟩) ⟨zBl (zW_blind), va_recv hK hP (ci := 2) (q0 := 3) rfl rfl, fun U h1 h2 => ⟨rfl, zI_pre hP hK hN U h1 h2, by rw [h1]⟩⟩ rfl rfl hl.1 rfl (lv_room (Nat.le_of_ble_eq_true rfl)) dX5_missing_144 ⟨Nat.le_of_ble_eq_true rfl, Nat.le_of_ble_eq_true rfl⟩) hS (fun q _ h => hFc q h) hFc (fun g_17 t H locs ht hvm hw hB _ _ hS => ?_)
            have eg_17 := hw
            have hP : va_P D vwCl (zC ty g_17 ad) H := by rw [← ht]; exact hB.1
            refine lv_aload_n hx hb dX5_missing_147 rfl (lv_at hl 3 rfl) ?_
            refine va_get hx hb hts hinX5 hown hK hP 0 rfl rfl 2 (by decide) (hk2) (fun _ h9 => h9) rfl dX5_missing_148 ?_
            refine va_getN hx hb hts hinX1 hown hK hP 3 rfl rfl 2 (by decide) (zN.use hN (List.mem_of_getElem? (i := 11) rfl)) (fun _ h9 => h9) rfl dX5_missing_151 ?_
            refine lv_iload hx hb dX5_missing_154 (lv_at hl 1 rfl) ?_
            refine zald hx hb hK hP 21 0 rfl rfl (i := (i * 6 + (nV g i - 1)) * 6 + f) (by omega) (by decide) dX5_missing_156 ?_
            exact W.iret (v := g_17 21 ((i * 6 + (nV g i - 1)) * 6 + f)) hx hb hr (fun t ht hW => ⟨⟨_, g_17, rfl, ⟨by rw [eo, show g_17 = _ from set_eq (g := g) (fun k hk => by rw [eg_9]; exact vn (by omega)) eg_15 eg_17, vs], by rw [eo]; exact (set_eq (g := g) (fun k hk => by rw [eg_9]; exact vn (by omega)) eg_15 eg_17).trans (by rw [eg_9]; rfl)⟩, ⟨by rw [ht]; exact hP, va_K.moved hW.alike hK, hN.warm hW⟩⟩, hS.F ht⟩) hS.2.2 dX5_missing_157
        · exact absurd ht0 c_7
      · exact absurd c_5 (nI_ne_m1 (by omega))
    · exact absurd (Int32.not_le.mp c_3) hx2
