set_option maxHeartbeats 4000000 in
set_option maxRecDepth 100000 in
theorem c_X5_contract (l : Launch) (D : va_G) (ty : Nat → ClassId) (g : Nat → Nat → Int32) (ad : Nat → Nat) (sz : Nat) (hij : zIj ad) (n1 n2 nL n4 n5 : Nat) (hI : dI g n1 n2 nL n4 n5) (R i : Nat) (hR : R < 6) (hi : i < n1) (F ps fr to : Int32) (hF1 : ¬ F < nI 1) (hF2 : ¬ allF g i < F) (hp1 : ¬ ps < nI 1) (hp2 : ¬ nI 15 < ps) (ht1 : ¬ fr < g 0 0) (ht2 : ¬ to < fr) (ht3 : ¬ nI 359 < to) (hn16 : n4 < 16) : Met l yX5_contract wsX5_contract ({ frames := 2, cells := 0, slots := 0, locals := 43 }) (va_Pc [.ref (ad 0), .int (nI R), .int (nI i), .int F, .int ps, .int fr, .int to] (fun U => zI D ty g ad U ∧ U.heap.size = sz)) (va_Qi (fun (v9 : Int32) (g2 : Nat → Nat → Int32) => v9 = nI n4 ∧ g2 = va_up (va_up (va_up (va_up (va_up (va_up (va_up g 23 (upd (g 23) n4 (nI R))) 24 (upd (g 24) n4 (nI i))) 25 (upd (g 25) n4 F)) 26 (upd (g 26) n4 ps)) 27 (upd (g 27) n4 fr)) 28 (upd (g 28) n4 to)) 4 (upd (g 4) 0 (nI (n4 + 1)))) (fun g2 t => zI D ty g2 ad t) (AC ad sz)) 0 0 (AC ad sz) := by
  refine zMet (cc := cX5_contract) (maxL := 7) (ret := (some .int)) (by decide) rfl (Nat.le_of_ble_eq_true rfl) ?_
  intro p e s m below meth c hx hb hr hts hown hlocks hml hB ls hl
  obtain ⟨⟨hP, hK, hN⟩, hsz⟩ := hB
  subst hsz
  have hS : va_S (AC ad s.heap.size) s.heap s.heap [] := va_S.rf
  have hA9 : ∀ q : Nat, s.heap.size ≤ q → AC ad s.heap.size q := fun q h => Or.inr h
  obtain ⟨⟨hn1, hn1b⟩, h78, ⟨hn2, hn2b⟩, h12, ⟨hnL, hnLb⟩, h15, ⟨hn4, hn4b⟩, ⟨hn5, hn5b⟩, hrd5, hd0⟩ := id hI
  have hq7 : nF g i < 7 := (h78 i hi).1.2
  have hq8 : nV g i < 7 := (h78 i hi).2.1.2
  have hl : lv_has ls 7 [(0, .ref (ad 0)), (1, .int (nI R)), (2, .int (nI i)), (3, .int F), (4, .int ps), (5, .int fr), (6, .int to)] := hl
  have hk0 := hts (.fieldLink RX5 48 "DatamarketDesk" "today" "I") (by decide +kernel)
  have hinX5 : ∀ w ∈ wsX50, w ∈ wsX5_contract := by decide +kernel
  have hk2 := hts (.fieldLink RX5 33 "DatamarketDesk" "contracts" "LDatamarketDesk$Contracts;") (by decide +kernel)
  have hinX0 : ∀ w ∈ wsX00, w ∈ wsX5_contract := by decide +kernel
  refine lv_iload_n hx hb dX5_contract_0 rfl (lv_at hl 1 rfl) ?_
  refine zcSv (As := [.int (nI R)]) (rest := []) ⟨hx, hb, hml, hown, hts⟩ (c_X5_needReader l _ R (by omega)) (cwS 1 hts gX5_contract_X5_needReader rfl rfl rfl (by decide +kernel) ⟨Nat.le_of_ble_eq_true rfl, Nat.le_of_ble_eq_true rfl⟩) (B := fun _ => True) (fun _ _ _ _ _ => trivial) (fun _ _ _ => trivial) rfl hl.1 rfl (Nat.le_of_ble_eq_true rfl) dX5_contract_1 ⟨Nat.le_of_ble_eq_true rfl, Nat.le_of_ble_eq_true rfl⟩ (fun _ => ?_)
  refine lv_aload_n hx hb dX5_contract_4 rfl (lv_at hl 0 rfl) ?_
  refine lv_iload_n hx hb dX5_contract_5 rfl (lv_at hl 2 rfl) ?_
  refine zcVv (As := [.int (nI i)]) (rest := []) ⟨hx, hb, hml, hown, hts⟩ (c_X5_needSet l D ty g ad n1 n2 nL n4 n5 hI i (by omega)) (cwV 1 hts gX5_contract_X5_needSet rfl rfl rfl (by decide +kernel) ⟨Nat.le_of_ble_eq_true rfl, Nat.le_of_ble_eq_true rfl⟩) zI_blind (zI_pre hP hK hN) (va_recv hK hP (ci := 5) (q0 := 0) rfl rfl) rfl hl.1 rfl (Nat.le_of_ble_eq_true rfl) dX5_contract_6 ⟨Nat.le_of_ble_eq_true rfl, Nat.le_of_ble_eq_true rfl⟩ (fun _ => ?_)
  refine lv_aload_n hx hb dX5_contract_9 rfl (lv_at hl 0 rfl) ?_
  refine lv_iload_n hx hb dX5_contract_10 rfl (lv_at hl 2 rfl) ?_
  refine lv_iload_n hx hb dX5_contract_11 rfl (lv_at hl 3 rfl) ?_
  refine zcVv (As := [.int (nI i), .int F]) (rest := []) ⟨hx, hb, hml, hown, hts⟩ (c_X5_needFields l D ty g ad n1 n2 nL n4 n5 hI i (by omega) F hF1 hF2) (cwV 2 hts gX5_contract_X5_needFields rfl rfl rfl (by decide +kernel) ⟨Nat.le_of_ble_eq_true rfl, Nat.le_of_ble_eq_true rfl⟩) zI_blind (zI_pre hP hK hN) (va_recv hK hP (ci := 5) (q0 := 0) rfl rfl) rfl hl.1 rfl (Nat.le_of_ble_eq_true rfl) dX5_contract_12 ⟨Nat.le_of_ble_eq_true rfl, Nat.le_of_ble_eq_true rfl⟩ (fun _ => ?_)
  refine lv_iload hx hb dX5_contract_15 (lv_at hl 4 rfl) ?_
  refine lv_iconst (v := nI 1) hx hb dX5_contract_17 (by decide) ?_
  refine lv_icmp_lt (tgt := 28) hx hb dX5_contract_18 (by decide) (fun c_4 => ?_) (fun c_4 => ?_)
  · exact absurd c_4 hp1
  · refine lv_iload hx hb dX5_contract_21 (lv_at hl 4 rfl) ?_
    refine lv_bipush (v := nI 15) hx hb dX5_contract_23 (by decide) ?_
    refine lv_icmp_le (tgt := 38) hx hb dX5_contract_25 (by decide) (fun c_5 => ?_) (fun c_5 => ?_)
    · refine lv_iload hx hb dX5_contract_38 (lv_at hl 5 rfl) ?_
      refine lv_aload_n hx hb dX5_contract_40 rfl (lv_at hl 0 rfl) ?_
      refine va_get hx hb hts hinX5 hown hK hP 0 rfl rfl 6 (by decide) (hk0) (fun _ h9 => h9) rfl dX5_contract_41 ?_
      refine lv_icmp_lt (tgt := 62) hx hb dX5_contract_44 (by decide) (fun c_6 => ?_) (fun c_6 => ?_)
      · exact absurd c_6 ht1
      · refine lv_iload hx hb dX5_contract_47 (lv_at hl 6 rfl) ?_
        refine lv_iload hx hb dX5_contract_49 (lv_at hl 5 rfl) ?_
        refine lv_icmp_lt (tgt := 62) hx hb dX5_contract_51 (by decide) (fun c_7 => ?_) (fun c_7 => ?_)
        · exact absurd c_7 ht2
        · refine lv_iload hx hb dX5_contract_54 (lv_at hl 6 rfl) ?_
          refine lv_sipush (v := nI 359) hx hb dX5_contract_56 (by decide) ?_
          refine lv_icmp_le (tgt := 72) hx hb dX5_contract_59 (by decide) (fun c_8 => ?_) (fun c_8 => ?_)
          · refine lv_aload_n hx hb dX5_contract_72 rfl (lv_at hl 0 rfl) ?_
            refine va_get hx hb hts hinX5 hown hK hP 0 rfl rfl 3 (by decide) (hk2) (fun _ h9 => h9) rfl dX5_contract_73 ?_
            refine va_getN hx hb hts hinX0 hown hK hP 4 rfl rfl 0 (by decide) (zN.use hN (List.mem_of_getElem? (i := 12) rfl)) (fun _ h9 => h9) rfl dX5_contract_76 ?_
            refine zeq (show g 4 0 = nI n4 from hn4) ?_
            refine lv_bipush (v := nI 16) hx hb dX5_contract_79 (by decide) ?_
            refine lv_icmp_lt (tgt := 94) hx hb dX5_contract_81 (by decide) (fun c_9 => ?_) (fun c_9 => ?_)
            · have c_9 := zn_ltT (a := n4) (b := 16) (by omega) (by omega) c_9
              refine lv_aload_n hx hb dX5_contract_94 rfl (lv_at hl 0 rfl) ?_
              refine va_get hx hb hts hinX5 hown hK hP 0 rfl rfl 3 (by decide) (hk2) (fun _ h9 => h9) rfl dX5_contract_95 ?_
              refine lv_iload_n hx hb dX5_contract_98 rfl (lv_at hl 1 rfl) ?_
              refine lv_iload_n hx hb dX5_contract_99 rfl (lv_at hl 2 rfl) ?_
              refine lv_iload_n hx hb dX5_contract_100 rfl (lv_at hl 3 rfl) ?_
              refine lv_iload hx hb dX5_contract_101 (lv_at hl 4 rfl) ?_
              refine lv_iload hx hb dX5_contract_103 (lv_at hl 5 rfl) ?_
              refine lv_iload hx hb dX5_contract_105 (lv_at hl 6 rfl) ?_
              have hFc : ∀ q, AC ad s.heap.size q → AC ad s.heap.size q := fun q h => h
              refine va_calli (va_runV (As := [.int (nI R), .int (nI i), .int F, .int ps, .int fr, .int to]) (rest := []) ⟨hx, hb, hml, hown, hts⟩ (c_X0_add l D ty g ad s.heap.size hij n4 hn4 (by omega) (nI R) (nI i) F ps fr to) (cwV 6 hts gX5_contract_X0_add rfl rfl rfl (by decide +kernel) ⟨Nat.le_of_ble_eq_true rfl, Nat.le_of_ble_eq_true rfl⟩) ⟨zBl (zW_blind), va_recv hK hP (ci := 0) (q0 := 4) rfl rfl, fun U h1 h2 => ⟨rfl, zI_pre hP hK hN U h1 h2, by rw [h1]⟩⟩ rfl rfl hl.1 rfl (lv_room (Nat.le_of_ble_eq_true rfl)) dX5_contract_107 ⟨Nat.le_of_ble_eq_true rfl, Nat.le_of_ble_eq_true rfl⟩) hS (fun q _ h => hFc q h) hFc (fun r_11 g_10 t H locs ht hvm hw hB _ _ hS => ?_)
              obtain ⟨hr_11, eg_10⟩ := hw
              subst hr_11
              have hP : va_P D vwCl (zC ty g_10 ad) H := by rw [← ht]; exact hB.1
              exact W.iret (v := nI n4) hx hb hr (fun t ht hW => ⟨⟨_, g_10, rfl, ⟨rfl, by rw [eg_10]⟩, ⟨by rw [ht]; exact hP, va_K.moved hW.alike hK, hN.warm hW⟩⟩, hS.F ht⟩) hS.2.2 dX5_contract_110
            · have c_9 := zn_ltF (a := n4) (b := 16) (by omega) (by omega) c_9
              omega
          · exact absurd (Int32.not_le.mp c_8) ht3
    · exact absurd (Int32.not_le.mp c_5) hp2
