set_option maxHeartbeats 4000000 in
set_option maxRecDepth 100000 in
theorem c_X5_creditGain (l : Launch) (D : va_G) (ty : Nat → ClassId) (g : Nat → Nat → Int32) (ad : Nat → Nat) (sz : Nat) (hij : zIj ad) (n1 n2 nL n4 n5 : Nat) (hI : dI g n1 n2 nL n4 n5) (p0 : Nat) (hp0 : p0 < 288) (x : Int32) : Met l yX5_creditGain wsX5_creditGain ({ frames := 3, cells := 0, slots := 0, locals := 72 }) (va_Pc [.ref (ad 0), .int (nI p0), .int x] (fun U => zI D ty g ad U ∧ U.heap.size = sz)) (va_Qi (fun (v9 : Int32) (g2 : Nat → Nat → Int32) => v9 = gainN g nL n5 p0 x ∧ g2 = triG g nL p0 x) (fun g2 t => zI D ty g2 ad t) (AC ad sz)) 0 0 (AC ad sz) := by
  refine zMet (cc := cX5_creditGain) (maxL := 4) (ret := (some .int)) (by decide) rfl (Nat.le_of_ble_eq_true rfl) ?_
  intro p e s m below meth c hx hb hr hts hown hlocks hml hB ls hl
  obtain ⟨⟨hP, hK, hN⟩, hsz⟩ := hB
  subst hsz
  have hS : va_S (AC ad s.heap.size) s.heap s.heap [] := va_S.rf
  have hA9 : ∀ q : Nat, s.heap.size ≤ q → AC ad s.heap.size q := fun q h => Or.inr h
  obtain ⟨⟨hn1, hn1b⟩, h78, ⟨hn2, hn2b⟩, h12, ⟨hnL, hnLb⟩, h15, ⟨hn4, hn4b⟩, ⟨hn5, hn5b⟩, hrd5, hd0⟩ := id hI
  have hl : lv_has ls 4 [(0, .ref (ad 0)), (1, .int (nI p0)), (2, .int x)] := hl
  have hk0 := hts (.fieldLink RX5 26 "DatamarketDesk" "harms" "LDatamarketDesk$Harms;") (by decide +kernel)
  have hinX5 : ∀ w ∈ wsX50, w ∈ wsX5_creditGain := by decide +kernel
  have hk2 := hts (.fieldLink RX5 19 "DatamarketDesk" "lineage" "LDatamarketDesk$Lineage;") (by decide +kernel)
  have hk3 := hts (.fieldLink RX5 40 "DatamarketDesk" "reads" "LDatamarketDesk$Reads;") (by decide +kernel)
  have hinX1 : ∀ w ∈ wsX10, w ∈ wsX5_creditGain := by decide +kernel
  refine lv_aload_n hx hb dX5_creditGain_0 rfl (lv_at hl 0 rfl) ?_
  refine va_get hx hb hts hinX5 hown hK hP 0 rfl rfl 2 (by decide) (hk0) (fun _ h9 => h9) rfl dX5_creditGain_1 ?_
  refine lv_iload_n hx hb dX5_creditGain_4 rfl (lv_at hl 1 rfl) ?_
  refine lv_iload_n hx hb dX5_creditGain_5 rfl (lv_at hl 2 rfl) ?_
  refine lv_aload_n hx hb dX5_creditGain_6 rfl (lv_at hl 0 rfl) ?_
  refine va_get hx hb hts hinX5 hown hK hP 0 rfl rfl 1 (by decide) (hk2) (fun _ h9 => h9) rfl dX5_creditGain_7 ?_
  have hFc : ∀ q, AC ad s.heap.size q → AC ad s.heap.size q := fun q h => h
  refine va_callr (va_runV (As := [.int (nI p0), .int x, .ref (ad 2)]) (rest := []) ⟨hx, hb, hml, hown, hts⟩ (c_X1_tryRaise l D ty g ad s.heap.size hij nL hnL hnLb h15 p0 (by omega) x) (cwV 3 hts gX5_creditGain_X1_tryRaise rfl rfl rfl (by decide +kernel) ⟨Nat.le_of_ble_eq_true rfl, Nat.le_of_ble_eq_true rfl⟩) ⟨zBl (zW_blind), va_recv hK hP (ci := 1) (q0 := 3) rfl rfl, fun U h1 h2 => ⟨rfl, zI_pre hP hK hN U h1 h2, by rw [h1]⟩⟩ rfl rfl hl.1 rfl (lv_room (Nat.le_of_ble_eq_true rfl)) dX5_creditGain_10 ⟨Nat.le_of_ble_eq_true rfl, Nat.le_of_ble_eq_true rfl⟩) hS (fun q _ h => hFc q h) hFc (fun g_1 a9 t H locs ht hvm hw hB _ _ hS => ?_)
  have eg_1 := hw
  obtain ⟨ha9, hB⟩ := hB; subst ha9
  have hP : va_P D vwCl (zC ty g_1 ad) H := by rw [← ht]; exact hB.1
  have hn5w : g_1 5 0 = nI n5 := by rw [eg_1, show triG g nL p0 x 5 = g 5 from vn (by decide)]; exact hn5
  have hrd5w : ∀ r, r < n5 → nb (g_1 30 r) 8 ∧ nb (g_1 31 r) 6 := by rw [eg_1, show triG g nL p0 x 30 = g 30 from vn (by decide), show triG g nL p0 x 31 = g 31 from vn (by decide)]; exact hrd5
  refine lv_astore_n (lv' := [(3, .ref (ad 22)), (0, .ref (ad 0)), (1, .int (nI p0)), (2, .int x)]) hx hb dX5_creditGain_13 rfl hl (by decide) rfl (fun ls hl => ?_)
  refine lv_aload_n hx hb dX5_creditGain_14 rfl (lv_at hl 1 rfl) ?_
  refine va_get hx hb hts hinX5 hown hK hP 0 rfl rfl 4 (by decide) (hk3) (fun _ h9 => h9) rfl dX5_creditGain_15 ?_
  refine lv_iconst (v := -1) hx hb dX5_creditGain_18 (by decide) ?_
  refine lv_iconst (v := -1) hx hb dX5_creditGain_19 (by decide) ?_
  refine lv_aload_n hx hb dX5_creditGain_20 rfl (lv_at hl 0 rfl) ?_
  refine zcVi (As := [.int (-1), .int (-1), .ref (ad 22)]) (rest := []) ⟨hx, hb, hml, hown, hts⟩ (c_X3_credit_22 l D ty g_1 ad n5 hn5w hn5b hrd5w (-1) (-1)) (cwV 3 hts gX5_creditGain_X3_credit rfl rfl rfl (by decide +kernel) ⟨Nat.le_of_ble_eq_true rfl, Nat.le_of_ble_eq_true rfl⟩) zI_blind (zI_pre hP hK hN) (va_recv hK hP (ci := 3) (q0 := 5) rfl rfl) rfl hl.1 rfl (Nat.le_of_ble_eq_true rfl) dX5_creditGain_21 ⟨Nat.le_of_ble_eq_true rfl, Nat.le_of_ble_eq_true rfl⟩ (fun r_3 hr_3 => ?_)
  subst hr_3
  refine lv_aload_n hx hb dX5_creditGain_24 rfl (lv_at hl 1 rfl) ?_
  refine va_get hx hb hts hinX5 hown hK hP 0 rfl rfl 4 (by decide) (hk3) (fun _ h9 => h9) rfl dX5_creditGain_25 ?_
  refine lv_iconst (v := -1) hx hb dX5_creditGain_28 (by decide) ?_
  refine lv_iconst (v := -1) hx hb dX5_creditGain_29 (by decide) ?_
  refine lv_aload_n hx hb dX5_creditGain_30 rfl (lv_at hl 1 rfl) ?_
  refine va_get hx hb hts hinX5 hown hK hP 0 rfl rfl 2 (by decide) (hk0) (fun _ h9 => h9) rfl dX5_creditGain_31 ?_
  refine va_getN hx hb hts hinX1 hown hK hP 3 rfl rfl 2 (by decide) (zN.use hN (List.mem_of_getElem? (i := 10) rfl)) (fun _ h9 => h9) rfl dX5_creditGain_34 ?_
  refine zcVi (As := [.int (-1), .int (-1), .ref (ad 21)]) (rest := [.int (sumN (fCr g_1 (-1) (-1) 22) n5)]) ⟨hx, hb, hml, hown, hts⟩ (c_X3_credit_21 l D ty g_1 ad n5 hn5w hn5b hrd5w (-1) (-1)) (cwV 3 hts gX5_creditGain_X3_credit rfl rfl rfl (by decide +kernel) ⟨Nat.le_of_ble_eq_true rfl, Nat.le_of_ble_eq_true rfl⟩) zI_blind (zI_pre hP hK hN) (va_recv hK hP (ci := 3) (q0 := 5) rfl rfl) rfl hl.1 rfl (Nat.le_of_ble_eq_true rfl) dX5_creditGain_37 ⟨Nat.le_of_ble_eq_true rfl, Nat.le_of_ble_eq_true rfl⟩ (fun r_4 hr_4 => ?_)
  subst hr_4
  refine lv_isub hx hb dX5_creditGain_40 ?_
  exact W.iret (v := (sumN (fCr g_1 (-1) (-1) 22) n5) - (sumN (fCr g_1 (-1) (-1) 21) n5)) hx hb hr (fun t ht hW => ⟨⟨_, g_1, rfl, ⟨by rw [eg_1]; exact gain_eq .., by rw [eg_1]⟩, ⟨by rw [ht]; exact hP, va_K.moved hW.alike hK, hN.warm hW⟩⟩, hS.F ht⟩) hS.2.2 dX5_creditGain_41
