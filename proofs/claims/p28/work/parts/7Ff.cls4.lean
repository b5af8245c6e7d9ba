set_option maxHeartbeats 4000000 in
set_option maxRecDepth 100000 in
theorem c_X5_report (l : Launch) (D : va_G) (ty : Nat → ClassId) (g : Nat → Nat → Int32) (ad : Nat → Nat) (sz : Nat) (hij : zIj ad) (n1 n2 nL n4 n5 : Nat) (hI : dI g n1 n2 nL n4 n5) (i v f : Nat) (hi : i < n1) (hv : v < nV g i) (hf : f < nF g i) (x : Int32) (hh1 : ¬ x < nI 1) (hh2 : ¬ nI 100 < x) : Met l yX5_report wsX5_report ({ frames := 4, cells := 0, slots := 0, locals := 95 }) (va_Pc [.ref (ad 0), .int (nI i), .int (nI v), .int (nI f), .int x] (fun U => zI D ty g ad U ∧ U.heap.size = sz)) (va_Qi (fun (v9 : Int32) (g2 : Nat → Nat → Int32) => v9 = gainN g nL n5 ((i * 6 + v) * 6 + f) x ∧ g2 = repG g nL ((i * 6 + v) * 6 + f) x) (fun g2 t => zI D ty g2 ad t) (AC ad sz)) 0 0 (AC ad sz) := by
  refine zMet (cc := cX5_report) (maxL := 7) (ret := (some .int)) (by decide) rfl (Nat.le_of_ble_eq_true rfl) ?_
  intro p e s m below meth c hx hb hr hts hown hlocks hml hB ls hl
  obtain ⟨⟨hP, hK, hN⟩, hsz⟩ := hB
  subst hsz
  have hS : va_S (AC ad s.heap.size) s.heap s.heap [] := va_S.rf
  have hA9 : ∀ q : Nat, s.heap.size ≤ q → AC ad s.heap.size q := fun q h => Or.inr h
  obtain ⟨⟨hn1, hn1b⟩, h78, ⟨hn2, hn2b⟩, h12, ⟨hnL, hnLb⟩, h15, ⟨hn4, hn4b⟩, ⟨hn5, hn5b⟩, hrd5, hd0⟩ := id hI
  have hq7 : nF g i < 7 := (h78 i hi).1.2
  have hq8 : nV g i < 7 := (h78 i hi).2.1.2
  have hl : lv_has ls 7 [(0, .ref (ad 0)), (1, .int (nI i)), (2, .int (nI v)), (3, .int (nI f)), (4, .int x)] := hl
  have hk0 := hts (.fieldLink RX5 26 "DatamarketDesk" "harms" "LDatamarketDesk$Harms;") (by decide +kernel)
  have hinX5 : ∀ w ∈ wsX50, w ∈ wsX5_report := by decide +kernel
  have hk2 := hts (.fieldLink RX5 19 "DatamarketDesk" "lineage" "LDatamarketDesk$Lineage;") (by decide +kernel)
  refine lv_aload_n hx hb dX5_report_0 rfl (lv_at hl 0 rfl) ?_
  refine lv_iload_n hx hb dX5_report_1 rfl (lv_at hl 1 rfl) ?_
  refine lv_iload_n hx hb dX5_report_2 rfl (lv_at hl 2 rfl) ?_
  refine lv_iload_n hx hb dX5_report_3 rfl (lv_at hl 3 rfl) ?_
  refine zcVv (As := [.int (nI i), .int (nI v), .int (nI f)]) (rest := []) ⟨hx, hb, hml, hown, hts⟩ (c_X5_needPlace l D ty g ad n1 n2 nL n4 n5 hI i v f (by omega) (by omega) (by omega)) (cwV 3 hts gX5_report_X5_needPlace rfl rfl rfl (by decide +kernel) ⟨Nat.le_of_ble_eq_true rfl, Nat.le_of_ble_eq_true rfl⟩) zI_blind (zI_pre hP hK hN) (va_recv hK hP (ci := 5) (q0 := 0) rfl rfl) rfl hl.1 rfl (Nat.le_of_ble_eq_true rfl) dX5_report_4 ⟨Nat.le_of_ble_eq_true rfl, Nat.le_of_ble_eq_true rfl⟩ (fun _ => ?_)
  refine lv_iload hx hb dX5_report_7 (lv_at hl 4 rfl) ?_
  refine zcSv (As := [.int x]) (rest := []) ⟨hx, hb, hml, hown, hts⟩ (c_X5_needHarm l _ x hh1 hh2) (cwS 1 hts gX5_report_X5_needHarm rfl rfl rfl (by decide +kernel) ⟨Nat.le_of_ble_eq_true rfl, Nat.le_of_ble_eq_true rfl⟩) (B := fun _ => True) (fun _ _ _ _ _ => trivial) (fun _ _ _ => trivial) rfl hl.1 rfl (Nat.le_of_ble_eq_true rfl) dX5_report_9 ⟨Nat.le_of_ble_eq_true rfl, Nat.le_of_ble_eq_true rfl⟩ (fun _ => ?_)
  refine lv_iload_n hx hb dX5_report_12 rfl (lv_at hl 1 rfl) ?_
  refine lv_iload_n hx hb dX5_report_13 rfl (lv_at hl 2 rfl) ?_
  refine lv_iload_n hx hb dX5_report_14 rfl (lv_at hl 3 rfl) ?_
  refine zcSi (As := [.int (nI i), .int (nI v), .int (nI f)]) (rest := []) ⟨hx, hb, hml, hown, hts⟩ (c_X5_placeAt l _ i v f) (cwS 3 hts gX5_report_X5_placeAt rfl rfl rfl (by decide +kernel) ⟨Nat.le_of_ble_eq_true rfl, Nat.le_of_ble_eq_true rfl⟩) (B := fun _ => True) (fun _ _ _ _ _ => trivial) (fun _ _ _ => trivial) rfl hl.1 rfl (Nat.le_of_ble_eq_true rfl) dX5_report_15 ⟨Nat.le_of_ble_eq_true rfl, Nat.le_of_ble_eq_true rfl⟩ (fun r_3 hr_3 => ?_)
  subst hr_3
  refine lv_istore (lv' := [(5, .int (nI ((i * 6 + v) * 6 + f))), (0, .ref (ad 0)), (1, .int (nI i)), (2, .int (nI v)), (3, .int (nI f)), (4, .int x)]) hx hb dX5_report_18 hl (by decide) rfl (fun ls hl => ?_)
  refine lv_aload_n hx hb dX5_report_20 rfl (lv_at hl 1 rfl) ?_
  refine lv_iload hx hb dX5_report_21 (lv_at hl 0 rfl) ?_
  refine lv_iload hx hb dX5_report_23 (lv_at hl 5 rfl) ?_
  have hFc : ∀ q, AC ad s.heap.size q → AC ad s.heap.size q := fun q h => h
  refine va_calli (va_runV (As := [.int (nI ((i * 6 + v) * 6 + f)), .int x]) (rest := []) ⟨hx, hb, hml, hown, hts⟩ (c_X5_creditGain l D ty g ad s.heap.size hij n1 n2 nL n4 n5 hI ((i * 6 + v) * 6 + f) (by omega) x) (cwV 2 hts gX5_report_X5_creditGain rfl rfl rfl (by decide +kernel) ⟨Nat.le_of_ble_eq_true rfl, Nat.le_of_ble_eq_true rfl⟩) ⟨zBl (zW_blind), va_recv hK hP (ci := 5) (q0 := 0) rfl rfl, fun U h1 h2 => ⟨rfl, zI_pre hP hK hN U h1 h2, by rw [h1]⟩⟩ rfl rfl hl.1 rfl (lv_room (Nat.le_of_ble_eq_true rfl)) dX5_report_25 ⟨Nat.le_of_ble_eq_true rfl, Nat.le_of_ble_eq_true rfl⟩) hS (fun q _ h => hFc q h) hFc (fun r_5 g_4 t H locs ht hvm hw hB _ _ hS => ?_)
  obtain ⟨hr_5, eg_4⟩ := hw
  subst hr_5
  have hP : va_P D vwCl (zC ty g_4 ad) H := by rw [← ht]; exact hB.1
  have f1 : ∀ k, k ≠ 22 → g_4 k = g k := fun k hk => by rw [eg_4]; exact vn hk
  refine lv_istore (lv' := [(6, .int (gainN g nL n5 ((i * 6 + v) * 6 + f) x)), (5, .int (nI ((i * 6 + v) * 6 + f))), (0, .ref (ad 0)), (1, .int (nI i)), (2, .int (nI v)), (3, .int (nI f)), (4, .int x)]) hx hb dX5_report_28 hl (by decide) rfl (fun ls hl => ?_)
  refine lv_aload_n hx hb dX5_report_30 rfl (lv_at hl 2 rfl) ?_
  refine va_get hx hb hts hinX5 hown hK hP 0 rfl rfl 2 (by decide) (hk0) (fun _ h9 => h9) rfl dX5_report_31 ?_
  refine lv_iload hx hb dX5_report_34 (lv_at hl 1 rfl) ?_
  refine lv_iload hx hb dX5_report_36 (lv_at hl 6 rfl) ?_
  have hFc : ∀ q, AC ad H.size q → AC ad s.heap.size q := fun q h => h.elim Or.inl (fun z => Or.inr (Nat.le_trans hS.1 z))
  refine va_callv (va_runV (As := [.int (nI ((i * 6 + v) * 6 + f)), .int x]) (rest := []) ⟨hx, hb, hml, hown, hts⟩ (c_X1_raise l D ty g_4 ad H.size hij ((i * 6 + v) * 6 + f) (by omega) x) (cwV 2 hts gX5_report_X1_raise rfl rfl rfl (by decide +kernel) ⟨Nat.le_of_ble_eq_true rfl, Nat.le_of_ble_eq_true rfl⟩) ⟨zBl (zW_blind), va_recv hK hP (ci := 1) (q0 := 3) rfl rfl, fun U h1 h2 => ⟨rfl, zI_pre hP hK hN U h1 h2, by rw [h1]⟩⟩ rfl rfl hl.1 rfl (lv_room (Nat.le_of_ble_eq_true rfl)) dX5_report_38 ⟨Nat.le_of_ble_eq_true rfl, Nat.le_of_ble_eq_true rfl⟩) hS (fun q _ h => hFc q h) hFc (fun g_6 t H locs ht hvm hw hB _ _ hS => ?_)
  have eg_6 := hw
  have hP : va_P D vwCl (zC ty g_6 ad) H := by rw [← ht]; exact hB.1
  refine lv_aload_n hx hb dX5_report_41 rfl (lv_at hl 2 rfl) ?_
  refine va_get hx hb hts hinX5 hown hK hP 0 rfl rfl 2 (by decide) (hk0) (fun _ h9 => h9) rfl dX5_report_42 ?_
  refine lv_aload_n hx hb dX5_report_45 rfl (lv_at hl 2 rfl) ?_
  refine va_get hx hb hts hinX5 hown hK hP 0 rfl rfl 1 (by decide) (hk2) (fun _ h9 => h9) rfl dX5_report_46 ?_
  have hFc : ∀ q, AC ad H.size q → AC ad s.heap.size q := fun q h => h.elim Or.inl (fun z => Or.inr (Nat.le_trans hS.1 z))
  refine va_callv (va_runV (As := [.ref (ad 2)]) (rest := []) ⟨hx, hb, hml, hown, hts⟩ (c_X1_settle l D ty g_6 ad H.size hij nL (by rw [eg_6, vn (by decide), f1 2 (by decide)]; exact hnL) hnLb (by rw [eg_6, vn (by decide), vn (by decide), f1 15 (by decide), f1 16 (by decide)]; exact h15)) (cwV 1 hts gX5_report_X1_settle rfl rfl rfl (by decide +kernel) ⟨Nat.le_of_ble_eq_true rfl, Nat.le_of_ble_eq_true rfl⟩) ⟨zBl (zW_blind), va_recv hK hP (ci := 1) (q0 := 3) rfl rfl, fun U h1 h2 => ⟨rfl, zI_pre hP hK hN U h1 h2, by rw [h1]⟩⟩ rfl rfl hl.1 rfl (lv_room (Nat.le_of_ble_eq_true rfl)) dX5_report_49 ⟨Nat.le_of_ble_eq_true rfl, Nat.le_of_ble_eq_true rfl⟩) hS (fun q _ h => hFc q h) hFc (fun g_8 t H locs ht hvm hw hB _ _ hS => ?_)
  have eg_8 := hw
  have hP : va_P D vwCl (zC ty g_8 ad) H := by rw [← ht]; exact hB.1
  refine lv_iload hx hb dX5_report_52 (lv_at hl 0 rfl) ?_
  exact W.iret (v := gainN g nL n5 ((i * 6 + v) * 6 + f) x) hx hb hr (fun t ht hW => ⟨⟨_, g_8, rfl, ⟨rfl, (set_eq (g := g) (fun k hk => by rw [eg_4]; exact tri_r k hk) eg_6 eg_8).trans (by rw [eg_4]; rfl)⟩, ⟨by rw [ht]; exact hP, va_K.moved hW.alike hK, hN.warm hW⟩⟩, hS.F ht⟩) hS.2.2 dX5_report_54
