set_option maxHeartbeats 4000000 in
set_option maxRecDepth 100000 in
theorem c_X5_creditBy (l : Launch) (D : va_G) (ty : Nat → ClassId) (g : Nat → Nat → Int32) (ad : Nat → Nat) (sz : Nat) (hij : zIj ad) (n1 n2 nL n4 n5 : Nat) (hI : dI g n1 n2 nL n4 n5) (i v f : Nat) (hi : i < n1) (hv : v < nV g i) (hf : f < nF g i) (x : Int32) (hh1 : ¬ x < nI 1) (hh2 : ¬ nI 100 < x) : Met l yX5_creditBy wsX5_creditBy ({ frames := 4, cells := 0, slots := 0, locals := 95 }) (va_Pc [.ref (ad 0), .int (nI i), .int (nI v), .int (nI f), .int x] (fun U => zI D ty g ad U ∧ U.heap.size = sz)) (va_Qi (fun (v9 : Int32) (g2 : Nat → Nat → Int32) => v9 = gainN g nL n5 ((i * 6 + v) * 6 + f) x ∧ g2 = triG g nL ((i * 6 + v) * 6 + f) x) (fun g2 t => zI D ty g2 ad t) (AC ad sz)) 0 0 (AC ad sz) := by
  refine zMet (cc := cX5_creditBy) (maxL := 5) (ret := (some .int)) (by decide) rfl (Nat.le_of_ble_eq_true rfl) ?_
  intro p e s m below meth c hx hb hr hts hown hlocks hml hB ls hl
  obtain ⟨⟨hP, hK, hN⟩, hsz⟩ := hB
  subst hsz
  have hS : va_S (AC ad s.heap.size) s.heap s.heap [] := va_S.rf
  have hA9 : ∀ q : Nat, s.heap.size ≤ q → AC ad s.heap.size q := fun q h => Or.inr h
  obtain ⟨⟨hn1, hn1b⟩, h78, ⟨hn2, hn2b⟩, h12, ⟨hnL, hnLb⟩, h15, ⟨hn4, hn4b⟩, ⟨hn5, hn5b⟩, hrd5, hd0⟩ := id hI
  have hq7 : nF g i < 7 := (h78 i hi).1.2
  have hq8 : nV g i < 7 := (h78 i hi).2.1.2
  have hl : lv_has ls 5 [(0, .ref (ad 0)), (1, .int (nI i)), (2, .int (nI v)), (3, .int (nI f)), (4, .int x)] := hl
  refine lv_aload_n hx hb dX5_creditBy_0 rfl (lv_at hl 0 rfl) ?_
  refine lv_iload_n hx hb dX5_creditBy_1 rfl (lv_at hl 1 rfl) ?_
  refine lv_iload_n hx hb dX5_creditBy_2 rfl (lv_at hl 2 rfl) ?_
  refine lv_iload_n hx hb dX5_creditBy_3 rfl (lv_at hl 3 rfl) ?_
  refine zcVv (As := [.int (nI i), .int (nI v), .int (nI f)]) (rest := []) ⟨hx, hb, hml, hown, hts⟩ (c_X5_needPlace l D ty g ad n1 n2 nL n4 n5 hI i v f (by omega) (by omega) (by omega)) (cwV 3 hts gX5_creditBy_X5_needPlace rfl rfl rfl (by decide +kernel) ⟨Nat.le_of_ble_eq_true rfl, Nat.le_of_ble_eq_true rfl⟩) zI_blind (zI_pre hP hK hN) (va_recv hK hP (ci := 5) (q0 := 0) rfl rfl) rfl hl.1 rfl (Nat.le_of_ble_eq_true rfl) dX5_creditBy_4 ⟨Nat.le_of_ble_eq_true rfl, Nat.le_of_ble_eq_true rfl⟩ (fun _ => ?_)
  refine lv_iload hx hb dX5_creditBy_7 (lv_at hl 4 rfl) ?_
  refine zcSv (As := [.int x]) (rest := []) ⟨hx, hb, hml, hown, hts⟩ (c_X5_needHarm l _ x hh1 hh2) (cwS 1 hts gX5_creditBy_X5_needHarm rfl rfl rfl (by decide +kernel) ⟨Nat.le_of_ble_eq_true rfl, Nat.le_of_ble_eq_true rfl⟩) (B := fun _ => True) (fun _ _ _ _ _ => trivial) (fun _ _ _ => trivial) rfl hl.1 rfl (Nat.le_of_ble_eq_true rfl) dX5_creditBy_9 ⟨Nat.le_of_ble_eq_true rfl, Nat.le_of_ble_eq_true rfl⟩ (fun _ => ?_)
  refine lv_aload_n hx hb dX5_creditBy_12 rfl (lv_at hl 0 rfl) ?_
  refine lv_iload_n hx hb dX5_creditBy_13 rfl (lv_at hl 1 rfl) ?_
  refine lv_iload_n hx hb dX5_creditBy_14 rfl (lv_at hl 2 rfl) ?_
  refine lv_iload_n hx hb dX5_creditBy_15 rfl (lv_at hl 3 rfl) ?_
  refine zcSi (As := [.int (nI i), .int (nI v), .int (nI f)]) (rest := [.ref (ad 0)]) ⟨hx, hb, hml, hown, hts⟩ (c_X5_placeAt l _ i v f) (cwS 3 hts gX5_creditBy_X5_placeAt rfl rfl rfl (by decide +kernel) ⟨Nat.le_of_ble_eq_true rfl, Nat.le_of_ble_eq_true rfl⟩) (B := fun _ => True) (fun _ _ _ _ _ => trivial) (fun _ _ _ => trivial) rfl hl.1 rfl (Nat.le_of_ble_eq_true rfl) dX5_creditBy_16 ⟨Nat.le_of_ble_eq_true rfl, Nat.le_of_ble_eq_true rfl⟩ (fun r_3 hr_3 => ?_)
  subst hr_3
  refine lv_iload hx hb dX5_creditBy_19 (lv_at hl 4 rfl) ?_
  have hFc : ∀ q, AC ad s.heap.size q → AC ad s.heap.size q := fun q h => h
  refine va_calli (va_runV (As := [.int (nI ((i * 6 + v) * 6 + f)), .int x]) (rest := []) ⟨hx, hb, hml, hown, hts⟩ (c_X5_creditGain l D ty g ad s.heap.size hij n1 n2 nL n4 n5 hI ((i * 6 + v) * 6 + f) (by omega) x) (cwV 2 hts gX5_creditBy_X5_creditGain rfl rfl rfl (by decide +kernel) ⟨Nat.le_of_ble_eq_true rfl, Nat.le_of_ble_eq_true rfl⟩) ⟨zBl (zW_blind), va_recv hK hP (ci := 5) (q0 := 0) rfl rfl, fun U h1 h2 => ⟨rfl, zI_pre hP hK hN U h1 h2, by rw [h1]⟩⟩ rfl rfl hl.1 rfl (lv_room (Nat.le_of_ble_eq_true rfl)) dX5_creditBy_21 ⟨Nat.le_of_ble_eq_true rfl, Nat.le_of_ble_eq_true rfl⟩) hS (fun q _ h => hFc q h) hFc (fun r_5 g_4 t H locs ht hvm hw hB _ _ hS => ?_)
  obtain ⟨hr_5, eg_4⟩ := hw
  subst hr_5
  have hP : va_P D vwCl (zC ty g_4 ad) H := by rw [← ht]; exact hB.1
  exact W.iret (v := gainN g nL n5 ((i * 6 + v) * 6 + f) x) hx hb hr (fun t ht hW => ⟨⟨_, g_4, rfl, ⟨rfl, by rw [eg_4]⟩, ⟨by rw [ht]; exact hP, va_K.moved hW.alike hK, hN.warm hW⟩⟩, hS.F ht⟩) hS.2.2 dX5_creditBy_24
