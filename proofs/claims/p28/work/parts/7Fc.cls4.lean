set_option maxHeartbeats 4000000 in
set_option maxRecDepth 100000 in
theorem c_X1_tryRaise (l : Launch) (D : va_G) (ty : Nat → ClassId) (g : Nat → Nat → Int32) (ad : Nat → Nat) (sz : Nat) (hij : zIj ad) (nL : Nat) (hnL : g 2 1 = nI nL) (hnLb : nL ≤ 120) (h15 : ∀ j, j < nL → nb (g 15 j) 288 ∧ nb (g 16 j) 288) (p0 : Nat) (hp0 : p0 < 288) (x : Int32) : Met l yX1_tryRaise wsX1_tryRaise ({ frames := 2, cells := 0, slots := 0, locals := 43 }) (va_Pc [.ref (ad 3), .int (nI p0), .int x, .ref (ad 2)] (fun U => zI D ty g ad U ∧ U.heap.size = sz)) (va_Qr (fun g2 : Nat → Nat → Int32 => g2 = triG g nL p0 x) (fun g2 a9 t => a9 = ad 22 ∧ zI D ty g2 ad t) (AC ad sz)) 0 0 (AC ad sz) := by
  refine zMet (cc := cX1_tryRaise) (maxL := 4) (ret := (some (.array .int))) (by decide) rfl (Nat.le_of_ble_eq_true rfl) ?_
  intro p e s m below meth c hx hb hr hts hown hlocks hml hB ls hl
  obtain ⟨⟨hP, hK, hN⟩, hsz⟩ := hB
  subst hsz
  have hS : va_S (AC ad s.heap.size) s.heap s.heap [] := va_S.rf
  have hA9 : ∀ q : Nat, s.heap.size ≤ q → AC ad s.heap.size q := fun q h => Or.inr h
  have hl : lv_has ls 4 [(0, .ref (ad 3)), (1, .int (nI p0)), (2, .int x), (3, .ref (ad 2))] := hl
  have hk0 := hts (.fieldLink RX1 22 "DatamarketDesk$Harms" "trial" "[I") (by decide +kernel)
  have hinX1 : ∀ w ∈ wsX10, w ∈ wsX1_tryRaise := by decide +kernel
  refine lv_aload_n hx hb dX1_tryRaise_0 rfl (lv_at hl 0 rfl) ?_
  refine lv_aload_n hx hb dX1_tryRaise_1 rfl (lv_at hl 0 rfl) ?_
  refine va_get hx hb hts hinX1 hown hK hP 3 rfl rfl 3 (by decide) (hk0) (fun _ h9 => h9) rfl dX1_tryRaise_2 ?_
  have hFc : ∀ q, AC ad s.heap.size q → AC ad s.heap.size q := fun q h => h
  refine va_callv (va_runV (As := [.ref (ad 22)]) (rest := []) ⟨hx, hb, hml, hown, hts⟩ (c_X1_copyOwn_22 l D ty g ad s.heap.size hij ) (cwV 1 hts gX1_tryRaise_X1_copyOwn rfl rfl rfl (by decide +kernel) ⟨Nat.le_of_ble_eq_true rfl, Nat.le_of_ble_eq_true rfl⟩) ⟨zBl (zW_blind), va_recv hK hP (ci := 1) (q0 := 3) rfl rfl, fun U h1 h2 => ⟨rfl, zI_pre hP hK hN U h1 h2, by rw [h1]⟩⟩ rfl rfl hl.1 rfl (lv_room (Nat.le_of_ble_eq_true rfl)) dX1_tryRaise_5 ⟨Nat.le_of_ble_eq_true rfl, Nat.le_of_ble_eq_true rfl⟩) hS (fun q _ h => hFc q h) hFc (fun g_1 t H locs ht hvm hw hB _ _ hS => ?_)
  have eg_1 := hw
  have hP : va_P D vwCl (zC ty g_1 ad) H := by rw [← ht]; exact hB.1
  refine lv_aload_n hx hb dX1_tryRaise_8 rfl (lv_at hl 0 rfl) ?_
  refine va_get hx hb hts hinX1 hown hK hP 3 rfl rfl 3 (by decide) (hk0) (fun _ h9 => h9) rfl dX1_tryRaise_9 ?_
  refine lv_iload_n hx hb dX1_tryRaise_12 rfl (lv_at hl 1 rfl) ?_
  refine lv_aload_n hx hb dX1_tryRaise_13 rfl (lv_at hl 0 rfl) ?_
  refine va_get hx hb hts hinX1 hown hK hP 3 rfl rfl 3 (by decide) (hk0) (fun _ h9 => h9) rfl dX1_tryRaise_14 ?_
  refine lv_iload_n hx hb dX1_tryRaise_17 rfl (lv_at hl 1 rfl) ?_
  refine zald hx hb hK hP 22 0 rfl rfl (i := p0) (by omega) (by decide) dX1_tryRaise_18 ?_
  refine lv_iload_n hx hb dX1_tryRaise_19 rfl (lv_at hl 2 rfl) ?_
  refine va_mmax hx hb (hml.trans hl.1.symm) hown (hts (.methodLink RX1 25 Lib.Math.max.name) (by decide +kernel)) (hts (.static Lib.Math.max.name) (by decide +kernel)) (hts (.initialized "java/lang/Math") (by decide +kernel)) (hts (.code Lib.Math.max.name Lib.Math.max.code 2 (some .int)) (by decide +kernel)) (Nat.le_of_ble_eq_true rfl) (Nat.le_of_ble_eq_true rfl) (Nat.le_of_ble_eq_true rfl) (Nat.le_of_ble_eq_true rfl) dX1_tryRaise_20 ?_
  refine zeq (zmax_def (g_1 22 p0) x).symm ?_
  refine zast hx hb hK hP (zD hij) hS 22 0 rfl rfl (i := p0) (by omega) (by decide) dX1_tryRaise_23 (fun H locs hP hS => ?_)
  obtain ⟨g_3, eg_3⟩ : ∃ z : Nat → Nat → Int32, z = va_up g_1 22 (upd (g_1 22) p0 (zmax (g_1 22 p0) x)) := ⟨_, rfl⟩
  have hP : va_P D vwCl (zC ty g_3 ad) H := by rw [eg_3]; exact hP
  refine lv_aload_n hx hb dX1_tryRaise_24 rfl (lv_at hl 3 rfl) ?_
  refine lv_aload_n hx hb dX1_tryRaise_25 rfl (lv_at hl 0 rfl) ?_
  refine va_get hx hb hts hinX1 hown hK hP 3 rfl rfl 3 (by decide) (hk0) (fun _ h9 => h9) rfl dX1_tryRaise_26 ?_
  have hFc : ∀ q, AC ad H.size q → AC ad s.heap.size q := fun q h => h.elim Or.inl (fun z => Or.inr (Nat.le_trans hS.1 z))
  refine va_callv (va_runV (As := [.ref (ad 22)]) (rest := []) ⟨hx, hb, hml, hown, hts⟩ (c_X2_carry_22 l D ty g_3 ad H.size hij nL (by rw [eg_3, eg_1]; exact hnL) hnLb (by rw [eg_3, eg_1]; exact h15)) (cwV 1 hts gX1_tryRaise_X2_carry rfl rfl rfl (by decide +kernel) ⟨Nat.le_of_ble_eq_true rfl, Nat.le_of_ble_eq_true rfl⟩) ⟨zBl (zW_blind), va_recv hK hP (ci := 2) (q0 := 2) rfl rfl, fun U h1 h2 => ⟨rfl, zI_pre hP hK hN U h1 h2, by rw [h1]⟩⟩ rfl rfl hl.1 rfl (lv_room (Nat.le_of_ble_eq_true rfl)) dX1_tryRaise_29 ⟨Nat.le_of_ble_eq_true rfl, Nat.le_of_ble_eq_true rfl⟩) hS (fun q _ h => hFc q h) hFc (fun g_4 t H locs ht hvm hw hB _ _ hS => ?_)
  have eg_4 := hw
  have hP : va_P D vwCl (zC ty g_4 ad) H := by rw [← ht]; exact hB.1
  refine lv_aload_n hx hb dX1_tryRaise_32 rfl (lv_at hl 0 rfl) ?_
  refine va_get hx hb hts hinX1 hown hK hP 3 rfl rfl 3 (by decide) (hk0) (fun _ h9 => h9) rfl dX1_tryRaise_33 ?_
  exact W.aret (v := .ref (ad 22)) hx hb hr (Or.inr ⟨_, rfl⟩) (Or.inr ⟨_, rfl⟩) (fun t ht hW => ⟨⟨g_4, ad 22, rfl, tri_eq eg_1 eg_3 eg_4, rfl, ⟨by rw [ht]; exact hP, va_K.moved hW.alike hK, hN.warm hW⟩⟩, hS.F ht⟩) hS.2.2 dX1_tryRaise_36
