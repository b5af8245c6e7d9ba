set_option maxHeartbeats 4000000 in
set_option maxRecDepth 100000 in
theorem c_X9_init (l : Launch) (D : va_G) (ty : Nat → ClassId) (A : Nat → Prop) (u : Nat → Nat → Prop) (C : Nat → Nat → va_E) (ma : Nat → Nat → Nat) (t0 mi : Nat) (x : Nat) (hu1 : u 26 x) (hC1 : C 26 x = eO 10 [.int 0, .int 0, .int 0, .int 0, .int 0, .int 0, .int 0, .int 0, .null, .int 0]) (a1 a2 a3 a4 a5 a6 a7 a8 : Int32) : Met l yX9_init wsX9_init ({ frames := 1, cells := 1, slots := 6, locals := 20 }) (va_Pc [.ref (ma 26 x), .int a1, .int a2, .int a3, .int a4, .int a5, .int a6, .int a7, .int a8] (mI D ty A u C ma t0 mi)) (va_Qv (fun S : mSt => ∃ q9, S = (upU u 27 x, up2 (up2 C 27 x (eI (ty 0) 6 fun _ => 0)) 26 x (eO 10 [.int a1, .int a2, .int a3, .int a4, .int a5, .int a6, .int a7, .int a8, .ref q9, .int 0]), up2 ma 27 x q9)) (fun S t => mI D ty A S.1 S.2.1 S.2.2 t0 mi t) A) 1 6 A := by
  refine zMetI (cc := cX9_init) (maxL := 9) (ret := none) (by decide) rfl (Nat.le_of_ble_eq_true rfl) ?_
  intro p e s m below meth c hx hb hr hts hown hlocks hml hB hin9 ls hl
  obtain ⟨hM, hK, hMS⟩ := hB
  have hS : va_S A s.heap s.heap [] := va_S.rf
  have hl : lv_has ls 9 [(0, .ref (ma 26 x)), (1, .int a1), (2, .int a2), (3, .int a3), (4, .int a4), (5, .int a5), (6, .int a6), (7, .int a7), (8, .int a8)] := hl
  have hinX9 : ∀ w ∈ wsX90, w ∈ wsX9_init := by decide +kernel
  have hk1 := hts (.fieldLink RX9 9 "DatamarketDeskModel$Read" "charges" "[I") (by decide +kernel)
  have hk2 := hts (.fieldLink RX9 15 "DatamarketDeskModel$Read" "reader" "I") (by decide +kernel)
  have hk3 := hts (.fieldLink RX9 19 "DatamarketDeskModel$Read" "set" "I") (by decide +kernel)
  have hk4 := hts (.fieldLink RX9 22 "DatamarketDeskModel$Read" "version" "I") (by decide +kernel)
  have hk5 := hts (.fieldLink RX9 25 "DatamarketDeskModel$Read" "fields" "I") (by decide +kernel)
  have hk6 := hts (.fieldLink RX9 28 "DatamarketDeskModel$Read" "rows" "I") (by decide +kernel)
  have hk7 := hts (.fieldLink RX9 31 "DatamarketDeskModel$Read" "day" "I") (by decide +kernel)
  have hk8 := hts (.fieldLink RX9 34 "DatamarketDeskModel$Read" "purpose" "I") (by decide +kernel)
  have hk9 := hts (.fieldLink RX9 37 "DatamarketDeskModel$Read" "tier" "I") (by decide +kernel)
  refine lv_aload_n hx hb dX9_init_0 rfl (lv_at hl 0 rfl) ?_
  refine W.objInit hx hb hown (hts (.methodLink RX9 3 objectInit) (by decide +kernel)) (hts (.instanceMethod objectInit) (by decide +kernel)) (hts (.code objectInit ⟨#[0xb1]⟩ 1 none) (by decide +kernel)) rfl (by rw [hml]; exact hl.1) rfl dX9_init_1 (Nat.le_of_ble_eq_true rfl) (Nat.le_of_ble_eq_true rfl) ?_
  refine W.eq (g2 := F0 m 4 ls []) rfl ?_
  refine lv_aload_n hx hb dX9_init_4 rfl (lv_at hl 0 rfl) ?_
  refine lv_bipush (v := nI 6) hx hb dX9_init_5 (by decide) ?_
  refine mnewa hx hb (hts (.arrayClass .int) (by decide +kernel)) hK hM hS 27 x (n := 6) (N' := 6) (by decide) rfl (by decide) (Nat.le_of_ble_eq_true rfl) (Nat.le_of_ble_eq_true rfl) dX9_init_7 (fun H1 hM hS _ _ => ?_)
  generalize hq9 : Array.size s.heap = q_1 at hM ⊢
  clear hq9
  generalize H1 = H at hM hS ⊢
  obtain ⟨u_2, eu_2⟩ : ∃ z, z = upU u 27 x := ⟨_, rfl⟩
  obtain ⟨C_3, eC_3⟩ : ∃ z, z = up2 C 27 x (eI (ty 0) 6 (fun _ => 0)) := ⟨_, rfl⟩
  obtain ⟨ma_4, ema_4⟩ : ∃ z, z = up2 ma 27 x q_1 := ⟨_, rfl⟩
  have hM : mW D A u_2 C_3 ma_4 H := by rw [eu_2, eC_3, ema_4]; exact hM
  have hu_5 : u_2 26 x := by rw [eu_2]; exact upU_o hu1
  have hC_6 : C_3 26 x = eO 10 [.int 0, .int 0, .int 0, .int 0, .int 0, .int 0, .int 0, .int 0, .null, .int 0] := by rw [eC_3, up2_n _ _ (fun z => by omega)]; exact hC1
  have ha_7 : ma_4 26 x = ma 26 x := by rw [ema_4, up2_n _ _ (fun z => by omega)]
  have hu_8 : u_2 27 x := by rw [eu_2]; exact upU_s
  have hC_9 : C_3 27 x = eI (ty 0) 6 (fun _ => 0) := by rw [eC_3]; exact up2_s _ _ _ _
  have ha_10 : ma_4 27 x = q_1 := by rw [ema_4]; exact up2_s _ _ _ _
  refine mputF (v := .ref q_1) (ty := .array .int) hx hb hts hinX9 tyX9 tyX9_ok nmX9 hown hK hM hS hu_5 ha_7 hC_6 rfl 8 (by decide) (hk1) (fun _ h9 => h9) rfl hin9 rfl (by decide +kernel) rfl rfl (Nat.le_of_ble_eq_true rfl) dX9_init_9 (fun H locs hM hS ho => ?_)
  obtain ⟨C_11, eC_11⟩ : ∃ z, z = up2 C_3 26 x (eO 10 [.int 0, .int 0, .int 0, .int 0, .int 0, .int 0, .int 0, .int 0, .ref q_1, .int 0]) := ⟨_, rfl⟩
  have hM : mW D A u_2 C_11 ma_4 H := by rw [eC_11]; exact hM
  have hC_12 : C_11 26 x = eO 10 [.int 0, .int 0, .int 0, .int 0, .int 0, .int 0, .int 0, .int 0, .ref q_1, .int 0] := by rw [eC_11]; exact up2_s _ _ _ _
  have hC_13 : C_11 27 x = eI (ty 0) 6 (fun _ => 0) := by rw [eC_11, up2_n _ _ (fun z => by omega)]; exact hC_9
  refine lv_aload_n hx hb dX9_init_12 rfl (lv_at hl 0 rfl) ?_
  refine lv_iload_n hx hb dX9_init_13 rfl (lv_at hl 1 rfl) ?_
  refine mputF (v := .int a1) (ty := .int) hx hb hts hinX9 tyX9 tyX9_ok nmX9 hown hK hM hS hu_5 ha_7 hC_12 rfl 0 (by decide) (hk2) (fun _ h9 => h9) rfl hin9 rfl (by decide +kernel) rfl rfl (Nat.le_of_ble_eq_true rfl) dX9_init_14 (fun H locs hM hS ho => ?_)
  obtain ⟨C_14, eC_14⟩ : ∃ z, z = up2 C_11 26 x (eO 10 [.int a1, .int 0, .int 0, .int 0, .int 0, .int 0, .int 0, .int 0, .ref q_1, .int 0]) := ⟨_, rfl⟩
  have hM : mW D A u_2 C_14 ma_4 H := by rw [eC_14]; exact hM
  have hC_15 : C_14 26 x = eO 10 [.int a1, .int 0, .int 0, .int 0, .int 0, .int 0, .int 0, .int 0, .ref q_1, .int 0] := by rw [eC_14]; exact up2_s _ _ _ _
  have hC_16 : C_14 27 x = eI (ty 0) 6 (fun _ => 0) := by rw [eC_14, up2_n _ _ (fun z => by omega)]; exact hC_13
  refine lv_aload_n hx hb dX9_init_17 rfl (lv_at hl 0 rfl) ?_
  refine lv_iload_n hx hb dX9_init_18 rfl (lv_at hl 2 rfl) ?_
  refine mputF (v := .int a2) (ty := .int) hx hb hts hinX9 tyX9 tyX9_ok nmX9 hown hK hM hS hu_5 ha_7 hC_15 rfl 1 (by decide) (hk3) (fun _ h9 => h9) rfl hin9 rfl (by decide +kernel) rfl rfl (Nat.le_of_ble_eq_true rfl) dX9_init_19 (fun H locs hM hS ho => ?_)
  obtain ⟨C_17, eC_17⟩ : ∃ z, z = up2 C_14 26 x (eO 10 [.int a1, .int a2, .int 0, .int 0, .int 0, .int 0, .int 0, .int 0, .ref q_1, .int 0]) := ⟨_, rfl⟩
  have hM : mW D A u_2 C_17 ma_4 H := by rw [eC_17]; exact hM
  have hC_18 : C_17 26 x = eO 10 [.int a1, .int a2, .int 0, .int 0, .int 0, .int 0, .int 0, .int 0, .ref q_1, .int 0] := by rw [eC_17]; exact up2_s _ _ _ _
  have hC_19 : C_17 27 x = eI (ty 0) 6 (fun _ => 0) := by rw [eC_17, up2_n _ _ (fun z => by omega)]; exact hC_16
  refine lv_aload_n hx hb dX9_init_22 rfl (lv_at hl 0 rfl) ?_
  refine lv_iload_n hx hb dX9_init_23 rfl (lv_at hl 3 rfl) ?_
  refine mputF (v := .int a3) (ty := .int) hx hb hts hinX9 tyX9 tyX9_ok nmX9 hown hK hM hS hu_5 ha_7 hC_18 rfl 2 (by decide) (hk4) (fun _ h9 => h9) rfl hin9 rfl (by decide +kernel) rfl rfl (Nat.le_of_ble_eq_true rfl) dX9_init_24 (fun H locs hM hS ho => ?_)
  obtain ⟨C_20, eC_20⟩ : ∃ z, z = up2 C_17 26 x (eO 10 [.int a1, .int a2, .int a3, .int 0, .int 0, .int 0, .int 0, .int 0, .ref q_1, .int 0]) := ⟨_, rfl⟩
  have hM : mW D A u_2 C_20 ma_4 H := by rw [eC_20]; exact hM
  have hC_21 : C_20 26 x = eO 10 [.int a1, .int a2, .int a3, .int 0, .int 0, .int 0, .int 0, .int 0, .ref q_1, .int 0] := by rw [eC_20]; exact up2_s _ _ _ _
  have hC_22 : C_20 27 x = eI (ty 0) 6 (fun _ => 0) := by rw [eC_20, up2_n _ _ (fun z => by omega)]; exact hC_19
  refine lv_aload_n hx hb dX9_init_27 rfl (lv_at hl 0 rfl) ?_
  refine lv_iload hx hb dX9_init_28 (lv_at hl 4 rfl) ?_
  refine mputF (v := .int a4) (ty := .int) hx hb hts hinX9 tyX9 tyX9_ok nmX9 hown hK hM hS hu_5 ha_7 hC_21 rfl 3 (by decide) (hk5) (fun _ h9 => h9) rfl hin9 rfl (by decide +kernel) rfl rfl (Nat.le_of_ble_eq_true rfl) dX9_init_30 (fun H locs hM hS ho => ?_)
  obtain ⟨C_23, eC_23⟩ : ∃ z, z = up2 C_20 26 x (eO 10 [.int a1, .int a2, .int a3, .int a4, .int 0, .int 0, .int 0, .int 0, .ref q_1, .int 0]) := ⟨_, rfl⟩
  have hM : mW D A u_2 C_23 ma_4 H := by rw [eC_23]; exact hM
  have hC_24 : C_23 26 x = eO 10 [.int a1, .int a2, .int a3, .int a4, .int 0, .int 0, .int 0, .int 0, .ref q_1, .int 0] := by rw [eC_23]; exact up2_s _ _ _ _
  have hC_25 : C_23 27 x = eI (ty 0) 6 (fun _ => 0) := by rw [eC_23, up2_n _ _ (fun z => by omega)]; exact hC_22
  refine lv_aload_n hx hb dX9_init_33 rfl (lv_at hl 0 rfl) ?_
  refine lv_iload hx hb dX9_init_34 (lv_at hl 5 rfl) ?_
  refine mputF (v := .int a5) (ty := .int) hx hb hts hinX9 tyX9 tyX9_ok nmX9 hown hK hM hS hu_5 ha_7 hC_24 rfl 4 (by decide) (hk6) (fun _ h9 => h9) rfl hin9 rfl (by decide +kernel) rfl rfl (Nat.le_of_ble_eq_true rfl) dX9_init_36 (fun H locs hM hS ho => ?_)
  obtain ⟨C_26, eC_26⟩ : ∃ z, z = up2 C_23 26 x (eO 10 [.int a1, .int a2, .int a3, .int a4, .int a5, .int 0, .int 0, .int 0, .ref q_1, .int 0]) := ⟨_, rfl⟩
  have hM : mW D A u_2 C_26 ma_4 H := by rw [eC_26]; exact hM
  have hC_27 : C_26 26 x = eO 10 [.int a1, .int a2, .int a3, .int a4, .int a5, .int 0, .int 0, .int 0, .ref q_1, .int 0] := by rw [eC_26]; exact up2_s _ _ _ _
  have hC_28 : C_26 27 x = eI (ty 0) 6 (fun _ => 0) := by rw [eC_26, up2_n _ _ (fun z => by omega)]; exact hC_25
  refine lv_aload_n hx hb dX9_init_39 rfl (lv_at hl 0 rfl) ?_
  refine lv_iload hx hb dX9_init_40 (lv_at hl 6 rfl) ?_
  refine mputF (v := .int a6) (ty := .int) hx hb hts hinX9 tyX9 tyX9_ok nmX9 hown hK hM hS hu_5 ha_7 hC_27 rfl 5 (by decide) (hk7) (fun _ h9 => h9) rfl hin9 rfl (by decide +kernel) rfl rfl (Nat.le_of_ble_eq_true rfl) dX9_init_42 (fun H locs hM hS ho => ?_)
  obtain ⟨C_29, eC_29⟩ : ∃ z, z = up2 C_26 26 x (eO 10 [.int a1, .int a2, .int a3, .int a4, .int a5, .int a6, .int 0, .int 0, .ref q_1, .int 0]) := ⟨_, rfl⟩
  have hM : mW D A u_2 C_29 ma_4 H := by rw [eC_29]; exact hM
  have hC_30 : C_29 26 x = eO 10 [.int a1, .int a2, .int a3, .int a4, .int a5, .int a6, .int 0, .int 0, .ref q_1, .int 0] := by rw [eC_29]; exact up2_s _ _ _ _
  have hC_31 : C_29 27 x = eI (ty 0) 6 (fun _ => 0) := by rw [eC_29, up2_n _ _ (fun z => by omega)]; exact hC_28
  refine lv_aload_n hx hb dX9_init_45 rfl (lv_at hl 0 rfl) ?_
  refine lv_iload hx hb dX9_init_46 (lv_at hl 7 rfl) ?_
  refine mputF (v := .int a7) (ty := .int) hx hb hts hinX9 tyX9 tyX9_ok nmX9 hown hK hM hS hu_5 ha_7 hC_30 rfl 6 (by decide) (hk8) (fun _ h9 => h9) rfl hin9 rfl (by decide +kernel) rfl rfl (Nat.le_of_ble_eq_true rfl) dX9_init_48 (fun H locs hM hS ho => ?_)
  obtain ⟨C_32, eC_32⟩ : ∃ z, z = up2 C_29 26 x (eO 10 [.int a1, .int a2, .int a3, .int a4, .int a5, .int a6, .int a7, .int 0, .ref q_1, .int 0]) := ⟨_, rfl⟩
  have hM : mW D A u_2 C_32 ma_4 H := by rw [eC_32]; exact hM
  have hC_33 : C_32 26 x = eO 10 [.int a1, .int a2, .int a3, .int a4, .int a5, .int a6, .int a7, .int 0, .ref q_1, .int 0] := by rw [eC_32]; exact up2_s _ _ _ _
  have hC_34 : C_32 27 x = eI (ty 0) 6 (fun _ => 0) := by rw [eC_32, up2_n _ _ (fun z => by omega)]; exact hC_31
  refine lv_aload_n hx hb dX9_init_51 rfl (lv_at hl 0 rfl) ?_
  refine lv_iload hx hb dX9_init_52 (lv_at hl 8 rfl) ?_
  refine mputF (v := .int a8) (ty := .int) hx hb hts hinX9 tyX9 tyX9_ok nmX9 hown hK hM hS hu_5 ha_7 hC_33 rfl 7 (by decide) (hk9) (fun _ h9 => h9) rfl hin9 rfl (by decide +kernel) rfl rfl (Nat.le_of_ble_eq_true rfl) dX9_init_54 (fun H locs hM hS ho => ?_)
  obtain ⟨C_35, eC_35⟩ : ∃ z, z = up2 C_32 26 x (eO 10 [.int a1, .int a2, .int a3, .int a4, .int a5, .int a6, .int a7, .int a8, .ref q_1, .int 0]) := ⟨_, rfl⟩
  have hM : mW D A u_2 C_35 ma_4 H := by rw [eC_35]; exact hM
  have hC_36 : C_35 26 x = eO 10 [.int a1, .int a2, .int a3, .int a4, .int a5, .int a6, .int a7, .int a8, .ref q_1, .int 0] := by rw [eC_35]; exact up2_s _ _ _ _
  have hC_37 : C_35 27 x = eI (ty 0) 6 (fun _ => 0) := by rw [eC_35, up2_n _ _ (fun z => by omega)]; exact hC_34
  exact W.vret hx hb hr (fun t ht hW => ⟨⟨(u_2, C_35, ma_4), rfl, ⟨q_1, by rw [eC_35, eC_32, eC_29, eC_26, eC_23, eC_20, eC_17, eC_14, eC_11, ema_4, eC_3, eu_2]; simp only [up2_2]⟩, mI_pre hM hK hMS hS t ht hW⟩, hS.F ht⟩) hS.2.2 dX9_init_57
