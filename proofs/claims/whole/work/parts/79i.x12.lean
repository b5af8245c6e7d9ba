set_option maxHeartbeats 4000000 in
set_option maxRecDepth 100000 in
theorem c_X12_init (l : Launch) (D : va_G) (ty : Nat → ClassId) (A : Nat → Prop) (u : Nat → Nat → Prop) (C : Nat → Nat → va_E) (ma : Nat → Nat → Nat) (t0 mi : Nat) (hu1 : u 0 0) (hC1 : C 0 0 = eO 13 [.int 0, .null, .null, .null, .null, .int 0]) : Met l yX12_init wsX12_init ({ frames := 4, cells := 4, slots := 12, locals := 80 }) (va_Pc [.ref (ma 0 0)] (mI D ty A u C ma t0 mi)) (va_Qv (fun S : mSt => S.2.2 0 0 = ma 0 0 ∧ (S.1 0 0 ∧ S.2.1 0 0 = eO 13 [.int 0, .ref (S.2.2 1 0), .ref (S.2.2 3 0), .ref (S.2.2 5 0), .ref (S.2.2 7 0), .int 0]) ∧ (S.1 1 0 ∧ S.2.1 1 0 = eO 0 [.int (nI 0), .ref t0, .int 0]) ∧ (S.1 3 0 ∧ S.2.1 3 0 = eO 0 [.int (nI 0), .ref t0, .int 0]) ∧ (S.1 5 0 ∧ S.2.1 5 0 = eO 0 [.int (nI 0), .ref t0, .int 0]) ∧ S.1 7 0 ∧ S.2.1 7 0 = eO 0 [.int (nI 0), .ref t0, .int 0]) (fun S t => mI D ty A S.1 S.2.1 S.2.2 t0 mi t) A) 4 12 A := by
  refine zMetI (cc := cX12_init) (maxL := 1) (ret := none) (by decide) rfl (Nat.le_of_ble_eq_true rfl) ?_
  intro p e s m below meth c hx hb hr hts hown hlocks hml hB hin9 ls hl
  obtain ⟨hM, hK, hMS⟩ := hB
  have hS : va_S A s.heap s.heap [] := va_S.rf
  have hl : lv_has ls 1 [(0, .ref (ma 0 0))] := hl
  have hinJx4a65c : ∀ w ∈ wsJx4a65c0, w ∈ wsX12_init := by decide +kernel
  have hinX12 : ∀ w ∈ wsX120, w ∈ wsX12_init := by decide +kernel
  have hk2 := hts (.fieldLink RX12 10 "DatamarketDeskModel" "sets" "Ljava/util/ArrayList;") (by decide +kernel)
  have hk3 := hts (.fieldLink RX12 16 "DatamarketDeskModel" "sources" "Ljava/util/ArrayList;") (by decide +kernel)
  have hk4 := hts (.fieldLink RX12 19 "DatamarketDeskModel" "contracts" "Ljava/util/ArrayList;") (by decide +kernel)
  have hk5 := hts (.fieldLink RX12 22 "DatamarketDeskModel" "reads" "Ljava/util/ArrayList;") (by decide +kernel)
  refine lv_aload_n hx hb dX12_init_0 rfl (lv_at hl 0 rfl) ?_
  refine W.objInit hx hb hown (hts (.methodLink RX12 1 objectInit) (by decide +kernel)) (hts (.instanceMethod objectInit) (by decide +kernel)) (hts (.code objectInit ⟨#[0xb1]⟩ 1 none) (by decide +kernel)) rfl (by rw [hml]; exact hl.1) rfl dX12_init_1 (Nat.le_of_ble_eq_true rfl) (Nat.le_of_ble_eq_true rfl) ?_
  refine W.eq (g2 := F0 m 4 ls []) rfl ?_
  refine lv_aload_n hx hb dX12_init_4 rfl (lv_at hl 0 rfl) ?_
  refine mnew (Cn := RJx4a65c) (T := TJx4a65c) (N := 3) (ci := 0) (fs := [.int 0, .null, .int 0]) hx hb hts hinJx4a65c tyJx4a65c tyJx4a65c_ok hown (hts (.classLink RX12 7 RJx4a65c) (by decide +kernel)) (hts (.instantiable RJx4a65c 3) (by decide +kernel)) (hts (.initialized RJx4a65c) (by decide +kernel)) hK hM hS 1 0 rfl (fun j hj => by rcases (show j = 0 ∨ j = 1 ∨ j = 2 by omega) with rfl | rfl | rfl <;> rfl) (Nat.le_of_ble_eq_true rfl) (Nat.le_of_ble_eq_true rfl) dX12_init_5 (fun H1 hM hS _ _ => ?_)
  generalize hq9 : Array.size s.heap = q_1 at hM ⊢
  clear hq9
  generalize H1 = H at hM hS ⊢
  obtain ⟨u_2, eu_2⟩ : ∃ z, z = upU u 1 0 := ⟨_, rfl⟩
  obtain ⟨C_3, eC_3⟩ : ∃ z, z = up2 C 1 0 (eO 0 [.int 0, .null, .int 0]) := ⟨_, rfl⟩
  obtain ⟨ma_4, ema_4⟩ : ∃ z, z = up2 ma 1 0 q_1 := ⟨_, rfl⟩
  have hM : mW D A u_2 C_3 ma_4 H := by rw [eu_2, eC_3, ema_4]; exact hM
  have hu_5 : u_2 0 0 := by rw [eu_2]; exact upU_o hu1
  have hC_6 : C_3 0 0 = eO 13 [.int 0, .null, .null, .null, .null, .int 0] := by rw [eC_3, up2_n _ _ (fun z => by omega)]; exact hC1
  have ha_7 : ma_4 0 0 = ma 0 0 := by rw [ema_4, up2_n _ _ (fun z => by omega)]
  have hu_8 : u_2 1 0 := by rw [eu_2]; exact upU_s
  have hC_9 : C_3 1 0 = eO 0 [.int 0, .null, .int 0] := by rw [eC_3]; exact up2_s _ _ _ _
  have ha_10 : ma_4 1 0 = q_1 := by rw [ema_4]; exact up2_s _ _ _ _
  refine lv_dup hx hb dX12_init_8 rfl ?_
  have h_12 := c_lst l D ty A u_2 C_3 ma_4 t0 mi 1 0 hu_8 hC_9
  rw [ha_10] at h_12
  refine va_callv (va_runI (As := []) (rest := [.ref q_1, .ref (ma 0 0)]) ⟨hx, hb, hml, hown, hts⟩ (h_12) (cwI 0 hts gX12_init_Jx4a65c_init_da8c8 rfl rfl rfl (hts (.initialized RJx4a65c) (by decide +kernel)) (hts (.methodLink RX12 9 yJx4a65c_init_da8c8) (by decide +kernel)) (hts (.instanceMethod yJx4a65c_init_da8c8) (by decide +kernel)) rfl (by decide +kernel) ⟨Nat.le_of_ble_eq_true rfl, Nat.le_of_ble_eq_true rfl⟩) ⟨zBl mI_blind, fun U h1 h2 => ⟨rfl, mI_pre hM hK hMS hS U h1 h2⟩⟩ rfl rfl hl.1 rfl (lv_room (Nat.le_of_ble_eq_true rfl)) dX12_init_9 ⟨Nat.le_of_ble_eq_true rfl, Nat.le_of_ble_eq_true rfl⟩) hS (fun _ _ h => h) (fun _ h => h) (fun Z_11 t H1 locs ht hvm hw hB9 hz1 hk1 hS => ?_)
  obtain ⟨hM, -, -⟩ := hB9
  rw [ht] at hM
  clear hk1 hz1 hvm ht
  clear t
  generalize H1 = H at hM hS ⊢
  rw [hw] at hM
  clear hw
  obtain ⟨C_13, eC_13⟩ : ∃ z, z = up2 C_3 1 0 (eO 0 [.int (nI 0), .ref t0, .int 0]) := ⟨_, rfl⟩
  have hM : mW D A u_2 C_13 ma_4 H := by rw [eC_13]; exact hM
  have hC_14 : C_13 0 0 = eO 13 [.int 0, .null, .null, .null, .null, .int 0] := by rw [eC_13, up2_n _ _ (fun z => by omega)]; exact hC_6
  have hC_15 : C_13 1 0 = eO 0 [.int (nI 0), .ref t0, .int 0] := by rw [eC_13]; exact up2_s _ _ _ _
  refine mputF (v := .ref q_1) (ty := .object "java/util/ArrayList") hx hb hts hinX12 tyX12 tyX12_ok nmX12 hown hK hM hS hu_5 ha_7 hC_14 rfl 1 (by decide) (hk2) (fun _ h9 => h9) rfl hin9 rfl (by decide +kernel) rfl rfl (Nat.le_of_ble_eq_true rfl) dX12_init_12 (fun H locs hM hS ho => ?_)
  obtain ⟨C_16, eC_16⟩ : ∃ z, z = up2 C_13 0 0 (eO 13 [.int 0, .ref q_1, .null, .null, .null, .int 0]) := ⟨_, rfl⟩
  have hM : mW D A u_2 C_16 ma_4 H := by rw [eC_16]; exact hM
  have hC_17 : C_16 0 0 = eO 13 [.int 0, .ref q_1, .null, .null, .null, .int 0] := by rw [eC_16]; exact up2_s _ _ _ _
  have hC_18 : C_16 1 0 = eO 0 [.int (nI 0), .ref t0, .int 0] := by rw [eC_16, up2_n _ _ (fun z => by omega)]; exact hC_15
  refine lv_aload_n hx hb dX12_init_15 rfl (lv_at hl 0 rfl) ?_
  refine mnew (Cn := RJx4a65c) (T := TJx4a65c) (N := 3) (ci := 0) (fs := [.int 0, .null, .int 0]) hx hb hts hinJx4a65c tyJx4a65c tyJx4a65c_ok hown (hts (.classLink RX12 7 RJx4a65c) (by decide +kernel)) (hts (.instantiable RJx4a65c 3) (by decide +kernel)) (hts (.initialized RJx4a65c) (by decide +kernel)) hK hM hS 3 0 rfl (fun j hj => by rcases (show j = 0 ∨ j = 1 ∨ j = 2 by omega) with rfl | rfl | rfl <;> rfl) (Nat.le_of_ble_eq_true rfl) (Nat.le_of_ble_eq_true rfl) dX12_init_16 (fun H1 hM hS _ _ => ?_)
  generalize hq9 : Array.size H = q_19 at hM ⊢
  clear hq9
  generalize H1 = H at hM hS ⊢
  obtain ⟨u_20, eu_20⟩ : ∃ z, z = upU u_2 3 0 := ⟨_, rfl⟩
  obtain ⟨C_21, eC_21⟩ : ∃ z, z = up2 C_16 3 0 (eO 0 [.int 0, .null, .int 0]) := ⟨_, rfl⟩
  obtain ⟨ma_22, ema_22⟩ : ∃ z, z = up2 ma_4 3 0 q_19 := ⟨_, rfl⟩
  have hM : mW D A u_20 C_21 ma_22 H := by rw [eu_20, eC_21, ema_22]; exact hM
  have hu_23 : u_20 0 0 := by rw [eu_20]; exact upU_o hu_5
  have hC_24 : C_21 0 0 = eO 13 [.int 0, .ref q_1, .null, .null, .null, .int 0] := by rw [eC_21, up2_n _ _ (fun z => by omega)]; exact hC_17
  have ha_25 : ma_22 0 0 = ma 0 0 := by rw [ema_22, up2_n _ _ (fun z => by omega)]; exact ha_7
  have hu_26 : u_20 1 0 := by rw [eu_20]; exact upU_o hu_8
  have hC_27 : C_21 1 0 = eO 0 [.int (nI 0), .ref t0, .int 0] := by rw [eC_21, up2_n _ _ (fun z => by omega)]; exact hC_18
  have ha_28 : ma_22 1 0 = q_1 := by rw [ema_22, up2_n _ _ (fun z => by omega)]; exact ha_10
  have hu_29 : u_20 3 0 := by rw [eu_20]; exact upU_s
  have hC_30 : C_21 3 0 = eO 0 [.int 0, .null, .int 0] := by rw [eC_21]; exact up2_s _ _ _ _
  have ha_31 : ma_22 3 0 = q_19 := by rw [ema_22]; exact up2_s _ _ _ _
  refine lv_dup hx hb dX12_init_19 rfl ?_
  have h_33 := c_lst l D ty A u_20 C_21 ma_22 t0 mi 3 0 hu_29 hC_30
  rw [ha_31] at h_33
  refine va_callv (va_runI (As := []) (rest := [.ref q_19, .ref (ma 0 0)]) ⟨hx, hb, hml, hown, hts⟩ (h_33) (cwI 0 hts gX12_init_Jx4a65c_init_da8c8 rfl rfl rfl (hts (.initialized RJx4a65c) (by decide +kernel)) (hts (.methodLink RX12 9 yJx4a65c_init_da8c8) (by decide +kernel)) (hts (.instanceMethod yJx4a65c_init_da8c8) (by decide +kernel)) rfl (by decide +kernel) ⟨Nat.le_of_ble_eq_true rfl, Nat.le_of_ble_eq_true rfl⟩) ⟨zBl mI_blind, fun U h1 h2 => ⟨rfl, mI_pre hM hK hMS hS U h1 h2⟩⟩ rfl rfl hl.1 rfl (lv_room (Nat.le_of_ble_eq_true rfl)) dX12_init_20 ⟨Nat.le_of_ble_eq_true rfl, Nat.le_of_ble_eq_true rfl⟩) hS (fun _ _ h => h) (fun _ h => h) (fun Z_32 t H1 locs ht hvm hw hB9 hz1 hk1 hS => ?_)
  obtain ⟨hM, -, -⟩ := hB9
  rw [ht] at hM
  clear hk1 hz1 hvm ht
  clear t
  generalize H1 = H at hM hS ⊢
  rw [hw] at hM
  clear hw
  obtain ⟨C_34, eC_34⟩ : ∃ z, z = up2 C_21 3 0 (eO 0 [.int (nI 0), .ref t0, .int 0]) := ⟨_, rfl⟩
  have hM : mW D A u_20 C_34 ma_22 H := by rw [eC_34]; exact hM
  have hC_35 : C_34 0 0 = eO 13 [.int 0, .ref q_1, .null, .null, .null, .int 0] := by rw [eC_34, up2_n _ _ (fun z => by omega)]; exact hC_24
  have hC_36 : C_34 1 0 = eO 0 [.int (nI 0), .ref t0, .int 0] := by rw [eC_34, up2_n _ _ (fun z => by omega)]; exact hC_27
  have hC_37 : C_34 3 0 = eO 0 [.int (nI 0), .ref t0, .int 0] := by rw [eC_34]; exact up2_s _ _ _ _
  refine mputF (v := .ref q_19) (ty := .object "java/util/ArrayList") hx hb hts hinX12 tyX12 tyX12_ok nmX12 hown hK hM hS hu_23 ha_25 hC_35 rfl 2 (by decide) (hk3) (fun _ h9 => h9) rfl hin9 rfl (by decide +kernel) rfl rfl (Nat.le_of_ble_eq_true rfl) dX12_init_23 (fun H locs hM hS ho => ?_)
  obtain ⟨C_38, eC_38⟩ : ∃ z, z = up2 C_34 0 0 (eO 13 [.int 0, .ref q_1, .ref q_19, .null, .null, .int 0]) := ⟨_, rfl⟩
  have hM : mW D A u_20 C_38 ma_22 H := by rw [eC_38]; exact hM
  have hC_39 : C_38 0 0 = eO 13 [.int 0, .ref q_1, .ref q_19, .null, .null, .int 0] := by rw [eC_38]; exact up2_s _ _ _ _
  have hC_40 : C_38 1 0 = eO 0 [.int (nI 0), .ref t0, .int 0] := by rw [eC_38, up2_n _ _ (fun z => by omega)]; exact hC_36
  have hC_41 : C_38 3 0 = eO 0 [.int (nI 0), .ref t0, .int 0] := by rw [eC_38, up2_n _ _ (fun z => by omega)]; exact hC_37
  refine lv_aload_n hx hb dX12_init_26 rfl (lv_at hl 0 rfl) ?_
  refine mnew (Cn := RJx4a65c) (T := TJx4a65c) (N := 3) (ci := 0) (fs := [.int 0, .null, .int 0]) hx hb hts hinJx4a65c tyJx4a65c tyJx4a65c_ok hown (hts (.classLink RX12 7 RJx4a65c) (by decide +kernel)) (hts (.instantiable RJx4a65c 3) (by decide +kernel)) (hts (.initialized RJx4a65c) (by decide +kernel)) hK hM hS 5 0 rfl (fun j hj => by rcases (show j = 0 ∨ j = 1 ∨ j = 2 by omega) with rfl | rfl | rfl <;> rfl) (Nat.le_of_ble_eq_true rfl) (Nat.le_of_ble_eq_true rfl) dX12_init_27 (fun H1 hM hS _ _ => ?_)
  generalize hq9 : Array.size H = q_42 at hM ⊢
  clear hq9
  generalize H1 = H at hM hS ⊢
  obtain ⟨u_43, eu_43⟩ : ∃ z, z = upU u_20 5 0 := ⟨_, rfl⟩
  obtain ⟨C_44, eC_44⟩ : ∃ z, z = up2 C_38 5 0 (eO 0 [.int 0, .null, .int 0]) := ⟨_, rfl⟩
  obtain ⟨ma_45, ema_45⟩ : ∃ z, z = up2 ma_22 5 0 q_42 := ⟨_, rfl⟩
  have hM : mW D A u_43 C_44 ma_45 H := by rw [eu_43, eC_44, ema_45]; exact hM
  have hu_46 : u_43 0 0 := by rw [eu_43]; exact upU_o hu_23
  have hC_47 : C_44 0 0 = eO 13 [.int 0, .ref q_1, .ref q_19, .null, .null, .int 0] := by rw [eC_44, up2_n _ _ (fun z => by omega)]; exact hC_39
  have ha_48 : ma_45 0 0 = ma 0 0 := by rw [ema_45, up2_n _ _ (fun z => by omega)]; exact ha_25
  have hu_49 : u_43 1 0 := by rw [eu_43]; exact upU_o hu_26
  have hC_50 : C_44 1 0 = eO 0 [.int (nI 0), .ref t0, .int 0] := by rw [eC_44, up2_n _ _ (fun z => by omega)]; exact hC_40
  have ha_51 : ma_45 1 0 = q_1 := by rw [ema_45, up2_n _ _ (fun z => by omega)]; exact ha_28
  have hu_52 : u_43 3 0 := by rw [eu_43]; exact upU_o hu_29
  have hC_53 : C_44 3 0 = eO 0 [.int (nI 0), .ref t0, .int 0] := by rw [eC_44, up2_n _ _ (fun z => by omega)]; exact hC_41
  have ha_54 : ma_45 3 0 = q_19 := by rw [ema_45, up2_n _ _ (fun z => by omega)]; exact ha_31
  have hu_55 : u_43 5 0 := by rw [eu_43]; exact upU_s
  have hC_56 : C_44 5 0 = eO 0 [.int 0, .null, .int 0] := by rw [eC_44]; exact up2_s _ _ _ _
  have ha_57 : ma_45 5 0 = q_42 := by rw [ema_45]; exact up2_s _ _ _ _
  refine lv_dup hx hb dX12_init_30 rfl ?_
  have h_59 := c_lst l D ty A u_43 C_44 ma_45 t0 mi 5 0 hu_55 hC_56
  rw [ha_57] at h_59
  refine va_callv (va_runI (As := []) (rest := [.ref q_42, .ref (ma 0 0)]) ⟨hx, hb, hml, hown, hts⟩ (h_59) (cwI 0 hts gX12_init_Jx4a65c_init_da8c8 rfl rfl rfl (hts (.initialized RJx4a65c) (by decide +kernel)) (hts (.methodLink RX12 9 yJx4a65c_init_da8c8) (by decide +kernel)) (hts (.instanceMethod yJx4a65c_init_da8c8) (by decide +kernel)) rfl (by decide +kernel) ⟨Nat.le_of_ble_eq_true rfl, Nat.le_of_ble_eq_true rfl⟩) ⟨zBl mI_blind, fun U h1 h2 => ⟨rfl, mI_pre hM hK hMS hS U h1 h2⟩⟩ rfl rfl hl.1 rfl (lv_room (Nat.le_of_ble_eq_true rfl)) dX12_init_31 ⟨Nat.le_of_ble_eq_true rfl, Nat.le_of_ble_eq_true rfl⟩) hS (fun _ _ h => h) (fun _ h => h) (fun Z_58 t H1 locs ht hvm hw hB9 hz1 hk1 hS => ?_)
  obtain ⟨hM, -, -⟩ := hB9
  rw [ht] at hM
  clear hk1 hz1 hvm ht
  clear t
  generalize H1 = H at hM hS ⊢
  rw [hw] at hM
  clear hw
  obtain ⟨C_60, eC_60⟩ : ∃ z, z = up2 C_44 5 0 (eO 0 [.int (nI 0), .ref t0, .int 0]) := ⟨_, rfl⟩
  have hM : mW D A u_43 C_60 ma_45 H := by rw [eC_60]; exact hM
  have hC_61 : C_60 0 0 = eO 13 [.int 0, .ref q_1, .ref q_19, .null, .null, .int 0] := by rw [eC_60, up2_n _ _ (fun z => by omega)]; exact hC_47
  have hC_62 : C_60 1 0 = eO 0 [.int (nI 0), .ref t0, .int 0] := by rw [eC_60, up2_n _ _ (fun z => by omega)]; exact hC_50
  have hC_63 : C_60 3 0 = eO 0 [.int (nI 0), .ref t0, .int 0] := by rw [eC_60, up2_n _ _ (fun z => by omega)]; exact hC_53
  have hC_64 : C_60 5 0 = eO 0 [.int (nI 0), .ref t0, .int 0] := by rw [eC_60]; exact up2_s _ _ _ _
  refine mputF (v := .ref q_42) (ty := .object "java/util/ArrayList") hx hb hts hinX12 tyX12 tyX12_ok nmX12 hown hK hM hS hu_46 ha_48 hC_61 rfl 3 (by decide) (hk4) (fun _ h9 => h9) rfl hin9 rfl (by decide +kernel) rfl rfl (Nat.le_of_ble_eq_true rfl) dX12_init_34 (fun H locs hM hS ho => ?_)
  obtain ⟨C_65, eC_65⟩ : ∃ z, z = up2 C_60 0 0 (eO 13 [.int 0, .ref q_1, .ref q_19, .ref q_42, .null, .int 0]) := ⟨_, rfl⟩
  have hM : mW D A u_43 C_65 ma_45 H := by rw [eC_65]; exact hM
  have hC_66 : C_65 0 0 = eO 13 [.int 0, .ref q_1, .ref q_19, .ref q_42, .null, .int 0] := by rw [eC_65]; exact up2_s _ _ _ _
  have hC_67 : C_65 1 0 = eO 0 [.int (nI 0), .ref t0, .int 0] := by rw [eC_65, up2_n _ _ (fun z => by omega)]; exact hC_62
  have hC_68 : C_65 3 0 = eO 0 [.int (nI 0), .ref t0, .int 0] := by rw [eC_65, up2_n _ _ (fun z => by omega)]; exact hC_63
  have hC_69 : C_65 5 0 = eO 0 [.int (nI 0), .ref t0, .int 0] := by rw [eC_65, up2_n _ _ (fun z => by omega)]; exact hC_64
  refine lv_aload_n hx hb dX12_init_37 rfl (lv_at hl 0 rfl) ?_
  refine mnew (Cn := RJx4a65c) (T := TJx4a65c) (N := 3) (ci := 0) (fs := [.int 0, .null, .int 0]) hx hb hts hinJx4a65c tyJx4a65c tyJx4a65c_ok hown (hts (.classLink RX12 7 RJx4a65c) (by decide +kernel)) (hts (.instantiable RJx4a65c 3) (by decide +kernel)) (hts (.initialized RJx4a65c) (by decide +kernel)) hK hM hS 7 0 rfl (fun j hj => by rcases (show j = 0 ∨ j = 1 ∨ j = 2 by omega) with rfl | rfl | rfl <;> rfl) (Nat.le_of_ble_eq_true rfl) (Nat.le_of_ble_eq_true rfl) dX12_init_38 (fun H1 hM hS _ _ => ?_)
  generalize hq9 : Array.size H = q_70 at hM ⊢
  clear hq9
  generalize H1 = H at hM hS ⊢
  obtain ⟨u_71, eu_71⟩ : ∃ z, z = upU u_43 7 0 := ⟨_, rfl⟩
  obtain ⟨C_72, eC_72⟩ : ∃ z, z = up2 C_65 7 0 (eO 0 [.int 0, .null, .int 0]) := ⟨_, rfl⟩
  obtain ⟨ma_73, ema_73⟩ : ∃ z, z = up2 ma_45 7 0 q_70 := ⟨_, rfl⟩
  have hM : mW D A u_71 C_72 ma_73 H := by rw [eu_71, eC_72, ema_73]; exact hM
  have hu_74 : u_71 0 0 := by rw [eu_71]; exact upU_o hu_46
  have hC_75 : C_72 0 0 = eO 13 [.int 0, .ref q_1, .ref q_19, .ref q_42, .null, .int 0] := by rw [eC_72, up2_n _ _ (fun z => by omega)]; exact hC_66
  have ha_76 : ma_73 0 0 = ma 0 0 := by rw [ema_73, up2_n _ _ (fun z => by omega)]; exact ha_48
  have hu_77 : u_71 1 0 := by rw [eu_71]; exact upU_o hu_49
  have hC_78 : C_72 1 0 = eO 0 [.int (nI 0), .ref t0, .int 0] := by rw [eC_72, up2_n _ _ (fun z => by omega)]; exact hC_67
  have ha_79 : ma_73 1 0 = q_1 := by rw [ema_73, up2_n _ _ (fun z => by omega)]; exact ha_51
  have hu_80 : u_71 3 0 := by rw [eu_71]; exact upU_o hu_52
  have hC_81 : C_72 3 0 = eO 0 [.int (nI 0), .ref t0, .int 0] := by rw [eC_72, up2_n _ _ (fun z => by omega)]; exact hC_68
  have ha_82 : ma_73 3 0 = q_19 := by rw [ema_73, up2_n _ _ (fun z => by omega)]; exact ha_54
  have hu_83 : u_71 5 0 := by rw [eu_71]; exact upU_o hu_55
  have hC_84 : C_72 5 0 = eO 0 [.int (nI 0), .ref t0, .int 0] := by rw [eC_72, up2_n _ _ (fun z => by omega)]; exact hC_69
  have ha_85 : ma_73 5 0 = q_42 := by rw [ema_73, up2_n _ _ (fun z => by omega)]; exact ha_57
  have hu_86 : u_71 7 0 := by rw [eu_71]; exact upU_s
  have hC_87 : C_72 7 0 = eO 0 [.int 0, .null, .int 0] := by rw [eC_72]; exact up2_s _ _ _ _
  have ha_88 : ma_73 7 0 = q_70 := by rw [ema_73]; exact up2_s _ _ _ _
  refine lv_dup hx hb dX12_init_41 rfl ?_
  have h_90 := c_lst l D ty A u_71 C_72 ma_73 t0 mi 7 0 hu_86 hC_87
  rw [ha_88] at h_90
  refine va_callv (va_runI (As := []) (rest := [.ref q_70, .ref (ma 0 0)]) ⟨hx, hb, hml, hown, hts⟩ (h_90) (cwI 0 hts gX12_init_Jx4a65c_init_da8c8 rfl rfl rfl (hts (.initialized RJx4a65c) (by decide +kernel)) (hts (.methodLink RX12 9 yJx4a65c_init_da8c8) (by decide +kernel)) (hts (.instanceMethod yJx4a65c_init_da8c8) (by decide +kernel)) rfl (by decide +kernel) ⟨Nat.le_of_ble_eq_true rfl, Nat.le_of_ble_eq_true rfl⟩) ⟨zBl mI_blind, fun U h1 h2 => ⟨rfl, mI_pre hM hK hMS hS U h1 h2⟩⟩ rfl rfl hl.1 rfl (lv_room (Nat.le_of_ble_eq_true rfl)) dX12_init_42 ⟨Nat.le_of_ble_eq_true rfl, Nat.le_of_ble_eq_true rfl⟩) hS (fun _ _ h => h) (fun _ h => h) (fun Z_89 t H1 locs ht hvm hw hB9 hz1 hk1 hS => ?_)
  obtain ⟨hM, -, -⟩ := hB9
  rw [ht] at hM
  clear hk1 hz1 hvm ht
  clear t
  generalize H1 = H at hM hS ⊢
  rw [hw] at hM
  clear hw
  obtain ⟨C_91, eC_91⟩ : ∃ z, z = up2 C_72 7 0 (eO 0 [.int (nI 0), .ref t0, .int 0]) := ⟨_, rfl⟩
  have hM : mW D A u_71 C_91 ma_73 H := by rw [eC_91]; exact hM
  have hC_92 : C_91 0 0 = eO 13 [.int 0, .ref q_1, .ref q_19, .ref q_42, .null, .int 0] := by rw [eC_91, up2_n _ _ (fun z => by omega)]; exact hC_75
  have hC_93 : C_91 1 0 = eO 0 [.int (nI 0), .ref t0, .int 0] := by rw [eC_91, up2_n _ _ (fun z => by omega)]; exact hC_78
  have hC_94 : C_91 3 0 = eO 0 [.int (nI 0), .ref t0, .int 0] := by rw [eC_91, up2_n _ _ (fun z => by omega)]; exact hC_81
  have hC_95 : C_91 5 0 = eO 0 [.int (nI 0), .ref t0, .int 0] := by rw [eC_91, up2_n _ _ (fun z => by omega)]; exact hC_84
  have hC_96 : C_91 7 0 = eO 0 [.int (nI 0), .ref t0, .int 0] := by rw [eC_91]; exact up2_s _ _ _ _
  refine mputF (v := .ref q_70) (ty := .object "java/util/ArrayList") hx hb hts hinX12 tyX12 tyX12_ok nmX12 hown hK hM hS hu_74 ha_76 hC_92 rfl 4 (by decide) (hk5) (fun _ h9 => h9) rfl hin9 rfl (by decide +kernel) rfl rfl (Nat.le_of_ble_eq_true rfl) dX12_init_45 (fun H locs hM hS ho => ?_)
  obtain ⟨C_97, eC_97⟩ : ∃ z, z = up2 C_91 0 0 (eO 13 [.int 0, .ref q_1, .ref q_19, .ref q_42, .ref q_70, .int 0]) := ⟨_, rfl⟩
  have hM : mW D A u_71 C_97 ma_73 H := by rw [eC_97]; exact hM
  have hC_98 : C_97 0 0 = eO 13 [.int 0, .ref q_1, .ref q_19, .ref q_42, .ref q_70, .int 0] := by rw [eC_97]; exact up2_s _ _ _ _
  have hC_99 : C_97 1 0 = eO 0 [.int (nI 0), .ref t0, .int 0] := by rw [eC_97, up2_n _ _ (fun z => by omega)]; exact hC_93
  have hC_100 : C_97 3 0 = eO 0 [.int (nI 0), .ref t0, .int 0] := by rw [eC_97, up2_n _ _ (fun z => by omega)]; exact hC_94
  have hC_101 : C_97 5 0 = eO 0 [.int (nI 0), .ref t0, .int 0] := by rw [eC_97, up2_n _ _ (fun z => by omega)]; exact hC_95
  have hC_102 : C_97 7 0 = eO 0 [.int (nI 0), .ref t0, .int 0] := by rw [eC_97, up2_n _ _ (fun z => by omega)]; exact hC_96
  exact W.vret hx hb hr (fun t ht hW => ⟨⟨(u_71, C_97, ma_73), rfl, ⟨ha_76, ⟨hu_74, by show C_97 0 0 = _; rw [show (u_71, C_97, ma_73).2.2 1 0 = _ from ha_79, show (u_71, C_97, ma_73).2.2 3 0 = _ from ha_82, show (u_71, C_97, ma_73).2.2 5 0 = _ from ha_85, show (u_71, C_97, ma_73).2.2 7 0 = _ from ha_88]; exact hC_98⟩, ⟨hu_77, hC_99⟩, ⟨hu_80, hC_100⟩, ⟨hu_83, hC_101⟩, hu_86, hC_102⟩, mI_pre hM hK hMS hS t ht hW⟩, hS.F ht⟩) hS.2.2 dX12_init_48
