set_option maxHeartbeats 4000000 in
set_option maxRecDepth 100000 in
theorem c_X7_init (l : Launch) (D : va_G) (ty : Nat → ClassId) (A : Nat → Prop) (u : Nat → Nat → Prop) (C : Nat → Nat → va_E) (ma : Nat → Nat → Nat) (t0 mi : Nat) (x : Nat) (hu1 : u 9 x) (hC1 : C 9 x = eO 8 [.int 0, .null, .null, .null, .null]) (a1 : Int32) : Met l yX7_init wsX7_init ({ frames := 4, cells := 4, slots := 21, locals := 80 }) (va_Pc [.ref (ma 9 x), .int a1] (mI D ty A u C ma t0 mi)) (va_Qv (fun S : mSt => (∀ k9 x9, u k9 x9 → S.1 k9 x9) ∧ (∀ k9 x9, ¬ (x9 = x ∧ (k9 = 9 ∨ k9 = 10 ∨ k9 = 11 ∨ k9 = 12 ∨ k9 = 14)) → S.2.1 k9 x9 = C k9 x9) ∧ (∀ k9 x9, ¬ (x9 = x ∧ (k9 = 10 ∨ k9 = 11 ∨ k9 = 12 ∨ k9 = 14)) → S.2.2 k9 x9 = ma k9 x9) ∧ (S.1 9 x ∧ S.2.1 9 x = eO 8 [.int a1, .ref (S.2.2 10 x), .ref (S.2.2 11 x), .ref (S.2.2 12 x), .ref (S.2.2 14 x)]) ∧ (S.1 10 x ∧ S.2.1 10 x = eI (ty 0) 6 (row6 (fun _ => nI 10) 0)) ∧ (S.1 11 x ∧ S.2.1 11 x = eI (ty 0) 6 (row6 (fun _ => nI 1000) 0)) ∧ (S.1 12 x ∧ S.2.1 12 x = eO 0 [.int (nI 0), .ref t0, .int 0]) ∧ S.1 14 x ∧ S.2.1 14 x = eI (ty 0) 6 (fun _ => 0)) (fun S t => mI D ty A S.1 S.2.1 S.2.2 t0 mi t) A) 4 21 A := by
  refine zMetI (cc := cX7_init) (maxL := 3) (ret := none) (by decide) rfl (Nat.le_of_ble_eq_true rfl) ?_
  intro p e s m below meth c hx hb hr hts hown hlocks hml hB hin9 ls hl
  obtain ⟨hM, hK, hMS⟩ := hB
  have hS : va_S A s.heap s.heap [] := va_S.rf
  have hl : lv_has ls 3 [(0, .ref (ma 9 x)), (1, .int a1)] := hl
  have hinX7 : ∀ w ∈ wsX70, w ∈ wsX7_init := by decide +kernel
  have hk1 := hts (.fieldLink RX7 9 "DatamarketDeskModel$DataSet" "prices" "[I") (by decide +kernel)
  have hk2 := hts (.fieldLink RX7 15 "DatamarketDeskModel$DataSet" "rules" "[I") (by decide +kernel)
  have hinJx4a65c : ∀ w ∈ wsJx4a65c0, w ∈ wsX7_init := by decide +kernel
  have hk4 := hts (.fieldLink RX7 21 "DatamarketDeskModel$DataSet" "versions" "Ljava/util/ArrayList;") (by decide +kernel)
  have hk5 := hts (.fieldLink RX7 25 "DatamarketDeskModel$DataSet" "previewed" "[I") (by decide +kernel)
  have hk6 := hts (.fieldLink RX7 28 "DatamarketDeskModel$DataSet" "fields" "I") (by decide +kernel)
  refine lv_aload_n hx hb dX7_init_0 rfl (lv_at hl 0 rfl) ?_
  refine W.objInit hx hb hown (hts (.methodLink RX7 3 objectInit) (by decide +kernel)) (hts (.instanceMethod objectInit) (by decide +kernel)) (hts (.code objectInit ⟨#[0xb1]⟩ 1 none) (by decide +kernel)) rfl (by rw [hml]; exact hl.1) rfl dX7_init_1 (Nat.le_of_ble_eq_true rfl) (Nat.le_of_ble_eq_true rfl) ?_
  refine W.eq (g2 := F0 m 4 ls []) rfl ?_
  refine lv_aload_n hx hb dX7_init_4 rfl (lv_at hl 0 rfl) ?_
  refine lv_bipush (v := nI 6) hx hb dX7_init_5 (by decide) ?_
  refine mnewa hx hb (hts (.arrayClass .int) (by decide +kernel)) hK hM hS 10 x (n := 6) (N' := 6) (by decide) rfl (by decide) (Nat.le_of_ble_eq_true rfl) (Nat.le_of_ble_eq_true rfl) dX7_init_7 (fun H1 hM hS _ _ => ?_)
  generalize hq9 : Array.size s.heap = q_1 at hM ⊢
  clear hq9
  generalize H1 = H at hM hS ⊢
  obtain ⟨u_2, eu_2⟩ : ∃ z, z = upU u 10 x := ⟨_, rfl⟩
  obtain ⟨C_3, eC_3⟩ : ∃ z, z = up2 C 10 x (eI (ty 0) 6 (fun _ => 0)) := ⟨_, rfl⟩
  obtain ⟨ma_4, ema_4⟩ : ∃ z, z = up2 ma 10 x q_1 := ⟨_, rfl⟩
  have hM : mW D A u_2 C_3 ma_4 H := by rw [eu_2, eC_3, ema_4]; exact hM
  have hu_5 : u_2 9 x := by rw [eu_2]; exact upU_o hu1
  have hC_6 : C_3 9 x = eO 8 [.int 0, .null, .null, .null, .null] := by rw [eC_3, up2_n _ _ (fun z => by omega)]; exact hC1
  have ha_7 : ma_4 9 x = ma 9 x := by rw [ema_4, up2_n _ _ (fun z => by omega)]
  have hu_8 : u_2 10 x := by rw [eu_2]; exact upU_s
  have hC_9 : C_3 10 x = eI (ty 0) 6 (fun _ => 0) := by rw [eC_3]; exact up2_s _ _ _ _
  have ha_10 : ma_4 10 x = q_1 := by rw [ema_4]; exact up2_s _ _ _ _
  refine mputF (v := .ref q_1) (ty := .array .int) hx hb hts hinX7 tyX7 tyX7_ok nmX7 hown hK hM hS hu_5 ha_7 hC_6 rfl 1 (by decide) (hk1) (fun _ h9 => h9) rfl hin9 rfl (by decide +kernel) rfl rfl (Nat.le_of_ble_eq_true rfl) dX7_init_9 (fun H locs hM hS ho => ?_)
  obtain ⟨C_11, eC_11⟩ : ∃ z, z = up2 C_3 9 x (eO 8 [.int 0, .ref q_1, .null, .null, .null]) := ⟨_, rfl⟩
  have hM : mW D A u_2 C_11 ma_4 H := by rw [eC_11]; exact hM
  have hC_12 : C_11 9 x = eO 8 [.int 0, .ref q_1, .null, .null, .null] := by rw [eC_11]; exact up2_s _ _ _ _
  have hC_13 : C_11 10 x = eI (ty 0) 6 (fun _ => 0) := by rw [eC_11, up2_n _ _ (fun z => by omega)]; exact hC_9
  refine lv_aload_n hx hb dX7_init_12 rfl (lv_at hl 0 rfl) ?_
  refine lv_bipush (v := nI 6) hx hb dX7_init_13 (by decide) ?_
  refine mnewa hx hb (hts (.arrayClass .int) (by decide +kernel)) hK hM hS 11 x (n := 6) (N' := 6) (by decide) rfl (by decide) (Nat.le_of_ble_eq_true rfl) (Nat.le_of_ble_eq_true rfl) dX7_init_15 (fun H1 hM hS _ _ => ?_)
  generalize hq9 : Array.size H = q_14 at hM ⊢
  clear hq9
  generalize H1 = H at hM hS ⊢
  obtain ⟨u_15, eu_15⟩ : ∃ z, z = upU u_2 11 x := ⟨_, rfl⟩
  obtain ⟨C_16, eC_16⟩ : ∃ z, z = up2 C_11 11 x (eI (ty 0) 6 (fun _ => 0)) := ⟨_, rfl⟩
  obtain ⟨ma_17, ema_17⟩ : ∃ z, z = up2 ma_4 11 x q_14 := ⟨_, rfl⟩
  have hM : mW D A u_15 C_16 ma_17 H := by rw [eu_15, eC_16, ema_17]; exact hM
  have hu_18 : u_15 9 x := by rw [eu_15]; exact upU_o hu_5
  have hC_19 : C_16 9 x = eO 8 [.int 0, .ref q_1, .null, .null, .null] := by rw [eC_16, up2_n _ _ (fun z => by omega)]; exact hC_12
  have ha_20 : ma_17 9 x = ma 9 x := by rw [ema_17, up2_n _ _ (fun z => by omega)]; exact ha_7
  have hu_21 : u_15 10 x := by rw [eu_15]; exact upU_o hu_8
  have hC_22 : C_16 10 x = eI (ty 0) 6 (fun _ => 0) := by rw [eC_16, up2_n _ _ (fun z => by omega)]; exact hC_13
  have ha_23 : ma_17 10 x = q_1 := by rw [ema_17, up2_n _ _ (fun z => by omega)]; exact ha_10
  have hu_24 : u_15 11 x := by rw [eu_15]; exact upU_s
  have hC_25 : C_16 11 x = eI (ty 0) 6 (fun _ => 0) := by rw [eC_16]; exact up2_s _ _ _ _
  have ha_26 : ma_17 11 x = q_14 := by rw [ema_17]; exact up2_s _ _ _ _
  refine mputF (v := .ref q_14) (ty := .array .int) hx hb hts hinX7 tyX7 tyX7_ok nmX7 hown hK hM hS hu_18 ha_20 hC_19 rfl 2 (by decide) (hk2) (fun _ h9 => h9) rfl hin9 rfl (by decide +kernel) rfl rfl (Nat.le_of_ble_eq_true rfl) dX7_init_17 (fun H locs hM hS ho => ?_)
  obtain ⟨C_27, eC_27⟩ : ∃ z, z = up2 C_16 9 x (eO 8 [.int 0, .ref q_1, .ref q_14, .null, .null]) := ⟨_, rfl⟩
  have hM : mW D A u_15 C_27 ma_17 H := by rw [eC_27]; exact hM
  have hC_28 : C_27 9 x = eO 8 [.int 0, .ref q_1, .ref q_14, .null, .null] := by rw [eC_27]; exact up2_s _ _ _ _
  have hC_29 : C_27 10 x = eI (ty 0) 6 (fun _ => 0) := by rw [eC_27, up2_n _ _ (fun z => by omega)]; exact hC_22
  have hC_30 : C_27 11 x = eI (ty 0) 6 (fun _ => 0) := by rw [eC_27, up2_n _ _ (fun z => by omega)]; exact hC_25
  refine lv_aload_n hx hb dX7_init_20 rfl (lv_at hl 0 rfl) ?_
  refine mnew (Cn := RJx4a65c) (T := TJx4a65c) (N := 3) (ci := 0) (fs := [.int 0, .null, .int 0]) hx hb hts hinJx4a65c tyJx4a65c tyJx4a65c_ok hown (hts (.classLink RX7 18 RJx4a65c) (by decide +kernel)) (hts (.instantiable RJx4a65c 3) (by decide +kernel)) (hts (.initialized RJx4a65c) (by decide +kernel)) hK hM hS 12 x rfl (fun j hj => by rcases (show j = 0 ∨ j = 1 ∨ j = 2 by omega) with rfl | rfl | rfl <;> rfl) (Nat.le_of_ble_eq_true rfl) (Nat.le_of_ble_eq_true rfl) dX7_init_21 (fun H1 hM hS _ _ => ?_)
  generalize hq9 : Array.size H = q_31 at hM ⊢
  clear hq9
  generalize H1 = H at hM hS ⊢
  obtain ⟨u_32, eu_32⟩ : ∃ z, z = upU u_15 12 x := ⟨_, rfl⟩
  obtain ⟨C_33, eC_33⟩ : ∃ z, z = up2 C_27 12 x (eO 0 [.int 0, .null, .int 0]) := ⟨_, rfl⟩
  obtain ⟨ma_34, ema_34⟩ : ∃ z, z = up2 ma_17 12 x q_31 := ⟨_, rfl⟩
  have hM : mW D A u_32 C_33 ma_34 H := by rw [eu_32, eC_33, ema_34]; exact hM
  have hu_35 : u_32 9 x := by rw [eu_32]; exact upU_o hu_18
  have hC_36 : C_33 9 x = eO 8 [.int 0, .ref q_1, .ref q_14, .null, .null] := by rw [eC_33, up2_n _ _ (fun z => by omega)]; exact hC_28
  have ha_37 : ma_34 9 x = ma 9 x := by rw [ema_34, up2_n _ _ (fun z => by omega)]; exact ha_20
  have hu_38 : u_32 10 x := by rw [eu_32]; exact upU_o hu_21
  have hC_39 : C_33 10 x = eI (ty 0) 6 (fun _ => 0) := by rw [eC_33, up2_n _ _ (fun z => by omega)]; exact hC_29
  have ha_40 : ma_34 10 x = q_1 := by rw [ema_34, up2_n _ _ (fun z => by omega)]; exact ha_23
  have hu_41 : u_32 11 x := by rw [eu_32]; exact upU_o hu_24
  have hC_42 : C_33 11 x = eI (ty 0) 6 (fun _ => 0) := by rw [eC_33, up2_n _ _ (fun z => by omega)]; exact hC_30
  have ha_43 : ma_34 11 x = q_14 := by rw [ema_34, up2_n _ _ (fun z => by omega)]; exact ha_26
  have hu_44 : u_32 12 x := by rw [eu_32]; exact upU_s
  have hC_45 : C_33 12 x = eO 0 [.int 0, .null, .int 0] := by rw [eC_33]; exact up2_s _ _ _ _
  have ha_46 : ma_34 12 x = q_31 := by rw [ema_34]; exact up2_s _ _ _ _
  refine lv_dup hx hb dX7_init_24 rfl ?_
  have h_48 := c_lst l D ty A u_32 C_33 ma_34 t0 mi 12 x hu_44 hC_45
  rw [ha_46] at h_48
  refine va_callv (va_runI (As := []) (rest := [.ref q_31, .ref (ma 9 x)]) ⟨hx, hb, hml, hown, hts⟩ (h_48) (cwI 0 hts gX7_init_Jx4a65c_init_da8c8 rfl rfl rfl (hts (.initialized RJx4a65c) (by decide +kernel)) (hts (.methodLink RX7 20 yJx4a65c_init_da8c8) (by decide +kernel)) (hts (.instanceMethod yJx4a65c_init_da8c8) (by decide +kernel)) rfl (by decide +kernel) ⟨Nat.le_of_ble_eq_true rfl, Nat.le_of_ble_eq_true rfl⟩) ⟨zBl mI_blind, fun U h1 h2 => ⟨rfl, mI_pre hM hK hMS hS U h1 h2⟩⟩ rfl rfl hl.1 rfl (lv_room (Nat.le_of_ble_eq_true rfl)) dX7_init_25 ⟨Nat.le_of_ble_eq_true rfl, Nat.le_of_ble_eq_true rfl⟩) hS (fun _ _ h => h) (fun _ h => h) (fun Z_47 t H1 locs ht hvm hw hB9 hz1 hk1 hS => ?_)
  obtain ⟨hM, -, -⟩ := hB9
  rw [ht] at hM
  clear hk1 hz1 hvm ht
  clear t
  generalize H1 = H at hM hS ⊢
  rw [hw] at hM
  clear hw
  obtain ⟨C_49, eC_49⟩ : ∃ z, z = up2 C_33 12 x (eO 0 [.int (nI 0), .ref t0, .int 0]) := ⟨_, rfl⟩
  have hM : mW D A u_32 C_49 ma_34 H := by rw [eC_49]; exact hM
  have hC_50 : C_49 9 x = eO 8 [.int 0, .ref q_1, .ref q_14, .null, .null] := by rw [eC_49, up2_n _ _ (fun z => by omega)]; exact hC_36
  have hC_51 : C_49 10 x = eI (ty 0) 6 (fun _ => 0) := by rw [eC_49, up2_n _ _ (fun z => by omega)]; exact hC_39
  have hC_52 : C_49 11 x = eI (ty 0) 6 (fun _ => 0) := by rw [eC_49, up2_n _ _ (fun z => by omega)]; exact hC_42
  have hC_53 : C_49 12 x = eO 0 [.int (nI 0), .ref t0, .int 0] := by rw [eC_49]; exact up2_s _ _ _ _
  refine mputF (v := .ref q_31) (ty := .object "java/util/ArrayList") hx hb hts hinX7 tyX7 tyX7_ok nmX7 hown hK hM hS hu_35 ha_37 hC_50 rfl 3 (by decide) (hk4) (fun _ h9 => h9) rfl hin9 rfl (by decide +kernel) rfl rfl (Nat.le_of_ble_eq_true rfl) dX7_init_28 (fun H locs hM hS ho => ?_)
  obtain ⟨C_54, eC_54⟩ : ∃ z, z = up2 C_49 9 x (eO 8 [.int 0, .ref q_1, .ref q_14, .ref q_31, .null]) := ⟨_, rfl⟩
  have hM : mW D A u_32 C_54 ma_34 H := by rw [eC_54]; exact hM
  have hC_55 : C_54 9 x = eO 8 [.int 0, .ref q_1, .ref q_14, .ref q_31, .null] := by rw [eC_54]; exact up2_s _ _ _ _
  have hC_56 : C_54 10 x = eI (ty 0) 6 (fun _ => 0) := by rw [eC_54, up2_n _ _ (fun z => by omega)]; exact hC_51
  have hC_57 : C_54 11 x = eI (ty 0) 6 (fun _ => 0) := by rw [eC_54, up2_n _ _ (fun z => by omega)]; exact hC_52
  have hC_58 : C_54 12 x = eO 0 [.int (nI 0), .ref t0, .int 0] := by rw [eC_54, up2_n _ _ (fun z => by omega)]; exact hC_53
  refine lv_aload_n hx hb dX7_init_31 rfl (lv_at hl 0 rfl) ?_
  refine lv_bipush (v := nI 6) hx hb dX7_init_32 (by decide) ?_
  refine mnewa hx hb (hts (.arrayClass .int) (by decide +kernel)) hK hM hS 14 x (n := 6) (N' := 6) (by decide) rfl (by decide) (Nat.le_of_ble_eq_true rfl) (Nat.le_of_ble_eq_true rfl) dX7_init_34 (fun H1 hM hS _ _ => ?_)
  generalize hq9 : Array.size H = q_59 at hM ⊢
  clear hq9
  generalize H1 = H at hM hS ⊢
  obtain ⟨u_60, eu_60⟩ : ∃ z, z = upU u_32 14 x := ⟨_, rfl⟩
  obtain ⟨C_61, eC_61⟩ : ∃ z, z = up2 C_54 14 x (eI (ty 0) 6 (fun _ => 0)) := ⟨_, rfl⟩
  obtain ⟨ma_62, ema_62⟩ : ∃ z, z = up2 ma_34 14 x q_59 := ⟨_, rfl⟩
  have hM : mW D A u_60 C_61 ma_62 H := by rw [eu_60, eC_61, ema_62]; exact hM
  have hu_63 : u_60 9 x := by rw [eu_60]; exact upU_o hu_35
  have hC_64 : C_61 9 x = eO 8 [.int 0, .ref q_1, .ref q_14, .ref q_31, .null] := by rw [eC_61, up2_n _ _ (fun z => by omega)]; exact hC_55
  have ha_65 : ma_62 9 x = ma 9 x := by rw [ema_62, up2_n _ _ (fun z => by omega)]; exact ha_37
  have hu_66 : u_60 10 x := by rw [eu_60]; exact upU_o hu_38
  have hC_67 : C_61 10 x = eI (ty 0) 6 (fun _ => 0) := by rw [eC_61, up2_n _ _ (fun z => by omega)]; exact hC_56
  have ha_68 : ma_62 10 x = q_1 := by rw [ema_62, up2_n _ _ (fun z => by omega)]; exact ha_40
  have hu_69 : u_60 11 x := by rw [eu_60]; exact upU_o hu_41
  have hC_70 : C_61 11 x = eI (ty 0) 6 (fun _ => 0) := by rw [eC_61, up2_n _ _ (fun z => by omega)]; exact hC_57
  have ha_71 : ma_62 11 x = q_14 := by rw [ema_62, up2_n _ _ (fun z => by omega)]; exact ha_43
  have hu_72 : u_60 12 x := by rw [eu_60]; exact upU_o hu_44
  have hC_73 : C_61 12 x = eO 0 [.int (nI 0), .ref t0, .int 0] := by rw [eC_61, up2_n _ _ (fun z => by omega)]; exact hC_58
  have ha_74 : ma_62 12 x = q_31 := by rw [ema_62, up2_n _ _ (fun z => by omega)]; exact ha_46
  have hu_75 : u_60 14 x := by rw [eu_60]; exact upU_s
  have hC_76 : C_61 14 x = eI (ty 0) 6 (fun _ => 0) := by rw [eC_61]; exact up2_s _ _ _ _
  have ha_77 : ma_62 14 x = q_59 := by rw [ema_62]; exact up2_s _ _ _ _
  refine mputF (v := .ref q_59) (ty := .array .int) hx hb hts hinX7 tyX7 tyX7_ok nmX7 hown hK hM hS hu_63 ha_65 hC_64 rfl 4 (by decide) (hk5) (fun _ h9 => h9) rfl hin9 rfl (by decide +kernel) rfl rfl (Nat.le_of_ble_eq_true rfl) dX7_init_36 (fun H locs hM hS ho => ?_)
  obtain ⟨C_78, eC_78⟩ : ∃ z, z = up2 C_61 9 x (eO 8 [.int 0, .ref q_1, .ref q_14, .ref q_31, .ref q_59]) := ⟨_, rfl⟩
  have hM : mW D A u_60 C_78 ma_62 H := by rw [eC_78]; exact hM
  have hC_79 : C_78 9 x = eO 8 [.int 0, .ref q_1, .ref q_14, .ref q_31, .ref q_59] := by rw [eC_78]; exact up2_s _ _ _ _
  have hC_80 : C_78 10 x = eI (ty 0) 6 (fun _ => 0) := by rw [eC_78, up2_n _ _ (fun z => by omega)]; exact hC_67
  have hC_81 : C_78 11 x = eI (ty 0) 6 (fun _ => 0) := by rw [eC_78, up2_n _ _ (fun z => by omega)]; exact hC_70
  have hC_82 : C_78 12 x = eO 0 [.int (nI 0), .ref t0, .int 0] := by rw [eC_78, up2_n _ _ (fun z => by omega)]; exact hC_73
  have hC_83 : C_78 14 x = eI (ty 0) 6 (fun _ => 0) := by rw [eC_78, up2_n _ _ (fun z => by omega)]; exact hC_76
  refine lv_aload_n hx hb dX7_init_39 rfl (lv_at hl 0 rfl) ?_
  refine lv_iload_n hx hb dX7_init_40 rfl (lv_at hl 1 rfl) ?_
  refine mputF (v := .int a1) (ty := .int) hx hb hts hinX7 tyX7 tyX7_ok nmX7 hown hK hM hS hu_63 ha_65 hC_79 rfl 0 (by decide) (hk6) (fun _ h9 => h9) rfl hin9 rfl (by decide +kernel) rfl rfl (Nat.le_of_ble_eq_true rfl) dX7_init_41 (fun H locs hM hS ho => ?_)
  obtain ⟨C_84, eC_84⟩ : ∃ z, z = up2 C_78 9 x (eO 8 [.int a1, .ref q_1, .ref q_14, .ref q_31, .ref q_59]) := ⟨_, rfl⟩
  have hM : mW D A u_60 C_84 ma_62 H := by rw [eC_84]; exact hM
  have hC_85 : C_84 9 x = eO 8 [.int a1, .ref q_1, .ref q_14, .ref q_31, .ref q_59] := by rw [eC_84]; exact up2_s _ _ _ _
  have hC_86 : C_84 10 x = eI (ty 0) 6 (fun _ => 0) := by rw [eC_84, up2_n _ _ (fun z => by omega)]; exact hC_80
  have hC_87 : C_84 11 x = eI (ty 0) 6 (fun _ => 0) := by rw [eC_84, up2_n _ _ (fun z => by omega)]; exact hC_81
  have hC_88 : C_84 12 x = eO 0 [.int (nI 0), .ref t0, .int 0] := by rw [eC_84, up2_n _ _ (fun z => by omega)]; exact hC_82
  have hC_89 : C_84 14 x = eI (ty 0) 6 (fun _ => 0) := by rw [eC_84, up2_n _ _ (fun z => by omega)]; exact hC_83
  refine lv_iconst (v := nI 0) hx hb dX7_init_44 (by decide) ?_
  refine lv_istore_n (lv' := [(2, .int (nI 0)), (0, .ref (ma 9 x)), (1, .int a1)]) hx hb dX7_init_45 rfl hl (by decide) rfl (fun ls hl => ?_)
  refine lv_iload_n hx hb dX7_init_46 rfl (lv_at hl 0 rfl) ?_
  refine lv_bipush (v := nI 6) hx hb dX7_init_47 (by decide) ?_
  refine lv_icmp_ge (tgt := 75) hx hb dX7_init_49 (by decide) (fun c_90 => ?_) (fun c_90 => ?_)
  · have c_90 := zn_geT (a := 0) (b := 6) (by omega) (by omega) c_90
    omega
  · have c_90 := zn_geF (a := 0) (b := 6) (by omega) (by omega) c_90
    refine lv_aload_n hx hb dX7_init_52 rfl (lv_at hl 1 rfl) ?_
    refine va_get hx hb hts hinX7 hown hK (hM.Pa hu_63 ha_65 hC_85) 0 rfl rfl 1 (by decide) (hk1) (fun _ h9 => h9) rfl dX7_init_53 ?_
    refine lv_iload_n hx hb dX7_init_56 rfl (lv_at hl 0 rfl) ?_
    refine lv_bipush (v := nI 10) hx hb dX7_init_57 (by decide) ?_
    refine miast hx hb hK hM hS hu_66 ha_68 0 hC_86 rfl (i := 0) (by decide) (by decide) dX7_init_59 (fun H locs hM hS ho => ?_)
    obtain ⟨C_91, eC_91⟩ : ∃ z, z = up2 C_84 10 x (eI (ty 0) 6 (upd (fun _ => 0) 0 (nI 10))) := ⟨_, rfl⟩
    have hM : mW D A u_60 C_91 ma_62 H := by rw [eC_91]; exact hM
    have hC_92 : C_91 9 x = eO 8 [.int a1, .ref q_1, .ref q_14, .ref q_31, .ref q_59] := by rw [eC_91, up2_n _ _ (fun z => by omega)]; exact hC_85
    have hC_93 : C_91 10 x = eI (ty 0) 6 (upd (fun _ => 0) 0 (nI 10)) := by rw [eC_91]; exact up2_s _ _ _ _
    have hC_94 : C_91 11 x = eI (ty 0) 6 (fun _ => 0) := by rw [eC_91, up2_n _ _ (fun z => by omega)]; exact hC_87
    have hC_95 : C_91 12 x = eO 0 [.int (nI 0), .ref t0, .int 0] := by rw [eC_91, up2_n _ _ (fun z => by omega)]; exact hC_88
    have hC_96 : C_91 14 x = eI (ty 0) 6 (fun _ => 0) := by rw [eC_91, up2_n _ _ (fun z => by omega)]; exact hC_89
    refine lv_aload_n hx hb dX7_init_60 rfl (lv_at hl 1 rfl) ?_
    refine va_get hx hb hts hinX7 hown hK (hM.Pa hu_63 ha_65 hC_92) 0 rfl rfl 2 (by decide) (hk2) (fun _ h9 => h9) rfl dX7_init_61 ?_
    refine lv_iload_n hx hb dX7_init_64 rfl (lv_at hl 0 rfl) ?_
    refine lv_sipush (v := nI 1000) hx hb dX7_init_65 (by decide) ?_
    refine miast hx hb hK hM hS hu_69 ha_71 0 hC_94 rfl (i := 0) (by decide) (by decide) dX7_init_68 (fun H locs hM hS ho => ?_)
    obtain ⟨C_97, eC_97⟩ : ∃ z, z = up2 C_91 11 x (eI (ty 0) 6 (upd (fun _ => 0) 0 (nI 1000))) := ⟨_, rfl⟩
    have hM : mW D A u_60 C_97 ma_62 H := by rw [eC_97]; exact hM
    have hC_98 : C_97 9 x = eO 8 [.int a1, .ref q_1, .ref q_14, .ref q_31, .ref q_59] := by rw [eC_97, up2_n _ _ (fun z => by omega)]; exact hC_92
    have hC_99 : C_97 10 x = eI (ty 0) 6 (upd (fun _ => 0) 0 (nI 10)) := by rw [eC_97, up2_n _ _ (fun z => by omega)]; exact hC_93
    have hC_100 : C_97 11 x = eI (ty 0) 6 (upd (fun _ => 0) 0 (nI 1000)) := by rw [eC_97]; exact up2_s _ _ _ _
    have hC_101 : C_97 12 x = eO 0 [.int (nI 0), .ref t0, .int 0] := by rw [eC_97, up2_n _ _ (fun z => by omega)]; exact hC_95
    have hC_102 : C_97 14 x = eI (ty 0) 6 (fun _ => 0) := by rw [eC_97, up2_n _ _ (fun z => by omega)]; exact hC_96
    refine lv_iinc (v := nI 1) (lv' := [(2, .int (nI 1)), (0, .ref (ma 9 x)), (1, .int a1)]) hx hb dX7_init_69 hl (k := 0) rfl (nI_add 0 1) (by decide) rfl (fun ls hl => ?_)
    refine lv_goto (tgt := 46) hx hb dX7_init_72 (by decide) ?_
    refine lv_iload_n hx hb dX7_init_46 rfl (lv_at hl 0 rfl) ?_
    refine lv_bipush (v := nI 6) hx hb dX7_init_47 (by decide) ?_
    refine lv_icmp_ge (tgt := 75) hx hb dX7_init_49 (by decide) (fun c_103 => ?_) (fun c_103 => ?_)
    · have c_103 := zn_geT (a := 1) (b := 6) (by omega) (by omega) c_103
      omega
    · have c_103 := zn_geF (a := 1) (b := 6) (by omega) (by omega) c_103
      refine lv_aload_n hx hb dX7_init_52 rfl (lv_at hl 1 rfl) ?_
      refine va_get hx hb hts hinX7 hown hK (hM.Pa hu_63 ha_65 hC_98) 0 rfl rfl 1 (by decide) (hk1) (fun _ h9 => h9) rfl dX7_init_53 ?_
      refine lv_iload_n hx hb dX7_init_56 rfl (lv_at hl 0 rfl) ?_
      refine lv_bipush (v := nI 10) hx hb dX7_init_57 (by decide) ?_
      refine miast hx hb hK hM hS hu_66 ha_68 0 hC_99 rfl (i := 1) (by decide) (by decide) dX7_init_59 (fun H locs hM hS ho => ?_)
      obtain ⟨C_104, eC_104⟩ : ∃ z, z = up2 C_97 10 x (eI (ty 0) 6 (upd ((upd (fun _ => 0) 0 (nI 10))) 1 (nI 10))) := ⟨_, rfl⟩
      have hM : mW D A u_60 C_104 ma_62 H := by rw [eC_104]; exact hM
      have hC_105 : C_104 9 x = eO 8 [.int a1, .ref q_1, .ref q_14, .ref q_31, .ref q_59] := by rw [eC_104, up2_n _ _ (fun z => by omega)]; exact hC_98
      have hC_106 : C_104 10 x = eI (ty 0) 6 (upd ((upd (fun _ => 0) 0 (nI 10))) 1 (nI 10)) := by rw [eC_104]; exact up2_s _ _ _ _
      have hC_107 : C_104 11 x = eI (ty 0) 6 (upd (fun _ => 0) 0 (nI 1000)) := by rw [eC_104, up2_n _ _ (fun z => by omega)]; exact hC_100
      have hC_108 : C_104 12 x = eO 0 [.int (nI 0), .ref t0, .int 0] := by rw [eC_104, up2_n _ _ (fun z => by omega)]; exact hC_101
      have hC_109 : C_104 14 x = eI (ty 0) 6 (fun _ => 0) := by rw [eC_104, up2_n _ _ (fun z => by omega)]; exact hC_102
      refine lv_aload_n hx hb dX7_init_60 rfl (lv_at hl 1 rfl) ?_
      refine va_get hx hb hts hinX7 hown hK (hM.Pa hu_63 ha_65 hC_105) 0 rfl rfl 2 (by decide) (hk2) (fun _ h9 => h9) rfl dX7_init_61 ?_
      refine lv_iload_n hx hb dX7_init_64 rfl (lv_at hl 0 rfl) ?_
      refine lv_sipush (v := nI 1000) hx hb dX7_init_65 (by decide) ?_
      refine miast hx hb hK hM hS hu_69 ha_71 0 hC_107 rfl (i := 1) (by decide) (by decide) dX7_init_68 (fun H locs hM hS ho => ?_)
      obtain ⟨C_110, eC_110⟩ : ∃ z, z = up2 C_104 11 x (eI (ty 0) 6 (upd ((upd (fun _ => 0) 0 (nI 1000))) 1 (nI 1000))) := ⟨_, rfl⟩
      have hM : mW D A u_60 C_110 ma_62 H := by rw [eC_110]; exact hM
      have hC_111 : C_110 9 x = eO 8 [.int a1, .ref q_1, .ref q_14, .ref q_31, .ref q_59] := by rw [eC_110, up2_n _ _ (fun z => by omega)]; exact hC_105
      have hC_112 : C_110 10 x = eI (ty 0) 6 (upd ((upd (fun _ => 0) 0 (nI 10))) 1 (nI 10)) := by rw [eC_110, up2_n _ _ (fun z => by omega)]; exact hC_106
      have hC_113 : C_110 11 x = eI (ty 0) 6 (upd ((upd (fun _ => 0) 0 (nI 1000))) 1 (nI 1000)) := by rw [eC_110]; exact up2_s _ _ _ _
      have hC_114 : C_110 12 x = eO 0 [.int (nI 0), .ref t0, .int 0] := by rw [eC_110, up2_n _ _ (fun z => by omega)]; exact hC_108
      have hC_115 : C_110 14 x = eI (ty 0) 6 (fun _ => 0) := by rw [eC_110, up2_n _ _ (fun z => by omega)]; exact hC_109
      refine lv_iinc (v := nI 2) (lv' := [(2, .int (nI 2)), (0, .ref (ma 9 x)), (1, .int a1)]) hx hb dX7_init_69 hl (k := 0) rfl (nI_add 1 1) (by decide) rfl (fun ls hl => ?_)
      refine lv_goto (tgt := 46) hx hb dX7_init_72 (by decide) ?_
      refine lv_iload_n hx hb dX7_init_46 rfl (lv_at hl 0 rfl) ?_
      refine lv_bipush (v := nI 6) hx hb dX7_init_47 (by decide) ?_
      refine lv_icmp_ge (tgt := 75) hx hb dX7_init_49 (by decide) (fun c_116 => ?_) (fun c_116 => ?_)
      · have c_116 := zn_geT (a := 2) (b := 6) (by omega) (by omega) c_116
        omega
      · have c_116 := zn_geF (a := 2) (b := 6) (by omega) (by omega) c_116
        refine lv_aload_n hx hb dX7_init_52 rfl (lv_at hl 1 rfl) ?_
        refine va_get hx hb hts hinX7 hown hK (hM.Pa hu_63 ha_65 hC_111) 0 rfl rfl 1 (by decide) (hk1) (fun _ h9 => h9) rfl dX7_init_53 ?_
        refine lv_iload_n hx hb dX7_init_56 rfl (lv_at hl 0 rfl) ?_
        refine lv_bipush (v := nI 10) hx hb dX7_init_57 (by decide) ?_
        refine miast hx hb hK hM hS hu_66 ha_68 0 hC_112 rfl (i := 2) (by decide) (by decide) dX7_init_59 (fun H locs hM hS ho => ?_)
        obtain ⟨C_117, eC_117⟩ : ∃ z, z = up2 C_110 10 x (eI (ty 0) 6 (upd ((upd ((upd (fun _ => 0) 0 (nI 10))) 1 (nI 10))) 2 (nI 10))) := ⟨_, rfl⟩
        have hM : mW D A u_60 C_117 ma_62 H := by rw [eC_117]; exact hM
        have hC_118 : C_117 9 x = eO 8 [.int a1, .ref q_1, .ref q_14, .ref q_31, .ref q_59] := by rw [eC_117, up2_n _ _ (fun z => by omega)]; exact hC_111
        have hC_119 : C_117 10 x = eI (ty 0) 6 (upd ((upd ((upd (fun _ => 0) 0 (nI 10))) 1 (nI 10))) 2 (nI 10)) := by rw [eC_117]; exact up2_s _ _ _ _
        have hC_120 : C_117 11 x = eI (ty 0) 6 (upd ((upd (fun _ => 0) 0 (nI 1000))) 1 (nI 1000)) := by rw [eC_117, up2_n _ _ (fun z => by omega)]; exact hC_113
        have hC_121 : C_117 12 x = eO 0 [.int (nI 0), .ref t0, .int 0] := by rw [eC_117, up2_n _ _ (fun z => by omega)]; exact hC_114
        have hC_122 : C_117 14 x = eI (ty 0) 6 (fun _ => 0) := by rw [eC_117, up2_n _ _ (fun z => by omega)]; exact hC_115
        refine lv_aload_n hx hb dX7_init_60 rfl (lv_at hl 1 rfl) ?_
        refine va_get hx hb hts hinX7 hown hK (hM.Pa hu_63 ha_65 hC_118) 0 rfl rfl 2 (by decide) (hk2) (fun _ h9 => h9) rfl dX7_init_61 ?_
        refine lv_iload_n hx hb dX7_init_64 rfl (lv_at hl 0 rfl) ?_
        refine lv_sipush (v := nI 1000) hx hb dX7_init_65 (by decide) ?_
        refine miast hx hb hK hM hS hu_69 ha_71 0 hC_120 rfl (i := 2) (by decide) (by decide) dX7_init_68 (fun H locs hM hS ho => ?_)
        obtain ⟨C_123, eC_123⟩ : ∃ z, z = up2 C_117 11 x (eI (ty 0) 6 (upd ((upd ((upd (fun _ => 0) 0 (nI 1000))) 1 (nI 1000))) 2 (nI 1000))) := ⟨_, rfl⟩
        have hM : mW D A u_60 C_123 ma_62 H := by rw [eC_123]; exact hM
        have hC_124 : C_123 9 x = eO 8 [.int a1, .ref q_1, .ref q_14, .ref q_31, .ref q_59] := by rw [eC_123, up2_n _ _ (fun z => by omega)]; exact hC_118
        have hC_125 : C_123 10 x = eI (ty 0) 6 (upd ((upd ((upd (fun _ => 0) 0 (nI 10))) 1 (nI 10))) 2 (nI 10)) := by rw [eC_123, up2_n _ _ (fun z => by omega)]; exact hC_119
        have hC_126 : C_123 11 x = eI (ty 0) 6 (upd ((upd ((upd (fun _ => 0) 0 (nI 1000))) 1 (nI 1000))) 2 (nI 1000)) := by rw [eC_123]; exact up2_s _ _ _ _
        have hC_127 : C_123 12 x = eO 0 [.int (nI 0), .ref t0, .int 0] := by rw [eC_123, up2_n _ _ (fun z => by omega)]; exact hC_121
        have hC_128 : C_123 14 x = eI (ty 0) 6 (fun _ => 0) := by rw [eC_123, up2_n _ _ (fun z => by omega)]; exact hC_122
        refine lv_iinc (v := nI 3) (lv' := [(2, .int (nI 3)), (0, .ref (ma 9 x)), (1, .int a1)]) hx hb dX7_init_69 hl (k := 0) rfl (nI_add 2 1) (by decide) rfl (fun ls hl => ?_)
        refine lv_goto (tgt := 46) hx hb dX7_init_72 (by decide) ?_
        refine lv_iload_n hx hb dX7_init_46 rfl (lv_at hl 0 rfl) ?_
        refine lv_bipush (v := nI 6) hx hb dX7_init_47 (by decide) ?_
        refine lv_icmp_ge (tgt := 75) hx hb dX7_init_49 (by decide) (fun c_129 => ?_) (fun c_129 => ?_)
        · have c_129 := zn_geT (a := 3) (b := 6) (by omega) (by omega) c_129
          omega
        · have c_129 := zn_geF (a := 3) (b := 6) (by omega) (by omega) c_129
          refine lv_aload_n hx hb dX7_init_52 rfl (lv_at hl 1 rfl) ?_
          refine va_get hx hb hts hinX7 hown hK (hM.Pa hu_63 ha_65 hC_124) 0 rfl rfl 1 (by decide) (hk1) (fun _ h9 => h9) rfl dX7_init_53 ?_
          refine lv_iload_n hx hb dX7_init_56 rfl (lv_at hl 0 rfl) ?_
          refine lv_bipush (v := nI 10) hx hb dX7_init_57 (by decide) ?_
          refine miast hx hb hK hM hS hu_66 ha_68 0 hC_125 rfl (i := 3) (by decide) (by decide) dX7_init_59 (fun H locs hM hS ho => ?_)
          obtain ⟨C_130, eC_130⟩ : ∃ z, z = up2 C_123 10 x (eI (ty 0) 6 (upd ((upd ((upd ((upd (fun _ => 0) 0 (nI 10))) 1 (nI 10))) 2 (nI 10))) 3 (nI 10))) := ⟨_, rfl⟩
          have hM : mW D A u_60 C_130 ma_62 H := by rw [eC_130]; exact hM
          have hC_131 : C_130 9 x = eO 8 [.int a1, .ref q_1, .ref q_14, .ref q_31, .ref q_59] := by rw [eC_130, up2_n _ _ (fun z => by omega)]; exact hC_124
          have hC_132 : C_130 10 x = eI (ty 0) 6 (upd ((upd ((upd ((upd (fun _ => 0) 0 (nI 10))) 1 (nI 10))) 2 (nI 10))) 3 (nI 10)) := by rw [eC_130]; exact up2_s _ _ _ _
          have hC_133 : C_130 11 x = eI (ty 0) 6 (upd ((upd ((upd (fun _ => 0) 0 (nI 1000))) 1 (nI 1000))) 2 (nI 1000)) := by rw [eC_130, up2_n _ _ (fun z => by omega)]; exact hC_126
          have hC_134 : C_130 12 x = eO 0 [.int (nI 0), .ref t0, .int 0] := by rw [eC_130, up2_n _ _ (fun z => by omega)]; exact hC_127
          have hC_135 : C_130 14 x = eI (ty 0) 6 (fun _ => 0) := by rw [eC_130, up2_n _ _ (fun z => by omega)]; exact hC_128
          refine lv_aload_n hx hb dX7_init_60 rfl (lv_at hl 1 rfl) ?_
          refine va_get hx hb hts hinX7 hown hK (hM.Pa hu_63 ha_65 hC_131) 0 rfl rfl 2 (by decide) (hk2) (fun _ h9 => h9) rfl dX7_init_61 ?_
          refine lv_iload_n hx hb dX7_init_64 rfl (lv_at hl 0 rfl) ?_
          refine lv_sipush (v := nI 1000) hx hb dX7_init_65 (by decide) ?_
          refine miast hx hb hK hM hS hu_69 ha_71 0 hC_133 rfl (i := 3) (by decide) (by decide) dX7_init_68 (fun H locs hM hS ho => ?_)
          obtain ⟨C_136, eC_136⟩ : ∃ z, z = up2 C_130 11 x (eI (ty 0) 6 (upd ((upd ((upd ((upd (fun _ => 0) 0 (nI 1000))) 1 (nI 1000))) 2 (nI 1000))) 3 (nI 1000))) := ⟨_, rfl⟩
          have hM : mW D A u_60 C_136 ma_62 H := by rw [eC_136]; exact hM
          have hC_137 : C_136 9 x = eO 8 [.int a1, .ref q_1, .ref q_14, .ref q_31, .ref q_59] := by rw [eC_136, up2_n _ _ (fun z => by omega)]; exact hC_131
          have hC_138 : C_136 10 x = eI (ty 0) 6 (upd ((upd ((upd ((upd (fun _ => 0) 0 (nI 10))) 1 (nI 10))) 2 (nI 10))) 3 (nI 10)) := by rw [eC_136, up2_n _ _ (fun z => by omega)]; exact hC_132
          have hC_139 : C_136 11 x = eI (ty 0) 6 (upd ((upd ((upd ((upd (fun _ => 0) 0 (nI 1000))) 1 (nI 1000))) 2 (nI 1000))) 3 (nI 1000)) := by rw [eC_136]; exact up2_s _ _ _ _
          have hC_140 : C_136 12 x = eO 0 [.int (nI 0), .ref t0, .int 0] := by rw [eC_136, up2_n _ _ (fun z => by omega)]; exact hC_134
          have hC_141 : C_136 14 x = eI (ty 0) 6 (fun _ => 0) := by rw [eC_136, up2_n _ _ (fun z => by omega)]; exact hC_135
          refine lv_iinc (v := nI 4) (lv' := [(2, .int (nI 4)), (0, .ref (ma 9 x)), (1, .int a1)]) hx hb dX7_init_69 hl (k := 0) rfl (nI_add 3 1) (by decide) rfl (fun ls hl => ?_)
          refine lv_goto (tgt := 46) hx hb dX7_init_72 (by decide) ?_
          refine lv_iload_n hx hb dX7_init_46 rfl (lv_at hl 0 rfl) ?_
          refine lv_bipush (v := nI 6) hx hb dX7_init_47 (by decide) ?_
          refine lv_icmp_ge (tgt := 75) hx hb dX7_init_49 (by decide) (fun c_142 => ?_) (fun c_142 => ?_)
          · have c_142 := zn_geT (a := 4) (b := 6) (by omega) (by omega) c_142
            omega
          · have c_142 := zn_geF (a := 4) (b := 6) (by omega) (by omega) c_142
            refine lv_aload_n hx hb dX7_init_52 rfl (lv_at hl 1 rfl) ?_
            refine va_get hx hb hts hinX7 hown hK (hM.Pa hu_63 ha_65 hC_137) 0 rfl rfl 1 (by decide) (hk1) (fun _ h9 => h9) rfl dX7_init_53 ?_
            refine lv_iload_n hx hb dX7_init_56 rfl (lv_at hl 0 rfl) ?_
            refine lv_bipush (v := nI 10) hx hb dX7_init_57 (by decide) ?_
            refine miast hx hb hK hM hS hu_66 ha_68 0 hC_138 rfl (i := 4) (by decide) (by decide) dX7_init_59 (fun H locs hM hS ho => ?_)
            obtain ⟨C_143, eC_143⟩ : ∃ z, z = up2 C_136 10 x (eI (ty 0) 6 (upd ((upd ((upd ((upd ((upd (fun _ => 0) 0 (nI 10))) 1 (nI 10))) 2 (nI 10))) 3 (nI 10))) 4 (nI 10))) := ⟨_, rfl⟩
            have hM : mW D A u_60 C_143 ma_62 H := by rw [eC_143]; exact hM
            have hC_144 : C_143 9 x = eO 8 [.int a1, .ref q_1, .ref q_14, .ref q_31, .ref q_59] := by rw [eC_143, up2_n _ _ (fun z => by omega)]; exact hC_137
            have hC_145 : C_143 10 x = eI (ty 0) 6 (upd ((upd ((upd ((upd ((upd (fun _ => 0) 0 (nI 10))) 1 (nI 10))) 2 (nI 10))) 3 (nI 10))) 4 (nI 10)) := by rw [eC_143]; exact up2_s _ _ _ _
            have hC_146 : C_143 11 x = eI (ty 0) 6 (upd ((upd ((upd ((upd (fun _ => 0) 0 (nI 1000))) 1 (nI 1000))) 2 (nI 1000))) 3 (nI 1000)) := by rw [eC_143, up2_n _ _ (fun z => by omega)]; exact hC_139
            have hC_147 : C_143 12 x = eO 0 [.int (nI 0), .ref t0, .int 0] := by rw [eC_143, up2_n _ _ (fun z => by omega)]; exact hC_140
            have hC_148 : C_143 14 x = eI (ty 0) 6 (fun _ => 0) := by rw [eC_143, up2_n _ _ (fun z => by omega)]; exact hC_141
            refine lv_aload_n hx hb dX7_init_60 rfl (lv_at hl 1 rfl) ?_
            refine va_get hx hb hts hinX7 hown hK (hM.Pa hu_63 ha_65 hC_144) 0 rfl rfl 2 (by decide) (hk2) (fun _ h9 => h9) rfl dX7_init_61 ?_
            refine lv_iload_n hx hb dX7_init_64 rfl (lv_at hl 0 rfl) ?_
            refine lv_sipush (v := nI 1000) hx hb dX7_init_65 (by decide) ?_
            refine miast hx hb hK hM hS hu_69 ha_71 0 hC_146 rfl (i := 4) (by decide) (by decide) dX7_init_68 (fun H locs hM hS ho => ?_)
            obtain ⟨C_149, eC_149⟩ : ∃ z, z = up2 C_143 11 x (eI (ty 0) 6 (upd ((upd ((upd ((upd ((upd (fun _ => 0) 0 (nI 1000))) 1 (nI 1000))) 2 (nI 1000))) 3 (nI 1000))) 4 (nI 1000))) := ⟨_, rfl⟩
            have hM : mW D A u_60 C_149 ma_62 H := by rw [eC_149]; exact hM
            have hC_150 : C_149 9 x = eO 8 [.int a1, .ref q_1, .ref q_14, .ref q_31, .ref q_59] := by rw [eC_149, up2_n _ _ (fun z => by omega)]; exact hC_144
            have hC_151 : C_149 10 x = eI (ty 0) 6 (upd ((upd ((upd ((upd ((upd (fun _ => 0) 0 (nI 10))) 1 (nI 10))) 2 (nI 10))) 3 (nI 10))) 4 (nI 10)) := by rw [eC_149, up2_n _ _ (fun z => by omega)]; exact hC_145
            have hC_152 : C_149 11 x = eI (ty 0) 6 (upd ((upd ((upd ((upd ((upd (fun _ => 0) 0 (nI 1000))) 1 (nI 1000))) 2 (nI 1000))) 3 (nI 1000))) 4 (nI 1000)) := by rw [eC_149]; exact up2_s _ _ _ _
            have hC_153 : C_149 12 x = eO 0 [.int (nI 0), .ref t0, .int 0] := by rw [eC_149, up2_n _ _ (fun z => by omega)]; exact hC_147
            have hC_154 : C_149 14 x = eI (ty 0) 6 (fun _ => 0) := by rw [eC_149, up2_n _ _ (fun z => by omega)]; exact hC_148
            refine lv_iinc (v := nI 5) (lv' := [(2, .int (nI 5)), (0, .ref (ma 9 x)), (1, .int a1)]) hx hb dX7_init_69 hl (k := 0) rfl (nI_add 4 1) (by decide) rfl (fun ls hl => ?_)
            refine lv_goto (tgt := 46) hx hb dX7_init_72 (by decide) ?_
            refine lv_iload_n hx hb dX7_init_46 rfl (lv_at hl 0 rfl) ?_
            refine lv_bipush (v := nI 6) hx hb dX7_init_47 (by decide) ?_
            refine lv_icmp_ge (tgt := 75) hx hb dX7_init_49 (by decide) (fun c_155 => ?_) (fun c_155 => ?_)
            · have c_155 := zn_geT (a := 5) (b := 6) (by omega) (by omega) c_155
              omega
            · have c_155 := zn_geF (a := 5) (b := 6) (by omega) (by omega) c_155
              refine lv_aload_n hx hb dX7_init_52 rfl (lv_at hl 1 rfl) ?_
              refine va_get hx hb hts hinX7 hown hK (hM.Pa hu_63 ha_65 hC_150) 0 rfl rfl 1 (by decide) (hk1) (fun _ h9 => h9) rfl dX7_init_53 ?_
              refine lv_iload_n hx hb dX7_init_56 rfl (lv_at hl 0 rfl) ?_
              refine lv_bipush (v := nI 10) hx hb dX7_init_57 (by decide) ?_
              refine miast hx hb hK hM hS hu_66 ha_68 0 hC_151 rfl (i := 5) (by decide) (by decide) dX7_init_59 (fun H locs hM hS ho => ?_)
              obtain ⟨C_156, eC_156⟩ : ∃ z, z = up2 C_149 10 x (eI (ty 0) 6 (upd ((upd ((upd ((upd ((upd ((upd (fun _ => 0) 0 (nI 10))) 1 (nI 10))) 2 (nI 10))) 3 (nI 10))) 4 (nI 10))) 5 (nI 10))) := ⟨_, rfl⟩
              have hM : mW D A u_60 C_156 ma_62 H := by rw [eC_156]; exact hM
              have hC_157 : C_156 9 x = eO 8 [.int a1, .ref q_1, .ref q_14, .ref q_31, .ref q_59] := by rw [eC_156, up2_n _ _ (fun z => by omega)]; exact hC_150
              have hC_158 : C_156 10 x = eI (ty 0) 6 (upd ((upd ((upd ((upd ((upd ((upd (fun _ => 0) 0 (nI 10))) 1 (nI 10))) 2 (nI 10))) 3 (nI 10))) 4 (nI 10))) 5 (nI 10)) := by rw [eC_156]; exact up2_s _ _ _ _
              have hC_159 : C_156 11 x = eI (ty 0) 6 (upd ((upd ((upd ((upd ((upd (fun _ => 0) 0 (nI 1000))) 1 (nI 1000))) 2 (nI 1000))) 3 (nI 1000))) 4 (nI 1000)) := by rw [eC_156, up2_n _ _ (fun z => by omega)]; exact hC_152
              have hC_160 : C_156 12 x = eO 0 [.int (nI 0), .ref t0, .int 0] := by rw [eC_156, up2_n _ _ (fun z => by omega)]; exact hC_153
              have hC_161 : C_156 14 x = eI (ty 0) 6 (fun _ => 0) := by rw [eC_156, up2_n _ _ (fun z => by omega)]; exact hC_154
              refine lv_aload_n hx hb dX7_init_60 rfl (lv_at hl 1 rfl) ?_
              refine va_get hx hb hts hinX7 hown hK (hM.Pa hu_63 ha_65 hC_157) 0 rfl rfl 2 (by decide) (hk2) (fun _ h9 => h9) rfl dX7_init_61 ?_
              refine lv_iload_n hx hb dX7_init_64 rfl (lv_at hl 0 rfl) ?_
              refine lv_sipush (v := nI 1000) hx hb dX7_init_65 (by decide) ?_
              refine miast hx hb hK hM hS hu_69 ha_71 0 hC_159 rfl (i := 5) (by decide) (by decide) dX7_init_68 (fun H locs hM hS ho => ?_)
              obtain ⟨C_162, eC_162⟩ : ∃ z, z = up2 C_156 11 x (eI (ty 0) 6 (upd ((upd ((upd ((upd ((upd ((upd (fun _ => 0) 0 (nI 1000))) 1 (nI 1000))) 2 (nI 1000))) 3 (nI 1000))) 4 (nI 1000))) 5 (nI 1000))) := ⟨_, rfl⟩
              have hM : mW D A u_60 C_162 ma_62 H := by rw [eC_162]; exact hM
              have hC_163 : C_162 9 x = eO 8 [.int a1, .ref q_1, .ref q_14, .ref q_31, .ref q_59] := by rw [eC_162, up2_n _ _ (fun z => by omega)]; exact hC_157
              have hC_164 : C_162 10 x = eI (ty 0) 6 (upd ((upd ((upd ((upd ((upd ((upd (fun _ => 0) 0 (nI 10))) 1 (nI 10))) 2 (nI 10))) 3 (nI 10))) 4 (nI 10))) 5 (nI 10)) := by rw [eC_162, up2_n _ _ (fun z => by omega)]; exact hC_158
              have hC_165 : C_162 11 x = eI (ty 0) 6 (upd ((upd ((upd ((upd ((upd ((upd (fun _ => 0) 0 (nI 1000))) 1 (nI 1000))) 2 (nI 1000))) 3 (nI 1000))) 4 (nI 1000))) 5 (nI 1000)) := by rw [eC_162]; exact up2_s _ _ _ _
              have hC_166 : C_162 12 x = eO 0 [.int (nI 0), .ref t0, .int 0] := by rw [eC_162, up2_n _ _ (fun z => by omega)]; exact hC_160
              have hC_167 : C_162 14 x = eI (ty 0) 6 (fun _ => 0) := by rw [eC_162, up2_n _ _ (fun z => by omega)]; exact hC_161
              refine lv_iinc (v := nI 6) (lv' := [(2, .int (nI 6)), (0, .ref (ma 9 x)), (1, .int a1)]) hx hb dX7_init_69 hl (k := 0) rfl (nI_add 5 1) (by decide) rfl (fun ls hl => ?_)
              refine lv_goto (tgt := 46) hx hb dX7_init_72 (by decide) ?_
              refine lv_iload_n hx hb dX7_init_46 rfl (lv_at hl 0 rfl) ?_
              refine lv_bipush (v := nI 6) hx hb dX7_init_47 (by decide) ?_
              refine lv_icmp_ge (tgt := 75) hx hb dX7_init_49 (by decide) (fun c_168 => ?_) (fun c_168 => ?_)
              · have c_168 := zn_geT (a := 6) (b := 6) (by omega) (by omega) c_168
                have hX1 : ∀ k9 x9, u k9 x9 → u_60 k9 x9 := fun k9 x9 h9 => by rw [eu_60, eu_32, eu_15, eu_2]; exact upU_o (upU_o (upU_o (upU_o (h9))))
                have hX2 : ∀ k9 x9, ¬ (x9 = x ∧ (k9 = 9 ∨ k9 = 10 ∨ k9 = 11 ∨ k9 = 12 ∨ k9 = 14)) → C_162 k9 x9 = C k9 x9 := fun k9 x9 h9 => by rw [eC_162, up2_n _ _ (fun z => by omega), eC_156, up2_n _ _ (fun z => by omega), eC_149, up2_n _ _ (fun z => by omega), eC_143, up2_n _ _ (fun z => by omega), eC_136, up2_n _ _ (fun z => by omega), eC_130, up2_n _ _ (fun z => by omega), eC_123, up2_n _ _ (fun z => by omega), eC_117, up2_n _ _ (fun z => by omega), eC_110, up2_n _ _ (fun z => by omega), eC_104, up2_n _ _ (fun z => by omega), eC_97, up2_n _ _ (fun z => by omega), eC_91, up2_n _ _ (fun z => by omega), eC_84, up2_n _ _ (fun z => by omega), eC_78, up2_n _ _ (fun z => by omega), eC_61, up2_n _ _ (fun z => by omega), eC_54, up2_n _ _ (fun z => by omega), eC_49, up2_n _ _ (fun z => by omega), eC_33, up2_n _ _ (fun z => by omega), eC_27, up2_n _ _ (fun z => by omega), eC_16, up2_n _ _ (fun z => by omega), eC_11, up2_n _ _ (fun z => by omega), eC_3, up2_n _ _ (fun z => by omega)]
                have hX3 : ∀ k9 x9, ¬ (x9 = x ∧ (k9 = 10 ∨ k9 = 11 ∨ k9 = 12 ∨ k9 = 14)) → ma_62 k9 x9 = ma k9 x9 := fun k9 x9 h9 => by rw [ema_62, up2_n _ _ (fun z => by omega), ema_34, up2_n _ _ (fun z => by omega), ema_17, up2_n _ _ (fun z => by omega), ema_4, up2_n _ _ (fun z => by omega)]
                exact W.vret hx hb hr (fun t ht hW => ⟨⟨(u_60, C_162, ma_62), rfl, ⟨hX1, hX2, hX3, ⟨hu_63, by show C_162 9 x = _; rw [show (u_60, C_162, ma_62).2.2 10 x = _ from ha_68, show (u_60, C_162, ma_62).2.2 11 x = _ from ha_71, show (u_60, C_162, ma_62).2.2 12 x = _ from ha_74, show (u_60, C_162, ma_62).2.2 14 x = _ from ha_77]; exact hC_163⟩, ⟨hu_66, by show C_162 10 x = _; rw [← mdF6]; exact hC_164⟩, ⟨hu_69, by show C_162 11 x = _; rw [← mdF6]; exact hC_165⟩, ⟨hu_72, hC_166⟩, hu_75, hC_167⟩, mI_pre hM hK hMS hS t ht hW⟩, hS.F ht⟩) hS.2.2 dX7_init_75
              · have c_168 := zn_geF (a := 6) (b := 6) (by omega) (by omega) c_168
                omega
