set_option maxHeartbeats 4000000 in
set_option maxRecDepth 100000 in
theorem c_absColl (l : Launch) (D : va_G) (ty : Nat → ClassId) (A : Nat → Prop) (u : Nat → Nat → Prop) (C : Nat → Nat → va_E) (ma : Nat → Nat → Nat) (t0 mi : Nat) (kl x : Nat) : Met l yJxa1e45_init_da8c8 wsJxa1e45_init_da8c8 ({ frames := 1, cells := 0, slots := 0, locals := 20 }) (va_Pc [.ref (ma kl x)] (mI D ty A u C ma t0 mi)) (va_Qv (fun C2 : Nat → Nat → va_E => C2 = C) (fun C2 t => mI D ty A u C2 ma t0 mi t) A) 0 0 A := by
  refine zMetI (cc := cJxa1e45_init_da8c8) (maxL := 1) (ret := none) (by decide) rfl (Nat.le_of_ble_eq_true rfl) ?_
  intro p e s m below meth c hx hb hr hts hown hlocks hml hB hin9 ls hl
  obtain ⟨hM, hK, hMS⟩ := hB
  have hS : va_S A s.heap s.heap [] := va_S.rf
  have hl : lv_has ls 1 [(0, .ref (ma kl x))] := hl
  refine lv_aload_n hx hb dJxa1e45_init_da8c8_0 rfl (lv_at hl 0 rfl) ?_
  refine W.objInit hx hb hown (hts (.methodLink RJxa1e45 1 objectInit) (by decide +kernel)) (hts (.instanceMethod objectInit) (by decide +kernel)) (hts (.code objectInit ⟨#[0xb1]⟩ 1 none) (by decide +kernel)) rfl (by rw [hml]; exact hl.1) rfl dJxa1e45_init_da8c8_1 (Nat.le_of_ble_eq_true rfl) (Nat.le_of_ble_eq_true rfl) ?_
  refine W.eq (g2 := F0 m 4 ls []) rfl ?_
  exact W.vret hx hb hr (fun t ht hW => ⟨⟨C, rfl, rfl, mI_pre hM hK hMS hS t ht hW⟩, hS.F ht⟩) hS.2.2 dJxa1e45_init_da8c8_4
set_option maxHeartbeats 4000000 in
set_option maxRecDepth 100000 in
theorem c_absList (l : Launch) (D : va_G) (ty : Nat → ClassId) (A : Nat → Prop) (u : Nat → Nat → Prop) (C : Nat → Nat → va_E) (ma : Nat → Nat → Nat) (t0 mi : Nat) (kl x : Nat) (hu1 : u kl x) (hC1 : C kl x = eO 0 [.int 0, .null, .int 0]) : Met l yJxc12de_init_da8c8 wsJxc12de_init_da8c8 ({ frames := 2, cells := 0, slots := 0, locals := 40 }) (va_Pc [.ref (ma kl x)] (mI D ty A u C ma t0 mi)) (va_Qv (fun C2 : Nat → Nat → va_E => C2 = up2 C kl x (eO 0 [.int (nI 0), .null, .int 0])) (fun C2 t => mI D ty A u C2 ma t0 mi t) A) 0 0 A := by
  refine zMetI (cc := cJxc12de_init_da8c8) (maxL := 1) (ret := none) (by decide) rfl (Nat.le_of_ble_eq_true rfl) ?_
  intro p e s m below meth c hx hb hr hts hown hlocks hml hB hin9 ls hl
  obtain ⟨hM, hK, hMS⟩ := hB
  have hS : va_S A s.heap s.heap [] := va_S.rf
  have hl : lv_has ls 1 [(0, .ref (ma kl x))] := hl
  have hinJx4a65c : ∀ w ∈ wsJx4a65c0, w ∈ wsJxc12de_init_da8c8 := by decide +kernel
  have hk1 := hts (.fieldLink RJxc12de 7 "java/util/AbstractList" "modCount" "I") (by decide +kernel)
  refine lv_aload_n hx hb dJxc12de_init_da8c8_0 rfl (lv_at hl 0 rfl) ?_
  refine va_callv (va_runI (As := []) (rest := []) ⟨hx, hb, hml, hown, hts⟩ (c_absColl l D ty A u C ma t0 mi kl x) (cwI 0 hts gJxc12de_init_da8c8_Jxa1e45_init_da8c8 rfl rfl rfl (hts (.initialized RJxa1e45) (by decide +kernel)) (hts (.methodLink RJxc12de 1 yJxa1e45_init_da8c8) (by decide +kernel)) (hts (.instanceMethod yJxa1e45_init_da8c8) (by decide +kernel)) rfl (by decide +kernel) ⟨Nat.le_of_ble_eq_true rfl, Nat.le_of_ble_eq_true rfl⟩) ⟨zBl mI_blind, fun U h1 h2 => ⟨rfl, mI_pre hM hK hMS hS U h1 h2⟩⟩ rfl rfl hl.1 rfl (lv_room (Nat.le_of_ble_eq_true rfl)) dJxc12de_init_da8c8_1 ⟨Nat.le_of_ble_eq_true rfl, Nat.le_of_ble_eq_true rfl⟩) hS (fun _ _ h => h) (fun _ h => h) (fun Z_1 t H1 locs ht hvm hw hB9 hz1 hk1 hS => ?_)
  obtain ⟨hM, -, -⟩ := hB9
  rw [ht] at hM
  clear hk1 hz1 hvm ht
  clear t
  generalize H1 = H at hM hS ⊢
  rw [hw] at hM
  clear hw
  refine lv_aload_n hx hb dJxc12de_init_da8c8_4 rfl (lv_at hl 0 rfl) ?_
  refine lv_iconst (v := nI 0) hx hb dJxc12de_init_da8c8_5 (by decide) ?_
  refine mput (v := .int (nI 0)) (ty := .int) hx hb hts hinJx4a65c tyJx4a65c tyJx4a65c_ok nmJx4a65c hown hK hM hS hu1 rfl hC1 rfl 0 (by decide) (hk1) (fun _ h9 => h9) rfl (by decide +kernel) rfl rfl (Nat.le_of_ble_eq_true rfl) dJxc12de_init_da8c8_6 (fun H locs hM hS ho => ?_)
  obtain ⟨C_2, eC_2⟩ : ∃ z, z = up2 C kl x (eO 0 [.int (nI 0), .null, .int 0]) := ⟨_, rfl⟩
  have hM : mW D A u C_2 ma H := by rw [eC_2]; exact hM
  have hC_3 : C_2 kl x = eO 0 [.int (nI 0), .null, .int 0] := by rw [eC_2]; exact up2_s _ _ _ _
  exact W.vret hx hb hr (fun t ht hW => ⟨⟨C_2, rfl, by rw [eC_2], mI_pre hM hK hMS hS t ht hW⟩, hS.F ht⟩) hS.2.2 dJxc12de_init_da8c8_9
set_option maxHeartbeats 4000000 in
set_option maxRecDepth 100000 in
theorem c_lst (l : Launch) (D : va_G) (ty : Nat → ClassId) (A : Nat → Prop) (u : Nat → Nat → Prop) (C : Nat → Nat → va_E) (ma : Nat → Nat → Nat) (t0 mi : Nat) (kl x : Nat) (hu1 : u kl x) (hC1 : C kl x = eO 0 [.int 0, .null, .int 0]) : Met l yJx4a65c_init_da8c8 wsJx4a65c_init_da8c8 ({ frames := 3, cells := 0, slots := 0, locals := 60 }) (va_Pc [.ref (ma kl x)] (mI D ty A u C ma t0 mi)) (va_Qv (fun C2 : Nat → Nat → va_E => C2 = up2 C kl x (eO 0 [.int (nI 0), .ref t0, .int 0])) (fun C2 t => mI D ty A u C2 ma t0 mi t) A) 0 0 A := by
  refine zMetI (cc := cJx4a65c_init_da8c8) (maxL := 1) (ret := none) (by decide) rfl (Nat.le_of_ble_eq_true rfl) ?_
  intro p e s m below meth c hx hb hr hts hown hlocks hml hB hin9 ls hl
  obtain ⟨hM, hK, hMS⟩ := hB
  have hS : va_S A s.heap s.heap [] := va_S.rf
  have hl : lv_has ls 1 [(0, .ref (ma kl x))] := hl
  have hk0 := hts (.fieldLink RJx4a65c 39 "java/util/ArrayList" "DEFAULTCAPACITY_EMPTY_ELEMENTDATA" "[Ljava/lang/Object;") (by decide +kernel)
  have hinJx4a65c : ∀ w ∈ wsJx4a65c0, w ∈ wsJx4a65c_init_da8c8 := by decide +kernel
  have hk2 := hts (.fieldLink RJx4a65c 9 "java/util/ArrayList" "elementData" "[Ljava/lang/Object;") (by decide +kernel)
  refine lv_aload_n hx hb dJx4a65c_init_da8c8_0 rfl (lv_at hl 0 rfl) ?_
  refine va_callv (va_runI (As := []) (rest := []) ⟨hx, hb, hml, hown, hts⟩ (c_absList l D ty A u C ma t0 mi kl x hu1 hC1) (cwI 0 hts gJx4a65c_init_da8c8_Jxc12de_init_da8c8 rfl rfl rfl (hts (.initialized RJxc12de) (by decide +kernel)) (hts (.methodLink RJx4a65c 1 yJxc12de_init_da8c8) (by decide +kernel)) (hts (.instanceMethod yJxc12de_init_da8c8) (by decide +kernel)) rfl (by decide +kernel) ⟨Nat.le_of_ble_eq_true rfl, Nat.le_of_ble_eq_true rfl⟩) ⟨zBl mI_blind, fun U h1 h2 => ⟨rfl, mI_pre hM hK hMS hS U h1 h2⟩⟩ rfl rfl hl.1 rfl (lv_room (Nat.le_of_ble_eq_true rfl)) dJx4a65c_init_da8c8_1 ⟨Nat.le_of_ble_eq_true rfl, Nat.le_of_ble_eq_true rfl⟩) hS (fun _ _ h => h) (fun _ h => h) (fun Z_1 t H1 locs ht hvm hw hB9 hz1 hk1 hS => ?_)
  obtain ⟨hM, -, -⟩ := hB9
  rw [ht] at hM
  clear hk1 hz1 hvm ht
  clear t
  generalize H1 = H at hM hS ⊢
  rw [hw] at hM
  clear hw
  obtain ⟨C_2, eC_2⟩ : ∃ z, z = up2 C kl x (eO 0 [.int (nI 0), .null, .int 0]) := ⟨_, rfl⟩
  have hM : mW D A u C_2 ma H := by rw [eC_2]; exact hM
  have hC_3 : C_2 kl x = eO 0 [.int (nI 0), .null, .int 0] := by rw [eC_2]; exact up2_s _ _ _ _
  refine lv_aload_n hx hb dJx4a65c_init_da8c8_4 rfl (lv_at hl 0 rfl) ?_
  refine va_gets hx hb hMS.1 hS hown (hk0) (fun _ h9 => h9) dJx4a65c_init_da8c8_5 ?_
  refine mput (v := .ref t0) (ty := .array (.object "java/lang/Object")) hx hb hts hinJx4a65c tyJx4a65c tyJx4a65c_ok nmJx4a65c hown hK hM hS hu1 rfl hC_3 rfl 1 (by decide) (hk2) (fun _ h9 => h9) rfl (by decide +kernel) rfl rfl (Nat.le_of_ble_eq_true rfl) dJx4a65c_init_da8c8_8 (fun H locs hM hS ho => ?_)
  obtain ⟨C_4, eC_4⟩ : ∃ z, z = up2 C_2 kl x (eO 0 [.int (nI 0), .ref t0, .int 0]) := ⟨_, rfl⟩
  have hM : mW D A u C_4 ma H := by rw [eC_4]; exact hM
  have hC_5 : C_4 kl x = eO 0 [.int (nI 0), .ref t0, .int 0] := by rw [eC_4]; exact up2_s _ _ _ _
  exact W.vret hx hb hr (fun t ht hW => ⟨⟨C_4, rfl, by rw [eC_4, eC_2]; simp only [up2_2], mI_pre hM hK hMS hS t ht hW⟩, hS.F ht⟩) hS.2.2 dJx4a65c_init_da8c8_11
set_option maxHeartbeats 4000000 in
set_option maxRecDepth 100000 in
theorem c_X8_init (l : Launch) (D : va_G) (ty : Nat → ClassId) (A : Nat → Prop) (u : Nat → Nat → Prop) (C : Nat → Nat → va_E) (ma : Nat → Nat → Nat) (t0 mi : Nat) (kq x : Nat) (hu1 : u kq x) (hC1 : C kq x = eO 9 [.int 0, .int 0, .int 0, .int 0]) (a1 a2 a3 a4 : Int32) : Met l yX8_init wsX8_init ({ frames := 1, cells := 0, slots := 0, locals := 20 }) (va_Pc [.ref (ma kq x), .int a1, .int a2, .int a3, .int a4] (mI D ty A u C ma t0 mi)) (va_Qv (fun C2 : Nat → Nat → va_E => C2 = up2 C kq x (eO 9 [.int a1, .int a2, .int a3, .int a4])) (fun C2 t => mI D ty A u C2 ma t0 mi t) A) 0 0 A := by
  refine zMetI (cc := cX8_init) (maxL := 5) (ret := none) (by decide) rfl (Nat.le_of_ble_eq_true rfl) ?_
  intro p e s m below meth c hx hb hr hts hown hlocks hml hB hin9 ls hl
  obtain ⟨hM, hK, hMS⟩ := hB
  have hS : va_S A s.heap s.heap [] := va_S.rf
  have hl : lv_has ls 5 [(0, .ref (ma kq x)), (1, .int a1), (2, .int a2), (3, .int a3), (4, .int a4)] := hl
  have hinX8 : ∀ w ∈ wsX80, w ∈ wsX8_init := by decide +kernel
  have hk1 := hts (.fieldLink RX8 7 "DatamarketDeskModel$Link" "set" "I") (by decide +kernel)
  have hk2 := hts (.fieldLink RX8 13 "DatamarketDeskModel$Link" "version" "I") (by decide +kernel)
  have hk3 := hts (.fieldLink RX8 16 "DatamarketDeskModel$Link" "field" "I") (by decide +kernel)
  have hk4 := hts (.fieldLink RX8 19 "DatamarketDeskModel$Link" "share" "I") (by decide +kernel)
  refine lv_aload_n hx hb dX8_init_0 rfl (lv_at hl 0 rfl) ?_
  refine W.objInit hx hb hown (hts (.methodLink RX8 1 objectInit) (by decide +kernel)) (hts (.instanceMethod objectInit) (by decide +kernel)) (hts (.code objectInit ⟨#[0xb1]⟩ 1 none) (by decide +kernel)) rfl (by rw [hml]; exact hl.1) rfl dX8_init_1 (Nat.le_of_ble_eq_true rfl) (Nat.le_of_ble_eq_true rfl) ?_
  refine W.eq (g2 := F0 m 4 ls []) rfl ?_
  refine lv_aload_n hx hb dX8_init_4 rfl (lv_at hl 0 rfl) ?_
  refine lv_iload_n hx hb dX8_init_5 rfl (lv_at hl 1 rfl) ?_
  refine mputF (v := .int a1) (ty := .int) hx hb hts hinX8 tyX8 tyX8_ok nmX8 hown hK hM hS hu1 rfl hC1 rfl 0 (by decide) (hk1) (fun _ h9 => h9) rfl hin9 rfl (by decide +kernel) rfl rfl (Nat.le_of_ble_eq_true rfl) dX8_init_6 (fun H locs hM hS ho => ?_)
  obtain ⟨C_1, eC_1⟩ : ∃ z, z = up2 C kq x (eO 9 [.int a1, .int 0, .int 0, .int 0]) := ⟨_, rfl⟩
  have hM : mW D A u C_1 ma H := by rw [eC_1]; exact hM
  have hC_2 : C_1 kq x = eO 9 [.int a1, .int 0, .int 0, .int 0] := by rw [eC_1]; exact up2_s _ _ _ _
  refine lv_aload_n hx hb dX8_init_9 rfl (lv_at hl 0 rfl) ?_
  refine lv_iload_n hx hb dX8_init_10 rfl (lv_at hl 2 rfl) ?_
  refine mputF (v := .int a2) (ty := .int) hx hb hts hinX8 tyX8 tyX8_ok nmX8 hown hK hM hS hu1 rfl hC_2 rfl 1 (by decide) (hk2) (fun _ h9 => h9) rfl hin9 rfl (by decide +kernel) rfl rfl (Nat.le_of_ble_eq_true rfl) dX8_init_11 (fun H locs hM hS ho => ?_)
  obtain ⟨C_3, eC_3⟩ : ∃ z, z = up2 C_1 kq x (eO 9 [.int a1, .int a2, .int 0, .int 0]) := ⟨_, rfl⟩
  have hM : mW D A u C_3 ma H := by rw [eC_3]; exact hM
  have hC_4 : C_3 kq x = eO 9 [.int a1, .int a2, .int 0, .int 0] := by rw [eC_3]; exact up2_s _ _ _ _
  refine lv_aload_n hx hb dX8_init_14 rfl (lv_at hl 0 rfl) ?_
  refine lv_iload_n hx hb dX8_init_15 rfl (lv_at hl 3 rfl) ?_
  refine mputF (v := .int a3) (ty := .int) hx hb hts hinX8 tyX8 tyX8_ok nmX8 hown hK hM hS hu1 rfl hC_4 rfl 2 (by decide) (hk3) (fun _ h9 => h9) rfl hin9 rfl (by decide +kernel) rfl rfl (Nat.le_of_ble_eq_true rfl) dX8_init_16 (fun H locs hM hS ho => ?_)
  obtain ⟨C_5, eC_5⟩ : ∃ z, z = up2 C_3 kq x (eO 9 [.int a1, .int a2, .int a3, .int 0]) := ⟨_, rfl⟩
  have hM : mW D A u C_5 ma H := by rw [eC_5]; exact hM
  have hC_6 : C_5 kq x = eO 9 [.int a1, .int a2, .int a3, .int 0] := by rw [eC_5]; exact up2_s _ _ _ _
  refine lv_aload_n hx hb dX8_init_19 rfl (lv_at hl 0 rfl) ?_
  refine lv_iload hx hb dX8_init_20 (lv_at hl 4 rfl) ?_
  refine mputF (v := .int a4) (ty := .int) hx hb hts hinX8 tyX8 tyX8_ok nmX8 hown hK hM hS hu1 rfl hC_6 rfl 3 (by decide) (hk4) (fun _ h9 => h9) rfl hin9 rfl (by decide +kernel) rfl rfl (Nat.le_of_ble_eq_true rfl) dX8_init_22 (fun H locs hM hS ho => ?_)
  obtain ⟨C_7, eC_7⟩ : ∃ z, z = up2 C_5 kq x (eO 9 [.int a1, .int a2, .int a3, .int a4]) := ⟨_, rfl⟩
  have hM : mW D A u C_7 ma H := by rw [eC_7]; exact hM
  have hC_8 : C_7 kq x = eO 9 [.int a1, .int a2, .int a3, .int a4] := by rw [eC_7]; exact up2_s _ _ _ _
  exact W.vret hx hb hr (fun t ht hW => ⟨⟨C_7, rfl, by rw [eC_7, eC_5, eC_3, eC_1]; simp only [up2_2], mI_pre hM hK hMS hS t ht hW⟩, hS.F ht⟩) hS.2.2 dX8_init_25
set_option maxHeartbeats 4000000 in
set_option maxRecDepth 100000 in
theorem c_X10_init (l : Launch) (D : va_G) (ty : Nat → ClassId) (A : Nat → Prop) (u : Nat → Nat → Prop) (C : Nat → Nat → va_E) (ma : Nat → Nat → Nat) (t0 mi : Nat) (kq x : Nat) (hu1 : u kq x) (hC1 : C kq x = eO 11 [.int 0, .int 0, .int 0, .int 0, .int 0]) (a1 a2 a3 a4 : Int32) : Met l yX10_init wsX10_init ({ frames := 1, cells := 0, slots := 0, locals := 20 }) (va_Pc [.ref (ma kq x), .int a1, .int a2, .int a3, .int a4] (mI D ty A u C ma t0 mi)) (va_Qv (fun C2 : Nat → Nat → va_E => C2 = up2 C kq x (eO 11 [.int a1, .int a2, .int a3, .int a4, .int 0])) (fun C2 t => mI D ty A u C2 ma t0 mi t) A) 0 0 A := by
  refine zMetI (cc := cX10_init) (maxL := 5) (ret := none) (by decide) rfl (Nat.le_of_ble_eq_true rfl) ?_
  intro p e s m below meth c hx hb hr hts hown hlocks hml hB hin9 ls hl
  obtain ⟨hM, hK, hMS⟩ := hB
  have hS : va_S A s.heap s.heap [] := va_S.rf
  have hl : lv_has ls 5 [(0, .ref (ma kq x)), (1, .int a1), (2, .int a2), (3, .int a3), (4, .int a4)] := hl
  have hinX10 : ∀ w ∈ wsX100, w ∈ wsX10_init := by decide +kernel
  have hk1 := hts (.fieldLink RX10 7 "DatamarketDeskModel$Source" "set" "I") (by decide +kernel)
  have hk2 := hts (.fieldLink RX10 13 "DatamarketDeskModel$Source" "field" "I") (by decide +kernel)
  have hk3 := hts (.fieldLink RX10 16 "DatamarketDeskModel$Source" "from" "I") (by decide +kernel)
  have hk4 := hts (.fieldLink RX10 19 "DatamarketDeskModel$Source" "source" "I") (by decide +kernel)
  refine lv_aload_n hx hb dX10_init_0 rfl (lv_at hl 0 rfl) ?_
  refine W.objInit hx hb hown (hts (.methodLink RX10 1 objectInit) (by decide +kernel)) (hts (.instanceMethod objectInit) (by decide +kernel)) (hts (.code objectInit ⟨#[0xb1]⟩ 1 none) (by decide +kernel)) rfl (by rw [hml]; exact hl.1) rfl dX10_init_1 (Nat.le_of_ble_eq_true rfl) (Nat.le_of_ble_eq_true rfl) ?_
  refine W.eq (g2 := F0 m 4 ls []) rfl ?_
  refine lv_aload_n hx hb dX10_init_4 rfl (lv_at hl 0 rfl) ?_
  refine lv_iload_n hx hb dX10_init_5 rfl (lv_at hl 1 rfl) ?_
  refine mputF (v := .int a1) (ty := .int) hx hb hts hinX10 tyX10 tyX10_ok nmX10 hown hK hM hS hu1 rfl hC1 rfl 0 (by decide) (hk1) (fun _ h9 => h9) rfl hin9 rfl (by decide +kernel) rfl rfl (Nat.le_of_ble_eq_true rfl) dX10_init_6 (fun H locs hM hS ho => ?_)
  obtain ⟨C_1, eC_1⟩ : ∃ z, z = up2 C kq x (eO 11 [.int a1, .int 0, .int 0, .int 0, .int 0]) := ⟨_, rfl⟩
  have hM : mW D A u C_1 ma H := by rw [eC_1]; exact hM
  have hC_2 : C_1 kq x = eO 11 [.int a1, .int 0, .int 0, .int 0, .int 0] := by rw [eC_1]; exact up2_s _ _ _ _
  refine lv_aload_n hx hb dX10_init_9 rfl (lv_at hl 0 rfl) ?_
  refine lv_iload_n hx hb dX10_init_10 rfl (lv_at hl 2 rfl) ?_
  refine mputF (v := .int a2) (ty := .int) hx hb hts hinX10 tyX10 tyX10_ok nmX10 hown hK hM hS hu1 rfl hC_2 rfl 1 (by decide) (hk2) (fun _ h9 => h9) rfl hin9 rfl (by decide +kernel) rfl rfl (Nat.le_of_ble_eq_true rfl) dX10_init_11 (fun H locs hM hS ho => ?_)
  obtain ⟨C_3, eC_3⟩ : ∃ z, z = up2 C_1 kq x (eO 11 [.int a1, .int a2, .int 0, .int 0, .int 0]) := ⟨_, rfl⟩
  have hM : mW D A u C_3 ma H := by rw [eC_3]; exact hM
  have hC_4 : C_3 kq x = eO 11 [.int a1, .int a2, .int 0, .int 0, .int 0] := by rw [eC_3]; exact up2_s _ _ _ _
  refine lv_aload_n hx hb dX10_init_14 rfl (lv_at hl 0 rfl) ?_
  refine lv_iload_n hx hb dX10_init_15 rfl (lv_at hl 3 rfl) ?_
  refine mputF (v := .int a3) (ty := .int) hx hb hts hinX10 tyX10 tyX10_ok nmX10 hown hK hM hS hu1 rfl hC_4 rfl 2 (by decide) (hk3) (fun _ h9 => h9) rfl hin9 rfl (by decide +kernel) rfl rfl (Nat.le_of_ble_eq_true rfl) dX10_init_16 (fun H locs hM hS ho => ?_)
  obtain ⟨C_5, eC_5⟩ : ∃ z, z = up2 C_3 kq x (eO 11 [.int a1, .int a2, .int a3, .int 0, .int 0]) := ⟨_, rfl⟩
  have hM : mW D A u C_5 ma H := by rw [eC_5]; exact hM
  have hC_6 : C_5 kq x = eO 11 [.int a1, .int a2, .int a3, .int 0, .int 0] := by rw [eC_5]; exact up2_s _ _ _ _
  refine lv_aload_n hx hb dX10_init_19 rfl (lv_at hl 0 rfl) ?_
  refine lv_iload hx hb dX10_init_20 (lv_at hl 4 rfl) ?_
  refine mputF (v := .int a4) (ty := .int) hx hb hts hinX10 tyX10 tyX10_ok nmX10 hown hK hM hS hu1 rfl hC_6 rfl 3 (by decide) (hk4) (fun _ h9 => h9) rfl hin9 rfl (by decide +kernel) rfl rfl (Nat.le_of_ble_eq_true rfl) dX10_init_22 (fun H locs hM hS ho => ?_)
  obtain ⟨C_7, eC_7⟩ : ∃ z, z = up2 C_5 kq x (eO 11 [.int a1, .int a2, .int a3, .int a4, .int 0]) := ⟨_, rfl⟩
  have hM : mW D A u C_7 ma H := by rw [eC_7]; exact hM
  have hC_8 : C_7 kq x = eO 11 [.int a1, .int a2, .int a3, .int a4, .int 0] := by rw [eC_7]; exact up2_s _ _ _ _
  exact W.vret hx hb hr (fun t ht hW => ⟨⟨C_7, rfl, by rw [eC_7, eC_5, eC_3, eC_1]; simp only [up2_2], mI_pre hM hK hMS hS t ht hW⟩, hS.F ht⟩) hS.2.2 dX10_init_25
set_option maxHeartbeats 4000000 in
set_option maxRecDepth 100000 in
theorem c_X6_init (l : Launch) (D : va_G) (ty : Nat → ClassId) (A : Nat → Prop) (u : Nat → Nat → Prop) (C : Nat → Nat → va_E) (ma : Nat → Nat → Nat) (t0 mi : Nat) (kq x : Nat) (hu1 : u kq x) (hC1 : C kq x = eO 7 [.int 0, .int 0, .int 0, .int 0, .int 0, .int 0]) (a1 a2 a3 a4 a5 a6 : Int32) : Met l yX6_init wsX6_init ({ frames := 1, cells := 0, slots := 0, locals := 20 }) (va_Pc [.ref (ma kq x), .int a1, .int a2, .int a3, .int a4, .int a5, .int a6] (mI D ty A u C ma t0 mi)) (va_Qv (fun C2 : Nat → Nat → va_E => C2 = up2 C kq x (eO 7 [.int a1, .int a2, .int a3, .int a4, .int a5, .int a6])) (fun C2 t => mI D ty A u C2 ma t0 mi t) A) 0 0 A := by
  refine zMetI (cc := cX6_init) (maxL := 7) (ret := none) (by decide) rfl (Nat.le_of_ble_eq_true rfl) ?_
  intro p e s m below meth c hx hb hr hts hown hlocks hml hB hin9 ls hl
  obtain ⟨hM, hK, hMS⟩ := hB
  have hS : va_S A s.heap s.heap [] := va_S.rf
  have hl : lv_has ls 7 [(0, .ref (ma kq x)), (1, .int a1), (2, .int a2), (3, .int a3), (4, .int a4), (5, .int a5), (6, .int a6)] := hl
  have hinX6 : ∀ w ∈ wsX60, w ∈ wsX6_init := by decide +kernel
  have hk1 := hts (.fieldLink RX6 7 "DatamarketDeskModel$Contract" "reader" "I") (by decide +kernel)
  have hk2 := hts (.fieldLink RX6 13 "DatamarketDeskModel$Contract" "set" "I") (by decide +kernel)
  have hk3 := hts (.fieldLink RX6 16 "DatamarketDeskModel$Contract" "fields" "I") (by decide +kernel)
  have hk4 := hts (.fieldLink RX6 19 "DatamarketDeskModel$Contract" "purposes" "I") (by decide +kernel)
  have hk5 := hts (.fieldLink RX6 22 "DatamarketDeskModel$Contract" "from" "I") (by decide +kernel)
  have hk6 := hts (.fieldLink RX6 25 "DatamarketDeskModel$Contract" "to" "I") (by decide +kernel)
  refine lv_aload_n hx hb dX6_init_0 rfl (lv_at hl 0 rfl) ?_
  refine W.objInit hx hb hown (hts (.methodLink RX6 1 objectInit) (by decide +kernel)) (hts (.instanceMethod objectInit) (by decide +kernel)) (hts (.code objectInit ⟨#[0xb1]⟩ 1 none) (by decide +kernel)) rfl (by rw [hml]; exact hl.1) rfl dX6_init_1 (Nat.le_of_ble_eq_true rfl) (Nat.le_of_ble_eq_true rfl) ?_
  refine W.eq (g2 := F0 m 4 ls []) rfl ?_
  refine lv_aload_n hx hb dX6_init_4 rfl (lv_at hl 0 rfl) ?_
  refine lv_iload_n hx hb dX6_init_5 rfl (lv_at hl 1 rfl) ?_
  refine mputF (v := .int a1) (ty := .int) hx hb hts hinX6 tyX6 tyX6_ok nmX6 hown hK hM hS hu1 rfl hC1 rfl 0 (by decide) (hk1) (fun _ h9 => h9) rfl hin9 rfl (by decide +kernel) rfl rfl (Nat.le_of_ble_eq_true rfl) dX6_init_6 (fun H locs hM hS ho => ?_)
  obtain ⟨C_1, eC_1⟩ : ∃ z, z = up2 C kq x (eO 7 [.int a1, .int 0, .int 0, .int 0, .int 0, .int 0]) := ⟨_, rfl⟩
  have hM : mW D A u C_1 ma H := by rw [eC_1]; exact hM
  have hC_2 : C_1 kq x = eO 7 [.int a1, .int 0, .int 0, .int 0, .int 0, .int 0] := by rw [eC_1]; exact up2_s _ _ _ _
  refine lv_aload_n hx hb dX6_init_9 rfl (lv_at hl 0 rfl) ?_
  refine lv_iload_n hx hb dX6_init_10 rfl (lv_at hl 2 rfl) ?_
  refine mputF (v := .int a2) (ty := .int) hx hb hts hinX6 tyX6 tyX6_ok nmX6 hown hK hM hS hu1 rfl hC_2 rfl 1 (by decide) (hk2) (fun _ h9 => h9) rfl hin9 rfl (by decide +kernel) rfl rfl (Nat.le_of_ble_eq_true rfl) dX6_init_11 (fun H locs hM hS ho => ?_)
  obtain ⟨C_3, eC_3⟩ : ∃ z, z = up2 C_1 kq x (eO 7 [.int a1, .int a2, .int 0, .int 0, .int 0, .int 0]) := ⟨_, rfl⟩
  have hM : mW D A u C_3 ma H := by rw [eC_3]; exact hM
  have hC_4 : C_3 kq x = eO 7 [.int a1, .int a2, .int 0, .int 0, .int 0, .int 0] := by rw [eC_3]; exact up2_s _ _ _ _
  refine lv_aload_n hx hb dX6_init_14 rfl (lv_at hl 0 rfl) ?_
  refine lv_iload_n hx hb dX6_init_15 rfl (lv_at hl 3 rfl) ?_
  refine mputF (v := .int a3) (ty := .int) hx hb hts hinX6 tyX6 tyX6_ok nmX6 hown hK hM hS hu1 rfl hC_4 rfl 2 (by decide) (hk3) (fun _ h9 => h9) rfl hin9 rfl (by decide +kernel) rfl rfl (Nat.le_of_ble_eq_true rfl) dX6_init_16 (fun H locs hM hS ho => ?_)
  obtain ⟨C_5, eC_5⟩ : ∃ z, z = up2 C_3 kq x (eO 7 [.int a1, .int a2, .int a3, .int 0, .int 0, .int 0]) := ⟨_, rfl⟩
  have hM : mW D A u C_5 ma H := by rw [eC_5]; exact hM
  have hC_6 : C_5 kq x = eO 7 [.int a1, .int a2, .int a3, .int 0, .int 0, .int 0] := by rw [eC_5]; exact up2_s _ _ _ _
  refine lv_aload_n hx hb dX6_init_19 rfl (lv_at hl 0 rfl) ?_
  refine lv_iload hx hb dX6_init_20 (lv_at hl 4 rfl) ?_
  refine mputF (v := .int a4) (ty := .int) hx hb hts hinX6 tyX6 tyX6_ok nmX6 hown hK hM hS hu1 rfl hC_6 rfl 3 (by decide) (hk4) (fun _ h9 => h9) rfl hin9 rfl (by decide +kernel) rfl rfl (Nat.le_of_ble_eq_true rfl) dX6_init_22 (fun H locs hM hS ho => ?_)
  obtain ⟨C_7, eC_7⟩ : ∃ z, z = up2 C_5 kq x (eO 7 [.int a1, .int a2, .int a3, .int a4, .int 0, .int 0]) := ⟨_, rfl⟩
  have hM : mW D A u C_7 ma H := by rw [eC_7]; exact hM
  have hC_8 : C_7 kq x = eO 7 [.int a1, .int a2, .int a3, .int a4, .int 0, .int 0] := by rw [eC_7]; exact up2_s _ _ _ _
  refine lv_aload_n hx hb dX6_init_25 rfl (lv_at hl 0 rfl) ?_
  refine lv_iload hx hb dX6_init_26 (lv_at hl 5 rfl) ?_
  refine mputF (v := .int a5) (ty := .int) hx hb hts hinX6 tyX6 tyX6_ok nmX6 hown hK hM hS hu1 rfl hC_8 rfl 4 (by decide) (hk5) (fun _ h9 => h9) rfl hin9 rfl (by decide +kernel) rfl rfl (Nat.le_of_ble_eq_true rfl) dX6_init_28 (fun H locs hM hS ho => ?_)
  obtain ⟨C_9, eC_9⟩ : ∃ z, z = up2 C_7 kq x (eO 7 [.int a1, .int a2, .int a3, .int a4, .int a5, .int 0]) := ⟨_, rfl⟩
  have hM : mW D A u C_9 ma H := by rw [eC_9]; exact hM
  have hC_10 : C_9 kq x = eO 7 [.int a1, .int a2, .int a3, .int a4, .int a5, .int 0] := by rw [eC_9]; exact up2_s _ _ _ _
  refine lv_aload_n hx hb dX6_init_31 rfl (lv_at hl 0 rfl) ?_
  refine lv_iload hx hb dX6_init_32 (lv_at hl 6 rfl) ?_
  refine mput (v := .int a6) (ty := .int) hx hb hts hinX6 tyX6 tyX6_ok nmX6 hown hK hM hS hu1 rfl hC_10 rfl 5 (by decide) (hk6) (fun _ h9 => h9) rfl (by decide +kernel) rfl rfl (Nat.le_of_ble_eq_true rfl) dX6_init_34 (fun H locs hM hS ho => ?_)
  obtain ⟨C_11, eC_11⟩ : ∃ z, z = up2 C_9 kq x (eO 7 [.int a1, .int a2, .int a3, .int a4, .int a5, .int a6]) := ⟨_, rfl⟩
  have hM : mW D A u C_11 ma H := by rw [eC_11]; exact hM
  have hC_12 : C_11 kq x = eO 7 [.int a1, .int a2, .int a3, .int a4, .int a5, .int a6] := by rw [eC_11]; exact up2_s _ _ _ _
  exact W.vret hx hb hr (fun t ht hW => ⟨⟨C_11, rfl, by rw [eC_11, eC_9, eC_7, eC_5, eC_3, eC_1]; simp only [up2_2], mI_pre hM hK hMS hS t ht hW⟩, hS.F ht⟩) hS.2.2 dX6_init_37
