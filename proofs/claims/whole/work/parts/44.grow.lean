set_option maxHeartbeats 4000000 in
set_option maxRecDepth 100000 in
theorem c_grow0 (l : Launch) (D : va_G) (ty : Nat → ClassId) (A : Nat → Prop) (u : Nat → Nat → Prop) (C : Nat → Nat → va_E) (ma : Nat → Nat → Nat) (t0 mi : Nat) (kl x n : Nat) (f : Nat → Nat) (hL : isL ty t0 u C ma kl x n f) (h0 : n = 0) : Met l yJx4a65c_grow_92f84 wsJx4a65c_grow_92f84 ({ frames := 1, cells := 1, slots := 60, locals := 18 }) (va_Pc [.ref (ma kl x), .int (nI (n + 1))] (mI D ty A u C ma t0 mi)) (va_Qr (fun S : mSt => chg kl x u C ma S ∧ gr ty kl x n f S) (fun S q t => q = S.2.2 (kl + 1) x ∧ mI D ty A S.1 S.2.1 S.2.2 t0 mi t) A) 1 60 A := by
  refine zMet (cc := cJx4a65c_grow_92f84) (maxL := 4) (ret := (some (.array (.object "java/lang/Object")))) (by decide) rfl (Nat.le_of_ble_eq_true rfl) ?_
  intro p e s m below meth c hx hb hr hts hown hlocks hml hB ls hl
  obtain ⟨hM, hK, hMS⟩ := hB
  have hS : va_S A s.heap s.heap [] := va_S.rf
  obtain ⟨hu1, hn1, m1, ⟨-, hC1⟩ | ⟨hpos, -⟩⟩ := hL
  rotate_left
  · omega
  have hl : lv_has ls 4 [(0, .ref (ma kl x)), (1, .int (nI (n + 1)))] := hl
  have hinJx4a65c : ∀ w ∈ wsJx4a65c0, w ∈ wsJx4a65c_grow_92f84 := by decide +kernel
  have hk1 := hts (.fieldLink RJx4a65c 9 "java/util/ArrayList" "elementData" "[Ljava/lang/Object;") (by decide +kernel)
  have hk2 := hts (.fieldLink RJx4a65c 39 "java/util/ArrayList" "DEFAULTCAPACITY_EMPTY_ELEMENTDATA" "[Ljava/lang/Object;") (by decide +kernel)
  have hk3 := hts (.classLink RJx4a65c 7 "java/lang/Object") (by decide +kernel)
  refine lv_aload_n hx hb dJx4a65c_grow_92f84_0 rfl (lv_at hl 0 rfl) ?_
  refine va_get hx hb hts hinJx4a65c hown hK (hM.Pa hu1 rfl hC1) 0 rfl rfl 1 (by decide) (hk1) (fun _ h9 => h9) rfl dJx4a65c_grow_92f84_1 ?_
  refine hMS.len hx hb hS dJx4a65c_grow_92f84_4 ?_
  refine lv_istore_n (lv' := [(2, .int (nI 0)), (0, .ref (ma kl x)), (1, .int (nI (n + 1)))]) hx hb dJx4a65c_grow_92f84_5 rfl hl (by decide) rfl (fun ls hl => ?_)
  refine lv_iload_n hx hb dJx4a65c_grow_92f84_6 rfl (lv_at hl 0 rfl) ?_
  refine lv_if_gt (tgt := 20) hx hb dJx4a65c_grow_92f84_7 (by decide) (fun c_1 => ?_) (fun c_1 => ?_)
  · have c_1 := zq_gtT (x := 0) (by omega) c_1
    omega
  · have c_1 := zq_gtF (x := 0) (by omega) c_1
    refine lv_aload_n hx hb dJx4a65c_grow_92f84_10 rfl (lv_at hl 1 rfl) ?_
    refine va_get hx hb hts hinJx4a65c hown hK (hM.Pa hu1 rfl hC1) 0 rfl rfl 1 (by decide) (hk1) (fun _ h9 => h9) rfl dJx4a65c_grow_92f84_11 ?_
    refine va_gets hx hb hMS.1 hS hown (hk2) (fun _ h9 => h9) dJx4a65c_grow_92f84_14 ?_
    refine lv_acmp_eq (rx := some t0) (ry := some t0) (tgt := 45) hx hb dJx4a65c_grow_92f84_17 (by decide) (fun _ => ?_) (fun h => absurd rfl h)
    refine lv_aload_n hx hb dJx4a65c_grow_92f84_45 rfl (lv_at hl 1 rfl) ?_
    refine lv_bipush (v := nI 10) hx hb dJx4a65c_grow_92f84_46 (by decide) ?_
    refine lv_iload_n hx hb dJx4a65c_grow_92f84_48 rfl (lv_at hl 2 rfl) ?_
    refine va_mmax hx hb (hml.trans hl.1.symm) hown (hts (.methodLink RJx4a65c 79 Lib.Math.max.name) (by decide +kernel)) (hts (.static Lib.Math.max.name) (by decide +kernel)) (hts (.initialized "java/lang/Math") (by decide +kernel)) (hts (.code Lib.Math.max.name Lib.Math.max.code 2 (some .int)) (by decide +kernel)) (Nat.le_of_ble_eq_true rfl) (Nat.le_of_ble_eq_true rfl) (Nat.le_of_ble_eq_true rfl) (Nat.le_of_ble_eq_true rfl) dJx4a65c_grow_92f84_49 ?_
    refine zeq (zmax_def (nI 10) (nI (n + 1))).symm ?_
    refine zeq (zmax_r (by omega) (by omega)) ?_
    refine manewq hx hb hown (hk3) hMS.2.2.2.2.1 hK hM hS (kl + 1) x (n := 10) (N' := 10) (by omega) rfl (by omega) (Nat.le_of_ble_eq_true rfl) (by show _ + _ ≤ 60; omega) dJx4a65c_grow_92f84_52 (fun H hM hS => ?_)
    generalize hq9 : Array.size s.heap = q_2 at hM ⊢
    obtain ⟨u_3, eu_3⟩ : ∃ z, z = upU u (kl + 1) x := ⟨_, rfl⟩
    obtain ⟨C_4, eC_4⟩ : ∃ z, z = up2 C (kl + 1) x (eR (ty 2) 10 (fun _ => none)) := ⟨_, rfl⟩
    obtain ⟨ma_5, ema_5⟩ : ∃ z, z = up2 ma (kl + 1) x q_2 := ⟨_, rfl⟩
    have hM : mW D A u_3 C_4 ma_5 H := by rw [eu_3, eC_4, ema_5]; exact hM
    have hu_6 : u_3 kl x := by rw [eu_3]; exact upU_o hu1
    have hC_7 : C_4 kl x = eO 0 [.int m1, .ref t0, .int (nI n)] := by rw [eC_4, up2_n _ _ (fun z => by omega)]; exact hC1
    have ha_8 : ma_5 kl x = ma kl x := by rw [ema_5, up2_n _ _ (fun z => by omega)]
    have hu_9 : u_3 (kl + 1) x := by rw [eu_3]; exact upU_s
    have hC_10 : C_4 (kl + 1) x = eR (ty 2) 10 (fun _ => none) := by rw [eC_4]; exact up2_s _ _ _ _
    have ha_11 : ma_5 (kl + 1) x = q_2 := by rw [ema_5]; exact up2_s _ _ _ _
    refine lv_dup_x1 hx hb dJx4a65c_grow_92f84_55 rfl rfl ?_
    refine mput (v := .ref q_2) (ty := .array (.object "java/lang/Object")) hx hb hts hinJx4a65c tyJx4a65c tyJx4a65c_ok nmJx4a65c hown hK hM hS hu_6 ha_8 hC_7 rfl 1 (by decide) (hk1) (fun _ h9 => h9) rfl (by decide +kernel) rfl rfl (Nat.le_of_ble_eq_true rfl) dJx4a65c_grow_92f84_56 (fun H locs hM hS ho => ?_)
    obtain ⟨C_12, eC_12⟩ : ∃ z, z = up2 C_4 kl x (eO 0 [.int m1, .ref q_2, .int (nI n)]) := ⟨_, rfl⟩
    have hM : mW D A u_3 C_12 ma_5 H := by rw [eC_12]; exact hM
    have hC_13 : C_12 kl x = eO 0 [.int m1, .ref q_2, .int (nI n)] := by rw [eC_12]; exact up2_s _ _ _ _
    have hC_14 : C_12 (kl + 1) x = eR (ty 2) 10 (fun _ => none) := by rw [eC_12, up2_n _ _ (fun z => by omega)]; exact hC_10
    refine W.widen (k := 1) (n := 60) (by omega) (by omega) ?_
    have hchg : chg kl x u C ma (u_3, C_12, ma_5) := ⟨fun k9 x9 h9 => by show u_3 k9 x9; rw [eu_3]; exact upU_o h9, fun k9 x9 h1 h2 => by show C_12 k9 x9 = _; rw [eC_12, up2_n _ _ h1, eC_4, up2_n _ _ h2], fun k9 x9 h9 => by show ma_5 k9 x9 = _; rw [ema_5, up2_n _ _ h9]⟩
    have hgr : gr ty kl x n f (u_3, C_12, ma_5) := ⟨m1, 10, fun _ => none, hu_6, by show _ = _; rw [show (u_3, C_12, ma_5).2.2 (kl + 1) x = _ from ha_11]; exact hC_13, hu_9, hC_14, by omega, by omega, by omega, fun j hj => by omega⟩
    exact W.aret hx hb hr (Or.inr ⟨_, rfl⟩) (Or.inr ⟨_, rfl⟩) (fun t ht hW => ⟨⟨(u_3, C_12, ma_5), _, rfl, ⟨hchg, hgr⟩, ha_11.symm, mI_pre hM hK hMS hS t ht hW⟩, hS.F ht⟩) hS.2.2 dJx4a65c_grow_92f84_59
set_option maxHeartbeats 4000000 in
set_option maxRecDepth 100000 in
theorem c_growN (l : Launch) (D : va_G) (ty : Nat → ClassId) (A : Nat → Prop) (u : Nat → Nat → Prop) (C : Nat → Nat → va_E) (ma : Nat → Nat → Nat) (t0 mi : Nat) (kl x n : Nat) (f : Nat → Nat) (hL : isL ty t0 u C ma kl x n f) (hpos : 0 < n) (hel : ∀ j, j < n → elO u C ma (f j)) (hful : ∀ N h, C (kl + 1) x = eR (ty 2) N h → 0 < n → N = n) : Met l yJx4a65c_grow_92f84 wsJx4a65c_grow_92f84 ({ frames := 3, cells := 1, slots := 60, locals := 111 }) (va_Pc [.ref (ma kl x), .int (nI (n + 1))] (mI D ty A u C ma t0 mi)) (va_Qr (fun S : mSt => chg kl x u C ma S ∧ gr ty kl x n f S) (fun S q t => q = S.2.2 (kl + 1) x ∧ mI D ty A S.1 S.2.1 S.2.2 t0 mi t) A) 1 60 A := by
  refine zMet (cc := cJx4a65c_grow_92f84) (maxL := 4) (ret := (some (.array (.object "java/lang/Object")))) (by decide) rfl (Nat.le_of_ble_eq_true rfl) ?_
  intro p e s m below meth c hx hb hr hts hown hlocks hml hB ls hl
  obtain ⟨hM, hK, hMS⟩ := hB
  have hS : va_S A s.heap s.heap [] := va_S.rf
  obtain ⟨hu1, hn1, m1, hC1, hu2, cap, hcv, hC2, hcap, hc2, hc3, hh⟩ := hL.pos (by omega)
  obtain rfl : n = cap := (hful _ _ hC2 (by omega)).symm
  have hl : lv_has ls 4 [(0, .ref (ma kl x)), (1, .int (nI (n + 1)))] := hl
  have hinJx4a65c : ∀ w ∈ wsJx4a65c0, w ∈ wsJx4a65c_grow_92f84 := by decide +kernel
  have hk1 := hts (.fieldLink RJx4a65c 9 "java/util/ArrayList" "elementData" "[Ljava/lang/Object;") (by decide +kernel)
  refine lv_aload_n hx hb dJx4a65c_grow_92f84_0 rfl (lv_at hl 0 rfl) ?_
  refine va_get hx hb hts hinJx4a65c hown hK (hM.Pa hu1 rfl hC1) 0 rfl rfl 1 (by decide) (hk1) (fun _ h9 => h9) rfl dJx4a65c_grow_92f84_1 ?_
  refine va_alen hx hb hK (hM.Pa hu2 rfl hC2) 0 2 rfl rfl (v := nI n) rfl dJx4a65c_grow_92f84_4 ?_
  refine lv_istore_n (lv' := [(2, .int (nI n)), (0, .ref (ma kl x)), (1, .int (nI (n + 1)))]) hx hb dJx4a65c_grow_92f84_5 rfl hl (by decide) rfl (fun ls hl => ?_)
  refine lv_iload_n hx hb dJx4a65c_grow_92f84_6 rfl (lv_at hl 0 rfl) ?_
  refine lv_if_gt (tgt := 20) hx hb dJx4a65c_grow_92f84_7 (by decide) (fun c_1 => ?_) (fun c_1 => ?_)
  · have c_1 := zq_gtT (x := n) (by omega) c_1
    refine lv_iload_n hx hb dJx4a65c_grow_92f84_20 rfl (lv_at hl 0 rfl) ?_
    refine lv_iload_n hx hb dJx4a65c_grow_92f84_21 rfl (lv_at hl 2 rfl) ?_
    refine lv_iload_n hx hb dJx4a65c_grow_92f84_22 rfl (lv_at hl 0 rfl) ?_
    refine lv_isub hx hb dJx4a65c_grow_92f84_23 ?_
    refine zeq (pk_sub (a := (n + 1)) (b := n) (by omega)) ?_
    refine zeq (congrArg nI (by omega : n + 1 - n = 1)) ?_
    refine lv_iload_n hx hb dJx4a65c_grow_92f84_24 rfl (lv_at hl 0 rfl) ?_
    refine lv_iconst (v := nI 1) hx hb dJx4a65c_grow_92f84_25 (by decide) ?_
    refine lv_ishr hx hb dJx4a65c_grow_92f84_26 ?_
    refine zeq (pk_half (by omega)) ?_
    refine zcSi (As := [.int (nI n), .int (nI 1), .int (nI (n / 2))]) (rest := []) ⟨hx, hb, hml, hown, hts⟩ (c_newLength l n (by omega) (by omega)) (va_cwS 3 hts gJx4a65c_grow_92f84_J8_newLength_cabcc rfl rfl rfl (by decide +kernel) ⟨Nat.le_of_ble_eq_true rfl, Nat.le_of_ble_eq_true rfl⟩) (B := fun _ => True) (fun _ _ _ _ _ => trivial) (fun _ _ _ => trivial) rfl hl.1 rfl (Nat.le_of_ble_eq_true rfl) dJx4a65c_grow_92f84_27 ⟨Nat.le_of_ble_eq_true rfl, Nat.le_of_ble_eq_true rfl⟩ (fun r_2 hr_2 => ?_)
    subst hr_2
    refine lv_istore_n (lv' := [(3, .int (nI (n + n / 2))), (2, .int (nI n)), (0, .ref (ma kl x)), (1, .int (nI (n + 1)))]) hx hb dJx4a65c_grow_92f84_30 rfl hl (by decide) rfl (fun ls hl => ?_)
    refine lv_aload_n hx hb dJx4a65c_grow_92f84_31 rfl (lv_at hl 2 rfl) ?_
    refine lv_aload_n hx hb dJx4a65c_grow_92f84_32 rfl (lv_at hl 2 rfl) ?_
    refine va_get hx hb hts hinJx4a65c hown hK (hM.Pa hu1 rfl hC1) 0 rfl rfl 1 (by decide) (hk1) (fun _ h9 => h9) rfl dJx4a65c_grow_92f84_33 ?_
    refine lv_iload_n hx hb dJx4a65c_grow_92f84_36 rfl (lv_at hl 0 rfl) ?_
    have hcel : ∀ i9 y9, i9 < n → hcv i9 = some y9 → y9 ≠ ma (kl + 1) x ∧ okE D s.heap y9 := fun i9 y9 h9 g9 => by rw [hh i9 (by omega)] at g9; cases g9; exact ⟨(hel i9 (by omega)).ne hM hu2 hC2, (hel i9 (by omega)).ok hM⟩
    have hFc := fun q (h : va_A [(ma (kl + 1) x, eR (ty 2) n hcv)] s.heap.size q) => (show A q from (vA1 h).elim (fun z => by rw [z]; exact hM.inA hu2) (fun z => hM.2.2 q z))
    refine va_callr (va_runS (As := [.ref (ma (kl + 1) x), .int (nI (n + n / 2))]) (rest := [.ref (ma kl x)]) ⟨hx, hb, hml, hown, hts⟩ (c_copyOf l D ty (ma (kl + 1) x) n (n + n / 2) mi s.heap.size hcv (by omega) (by omega)) (va_cwS 2 hts gJx4a65c_grow_92f84_J7_copyOf_1904c rfl rfl rfl (by decide +kernel) ⟨Nat.le_of_ble_eq_true rfl, Nat.le_of_ble_eq_true rfl⟩) ⟨zBl cB_blind, fun U hU hW => ⟨rfl, by rw [hU]; exact hM.P hu2 hC2, va_K.moved hW.alike hK, (hMS.2.2.2.1).moved hW.alike, (hMS.2.2.2.2.1).moved hW.alike, by rw [hU]; exact hcel, by rw [hU], hMS.2.2.2.2.2.1.warm hW⟩⟩ rfl rfl hl.1 rfl (lv_room (Nat.le_of_ble_eq_true rfl)) dJx4a65c_grow_92f84_37 ⟨Nat.le_of_ble_eq_true rfl, Nat.le_of_ble_eq_true rfl⟩) hS (fun q _ h => hFc q h) hFc (fun u9 q_3 t H1 locs ht hvm hw hB1 hz1 hk1 hS => ?_)
    obtain ⟨hP1, hq9⟩ := hB1
    rw [ht] at hP1
    have hM := hM.copied (e2 := eR (ty 2) (n + n / 2) (va_cpy hcv (fun _ => none) 0 0 n)) hu2 rfl hC2 hP1 ⟨_, _, rfl⟩ hq9 hz1 hk1
    clear hP1 hk1 hcel hFc
    generalize H1 = H at hM hS ⊢
    obtain ⟨u_4, eu_4⟩ : ∃ z, z = upU u (kl + 1) x := ⟨_, rfl⟩
    obtain ⟨C_5, eC_5⟩ : ∃ z, z = up2 C (kl + 1) x (eR (ty 2) (n + n / 2) (va_cpy hcv (fun _ => none) 0 0 n)) := ⟨_, rfl⟩
    obtain ⟨ma_6, ema_6⟩ : ∃ z, z = up2 ma (kl + 1) x q_3 := ⟨_, rfl⟩
    have hM : mW D A u_4 C_5 ma_6 H := by rw [eu_4, eC_5, ema_6]; exact hM
    have hu_7 : u_4 kl x := by rw [eu_4]; exact upU_o hu1
    have hC_8 : C_5 kl x = eO 0 [.int m1, .ref (ma (kl + 1) x), .int (nI n)] := by rw [eC_5, up2_n _ _ (fun z => by omega)]; exact hC1
    have ha_9 : ma_6 kl x = ma kl x := by rw [ema_6, up2_n _ _ (fun z => by omega)]
    have hu_10 : u_4 (kl + 1) x := by rw [eu_4]; exact upU_s
    have hC_11 : C_5 (kl + 1) x = eR (ty 2) (n + n / 2) (va_cpy hcv (fun _ => none) 0 0 n) := by rw [eC_5]; exact up2_s _ _ _ _
    have ha_12 : ma_6 (kl + 1) x = q_3 := by rw [ema_6]; exact up2_s _ _ _ _
    refine lv_dup_x1 hx hb dJx4a65c_grow_92f84_40 rfl rfl ?_
    refine mput (v := .ref q_3) (ty := .array (.object "java/lang/Object")) hx hb hts hinJx4a65c tyJx4a65c tyJx4a65c_ok nmJx4a65c hown hK hM hS hu_7 ha_9 hC_8 rfl 1 (by decide) (hk1) (fun _ h9 => h9) rfl (by decide +kernel) rfl rfl (Nat.le_of_ble_eq_true rfl) dJx4a65c_grow_92f84_41 (fun H locs hM hS ho => ?_)
    obtain ⟨C_13, eC_13⟩ : ∃ z, z = up2 C_5 kl x (eO 0 [.int m1, .ref q_3, .int (nI n)]) := ⟨_, rfl⟩
    have hM : mW D A u_4 C_13 ma_6 H := by rw [eC_13]; exact hM
    have hC_14 : C_13 kl x = eO 0 [.int m1, .ref q_3, .int (nI n)] := by rw [eC_13]; exact up2_s _ _ _ _
    have hC_15 : C_13 (kl + 1) x = eR (ty 2) (n + n / 2) (va_cpy hcv (fun _ => none) 0 0 n) := by rw [eC_13, up2_n _ _ (fun z => by omega)]; exact hC_11
    refine W.widen (k := 1) (n := 60) (by omega) (by omega) ?_
    have hchg : chg kl x u C ma (u_4, C_13, ma_6) := ⟨fun k9 x9 h9 => by show u_4 k9 x9; rw [eu_4]; exact upU_o h9, fun k9 x9 h1 h2 => by show C_13 k9 x9 = _; rw [eC_13, up2_n _ _ h1, eC_5, up2_n _ _ h2], fun k9 x9 h9 => by show ma_6 k9 x9 = _; rw [ema_6, up2_n _ _ h9]⟩
    have hgr : gr ty kl x n f (u_4, C_13, ma_6) := ⟨m1, n + n / 2, _, hu_7, by show _ = _; rw [show (u_4, C_13, ma_6).2.2 (kl + 1) x = _ from ha_12]; exact hC_14, hu_10, hC_15, by omega, by omega, by omega, fun j hj => by show va_cpy _ _ _ _ _ j = _; unfold va_cpy; rw [if_pos (by omega), Nat.zero_add, Nat.sub_zero]; exact hh j hj⟩
    exact W.aret hx hb hr (Or.inr ⟨_, rfl⟩) (Or.inr ⟨_, rfl⟩) (fun t ht hW => ⟨⟨(u_4, C_13, ma_6), _, rfl, ⟨hchg, hgr⟩, ha_12.symm, mI_pre hM hK hMS hS t ht hW⟩, hS.F ht⟩) hS.2.2 dJx4a65c_grow_92f84_44
  · have c_1 := zq_gtF (x := n) (by omega) c_1
    omega
