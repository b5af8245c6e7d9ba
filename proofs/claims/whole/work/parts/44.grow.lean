set_option maxHeartbeats 4000000 in
set_option maxRecDepth 100000 in
theorem c_grow0 (l : Launch) (D : va_G) (ty : Nat → ClassId) (A : Nat → Prop) (u : Nat → Nat → Prop) (C : Nat → Nat → va_E) (ma : Nat → Nat → Nat) (t0 mi : Nat) (kl x n : Nat) (f : Nat → Nat) (hL : isL ty t0 u C ma kl x n f) (h0 : n = 0) : Met l yJx4a65c_grow_92f84 wsJx4a65c_grow_92f84 ({ frames := 1, cells := 1, slots := 60, locals := 18 }) (va_Pc [.ref (ma kl x), .int (nI (n + 1))] (mI D ty A u C ma t0 mi)) (va_Qr (fun S : mSt => chg kl x u C ma S ∧ gr ty kl x n f S) (fun S q t => q = S.2.2 (kl + 1) x ∧ mI D ty A S.1 S.2.1 S.2.2 t0 mi t) A) 1 60 A := by
  refine zMet (cc := cJx4a65c_grow_92f84) (maxL := 4) (ret := (some (.array (.object "java/lang/Object")))) (by decide) rfl (Nat.le_of_ble_eq_true rfl) ?_
  intro p e s m below meth c hx hb hr hts hown hlocks hml hB ls hl
  obtain ⟨hM, hK, hMS⟩ := hB
  have hS : va_S A s.heap s.heap [] := va_S.rf
  obtain ⟨hu1, hn1, m1, ⟨-, hC1⟩ | ⟨hpos, -⟩⟩ := hL
  rotate_left
  · omega
  have hl : lv_has ls 4 [(0, .ref (ma kl x)), (1, .int (nI (n + 1)))] := hl
  have hinJx4a65c : ∀ w ∈ wsJx4a65c0, w ∈ wsJx4a65c_grow_92f84 := by decide +kernel
  have hk1 := hts (.fieldLink RJx4a65c 9 "java/util/ArrayList" "elementData" "[Ljava/lang/Object;") (by decide +kernel)
  have hk2 := hts (.fieldLink RJx4a65c 39 "java/util/ArrayList" "DEFAULTCAPACITY_EMPTY_ELEMENTDATA" "[Ljava/lang/Object;") (by decide +kernel)
  have hk3 := hts (.classLink RJx4a65c 7 "java/lang/Object") (by decide +kernel)
  refine lv_aload_n hx hb dJx4a65c_grow_92f84_0 rfl (lv_at hl 0 rfl) ?_
  refine va_get hx hb hts hinJx4a65c hown hK (hM.Pa hu1 rfl hC1) 0 rfl rfl 1 (by decide) (hk1) (fun _ h9 => h9) rfl dJx4a65c_grow_92f84_1 ?_
  refine va_alen hx hb hK (hMS.P0 hS) 0 2 rfl rfl (v := nI 0) rfl dJx4a65c_grow_92f84_4 ?_
  refine lv_istore_n (lv' := [(2, .int (nI 0)), (0, .ref (ma kl x)), (1, .int (nI (n + 1)))]) hx hb dJx4a65c_grow_92f84_5 rfl hl (by decide) rfl (fun ls hl => ?_)
  refine lv_iload_n hx hb dJx4a65c_grow_92f84_6 rfl (lv_at hl 0 rfl) ?_
  refine lv_if_gt (tgt := 20) hx hb dJx4a65c_grow_92f84_7 (by decide) (fun c_1 => ?_) (fun c_1 => ?_)
  · have c_1 := zq_gtT (x := 0) (by omega) c_1
    omega
  · have c_1 := zq_gtF (x := 0) (by omega) c_1
    refine lv_aload_n hx hb dJx4a65c_grow_92f84_10 rfl (lv_at hl 1 rfl) ?_
    refine va_get hx hb hts hinJx4a65c hown hK (hM.Pa hu1 rfl hC1) 0 rfl rfl 1 (by decide) (hk1) (fun _ h9 => h9) rfl dJx4a65c_grow_92f84_11 ?_
    refine va_gets hx hb hMS.1 hS hown (hk2) (fun _ h9 => h9) dJx4a65c_grow_92f84_14 ?_
    refine lv_acmp_eq (rx := some t0) (ry := some t0) (tgt := 45) hx hb dJx4a65c_grow_92f84_17 (by decide) (fun _ => ?_) (fun h => absurd rfl h)
    refine lv_aload_n hx hb dJx4a65c_grow_92f84_45 rfl (lv_at hl 1 rfl) ?_
    refine lv_bipush (v := nI 10) hx hb dJx4a65c_grow_92f84_46 (by decide) ?_
    refine lv_iload_n hx hb dJx4a65c_grow_92f84_48 rfl (lv_at hl 2 rfl) ?_
    refine va_mmax hx hb (hml.trans hl.1.symm) hown (hts (.methodLink RJx4a65c 79 Lib.Math.max.name) (by decide +kernel)) (hts (.static Lib.Math.max.name) (by decide +kernel)) (hts (.initialized "java/lang/Math") (by decide +kernel)) (hts (.code Lib.Math.max.name Lib.Math.max.code 2 (some .int)) (by decide +kernel)) (Nat.le_of_ble_eq_true rfl) (Nat.le_of_ble_eq_true rfl) (Nat.le_of_ble_eq_true rfl) (Nat.le_of_ble_eq_true rfl) dJx4a65c_grow_92f84_49 ?_
    refine zeq (zmax_def (nI 10) (nI (n + 1))).symm ?_
    refine zeq (zmax_r (by omega) (by omega)) ?_
    refine manewq hx hb hown (hk3) hMS.2.2.2.2.1 hK hM hS (kl + 1) x (n := 10) (N' := 10) (by omega) rfl (by omega) (Nat.le_of_ble_eq_true rfl) (by show _ + _ ≤ 60; omega) dJx4a65c_grow_92f84_52 (fun H hM hS => ?_)
    generalize hq9 : Array.size s.heap = q_2 at hM ⊢
    obtain ⟨u_3, eu_3⟩ : ∃ z, z = upU u (kl + 1) x := ⟨_, rfl⟩
    obtain ⟨C_4, eC_4⟩ : ∃ z, z = up2 C (kl + 1) x (eR (ty 2) 10 (fun _ => none)) := ⟨_, rfl⟩
    obtain ⟨ma_5, ema_5⟩ : ∃ z, z = up2 ma (kl + 1) x q_2 := ⟨_, rfl⟩
    have hM : mW D A u_3 C_4 ma_5 H := by rw [eu_3, eC_4, ema_5]; exact hM
    have hu_6 : u_3 kl x := by rw [eu_3]; exact upU_o hu1
    have hC_7 : C_4 kl x = eO 0 [.int m1, .ref t0, .int (nI n)] := by rw [eC_4, up2_n _ _ (fun z => by omega)]; exact hC1
    have ha_8 : ma_5 kl x = ma kl x := by rw [ema_5, up2_n _ _ (fun z => by omega)]
    have hu_9 : u_3 (kl + 1) x := by rw [eu_3]; exact upU_s
    have hC_10 : C_4 (kl + 1) x = eR (ty 2) 10 (fun _ => none) := by rw [eC_4]; exact up2_s _ _ _ _
    have ha_11 : ma_5 (kl + 1) x = q_2 := by rw [ema_5]; exact up2_s _ _ _ _
    refine lv_dup_x1 hx hb dJx4a65c_grow_92f84_55 rfl rfl ?_
    refine mput (v := .ref q_2) (ty := .array (.object "java/lang/Object")) hx hb hts hinJx4a65c tyJx4a65c tyJx4a65c_ok nmJx4a65c hown hK hM hS hu_6 ha_8 hC_7 rfl 1 (by decide) (hk1) (fun _ h9 => h9) rfl (by decide +kernel) rfl rfl (Nat.le_of_ble_eq_true rfl) dJx4a65c_grow_92f84_56 (fun H locs hM hS ho => ?_)
    obtain ⟨C_12, eC_12⟩ : ∃ z, z = up2 C_4 kl x (eO 0 [.int m1, .ref q_2, .int (nI n)]) := ⟨_, rfl⟩
    have hM : mW D A u_3 C_12 ma_5 H := by rw [eC_12]; exact hM
    have hC_13 : C_12 kl x = eO 0 [.int m1, .ref q_2, .int (nI n)] := by rw [eC_12]; exact up2_s _ _ _ _
    have hC_14 : C_12 (kl + 1) x = eR (ty 2) 10 (fun _ => none) := by rw [eC_12, up2_n _ _ (fun z => by omega)]; exact hC_10
    refine W.widen (k := 1) (n := 60) (by omega) (by omega) ?_
    have hchg : chg kl x u C ma (u_3, C_12, ma_5) := ⟨fun k9 x9 h9 => by show u_3 k9 x9; rw [eu_3]; exact upU_o h9, fun k9 x9 h1 h2 => by show C_12 k9 x9 = _; rw [eC_12, up2_n _ _ h1, eC_4, up2_n _ _ h2], fun k9 x9 h9 => by show ma_5 k9 x9 = _; rw [ema_5, up2_n _ _ h9]⟩
    have hgr : gr ty kl x n f (u_3, C_12, ma_5) := ⟨m1, 10, fun _ => none, hu_6, by show _ = _; rw [show (u_3, C_12, ma_5).2.2 (kl + 1) x = _ from ha_11]; exact hC_13, hu_9, hC_14, by omega, by omega, by omega, fun j hj => by omega⟩
    exact W.aret hx hb hr (Or.inr ⟨_, rfl⟩) (Or.inr ⟨_, rfl⟩) (fun t ht hW => ⟨⟨(u_3, C_12, ma_5), _, rfl, ⟨hchg, hgr⟩, ha_11.symm, mI_pre hM hK hMS hS t ht hW⟩, hS.F ht⟩) hS.2.2 dJx4a65c_grow_92f84_59
