set_option maxHeartbeats 2000000 in
set_option maxRecDepth 100000 in
theorem m_meanWorth (l : Launch) (D : va_G) (ty : Nat → ClassId) (A : Nat → Prop) (u : Nat → Nat → Prop) (C : Nat → Nat → va_E) (ma : Nat → Nat → Nat) (t0 mi : Nat) (g : Nat → Nat → Int32) (n1 n2 nL n4 n5 : Nat) (th : Int32) (rep bro : Nat → Nat → Int32) (hR : mR ty t0 g n1 n2 nL n4 n5 th rep bro u C ma) : MetD lw_cs l yX12_meanWorth wsX12_meanWorth ({ frames := 6, cells := 116, slots := 706, locals := 141 }) (va_Pc [.ref (ma 0 0)] (mI D ty A u C ma t0 mi)) (va_Qd (fun (v9 : UInt64) (C2 : Nat → Nat → va_E) => alike64 v9 (mwN g n5) = true ∧ mR ty t0 g n1 n2 nL n4 n5 (nI 0) rep bro u C2 ma) (fun C2 t => mI D ty A u C2 ma t0 mi t) A) 116 706 A := by
  refine zMetD (cc := cX12_meanWorth) (maxL := 1) (ret := (some .double)) (by decide) rfl (Nat.le_of_ble_eq_true rfl) ?_
  intro p e s m below meth c hx hb hr hts hown hlocks hml hB hdr ls hl
  obtain ⟨hM, hK, hMS⟩ := hB
  have hS : va_S A s.heap s.heap [] := va_S.rf
  have hbn := hR.I.b1
  have hbs := hR.I.b2
  have hbl := hR.I.bL
  have hbc := hR.I.b4
  have hbr := hR.I.b5
  have hl : lv_has ls 1 [(0, .ref (ma 0 0))] := hl
  have hinX12 : ∀ w ∈ wsX120, w ∈ wsX12_meanWorth := by decide +kernel
  have hk1 := hts (.fieldLink RX12 25 "DatamarketDeskModel" "thrown" "I") (by decide +kernel)
  have hk2 := hts (.fieldLink RX12 22 "DatamarketDeskModel" "reads" "Ljava/util/ArrayList;") (by decide +kernel)
  refine lv_aload_n hx hb dX12_meanWorth_0 rfl (lv_at hl 0 rfl) ?_
  refine lv_iconst (v := nI 0) hx hb dX12_meanWorth_1 (by decide) ?_
  refine mput (v := .int (nI 0)) (ty := .int) hx hb hts hinX12 tyX12 tyX12_ok nmX12 hown hK hM hS hR.o.1 rfl hR.o.2 rfl 0 (by decide) (hk1) (fun _ h9 => h9) rfl (by decide +kernel) rfl rfl (Nat.le_of_ble_eq_true rfl) dX12_meanWorth_2 (fun H locs hM hS ho => ?_)
  obtain ⟨C_1, eC_1⟩ : ∃ z, z = up2 C 0 0 (eO 13 [.int (nI 0), .ref (ma 1 0), .ref (ma 3 0), .ref (ma 5 0), .ref (ma 7 0), .int (g 0 0)]) := ⟨_, rfl⟩
  have hM : mW D A u C_1 ma H := by rw [eC_1]; exact hM
  have hC_2 : C_1 0 0 = eO 13 [.int (nI 0), .ref (ma 1 0), .ref (ma 3 0), .ref (ma 5 0), .ref (ma 7 0), .int (g 0 0)] := by rw [eC_1]; exact up2_s _ _ _ _
  have hR_3 : mR ty t0 g n1 n2 nL n4 n5 (nI 0) rep bro u C_1 ma := by rw [eC_1]; exact hR.th _
  refine lv_aload_n hx hb dX12_meanWorth_5 rfl (lv_at hl 0 rfl) ?_
  refine va_get hx hb hts hinX12 hown hK (hM.Pa hR_3.o.1 rfl hR_3.o.2) 0 rfl rfl 4 (by decide) (hk2) (fun _ h9 => h9) rfl dX12_meanWorth_6 ?_
  obtain ⟨huz_4, hnz_4, mz_4, bz_4, hCz_4⟩ := isL.hd hR_3.l7
  refine zcVi (As := []) (rest := []) ⟨hx, hb, hml, hown, hts⟩ (c_isEmpty l D ty A u C_1 ma t0 mi 7 0 n5 (ma 26) hR_3.l7) (cwV 0 hts gX12_meanWorth_Jx4a65c_isEmpty_aae02 rfl rfl rfl (by decide +kernel) ⟨Nat.le_of_ble_eq_true rfl, Nat.le_of_ble_eq_true rfl⟩) mI_blind (mI_pre hM hK hMS hS) (va_recv hK (hM.Pa huz_4 rfl hCz_4) (ci := 0) (q0 := 0) rfl rfl) rfl hl.1 rfl (Nat.le_of_ble_eq_true rfl) dX12_meanWorth_9 ⟨Nat.le_of_ble_eq_true rfl, Nat.le_of_ble_eq_true rfl⟩ (fun r_5 hr_5 => ?_)
  subst hr_5
  refine lv_if_eq (tgt := 19) hx hb dX12_meanWorth_12 (by decide) (fun c_6 => ?_) (fun c_6 => ?_)
  · have c_6 := bI_f c_6
    refine lv_aload_n hx hb dX12_meanWorth_19 rfl (lv_at hl 0 rfl) ?_
    refine lv_iconst (v := nI 5) hx hb dX12_meanWorth_20 (by decide) ?_
    have hFc : ∀ q : Nat, H.size ≤ q → A q := fun q h => hM.2.2 q h
    refine va_calli (va_runV (As := [.int (nI 5)]) (rest := []) ⟨hx, hb, hml, hown, hts⟩ (c_X12_count l D ty A u C_1 ma t0 mi g n1 n2 nL n4 n5 (nI 0) rep bro hR_3 H.size 5 (by omega)) (cwV 1 hts gX12_meanWorth_X12_count rfl rfl rfl (by decide +kernel) ⟨Nat.le_of_ble_eq_true rfl, Nat.le_of_ble_eq_true rfl⟩) ⟨zBl mIs_blind, (va_recv hK (hM.Pa hR_3.o.1 rfl hR_3.o.2) (ci := 13) (q0 := 0) rfl rfl), fun U h1 h2 => ⟨rfl, mI_pre hM hK hMS hS U h1 h2, by rw [h1]⟩⟩ rfl rfl hl.1 rfl (lv_room (Nat.le_of_ble_eq_true rfl)) dX12_meanWorth_21 ⟨Nat.le_of_ble_eq_true rfl, Nat.le_of_ble_eq_true rfl⟩) hS (fun q _ h => hFc q h) hFc (fun r_7 u9 t H1 locs ht hvm hw hB9 hz1 hk1 hS => ?_)
    have ho9 : ∀ q : Nat, q < H.size → H1[q]? = H[q]? := fun q hq => hk1 q hq (Nat.not_le.mpr hq)
    have hM := hM.ext (fun q hq _ => ho9 q hq) hz1
    clear hk1 hz1 hvm ht hB9 ho9 hFc
    clear t
    generalize H1 = H at hM hS ⊢
    have hr_7 := hw
    subst hr_7
    refine lv_aload_n hx hb dX12_meanWorth_24 rfl (lv_at hl 0 rfl) ?_
    refine lv_bipush (v := nI 6) hx hb dX12_meanWorth_25 (by decide) ?_
    have hFc : ∀ q : Nat, H.size ≤ q → A q := fun q h => hM.2.2 q h
    refine va_calli (va_runV (As := [.int (nI 6)]) (rest := [.int (manyN g n1 n5 5)]) ⟨hx, hb, hml, hown, hts⟩ (c_X12_count l D ty A u C_1 ma t0 mi g n1 n2 nL n4 n5 (nI 0) rep bro hR_3 H.size 6 (by omega)) (cwV 1 hts gX12_meanWorth_X12_count rfl rfl rfl (by decide +kernel) ⟨Nat.le_of_ble_eq_true rfl, Nat.le_of_ble_eq_true rfl⟩) ⟨zBl mIs_blind, (va_recv hK (hM.Pa hR_3.o.1 rfl hR_3.o.2) (ci := 13) (q0 := 0) rfl rfl), fun U h1 h2 => ⟨rfl, mI_pre hM hK hMS hS U h1 h2, by rw [h1]⟩⟩ rfl rfl hl.1 rfl (lv_room (Nat.le_of_ble_eq_true rfl)) dX12_meanWorth_27 ⟨Nat.le_of_ble_eq_true rfl, Nat.le_of_ble_eq_true rfl⟩) hS (fun q _ h => hFc q h) hFc (fun r_8 u9 t H1 locs ht hvm hw hB9 hz1 hk1 hS => ?_)
    have ho9 : ∀ q : Nat, q < H.size → H1[q]? = H[q]? := fun q hq => hk1 q hq (Nat.not_le.mpr hq)
    have hM := hM.ext (fun q hq _ => ho9 q hq) hz1
    clear hk1 hz1 hvm ht hB9 ho9 hFc
    clear t
    generalize H1 = H at hM hS ⊢
    have hr_8 := hw
    subst hr_8
    refine lv_isub hx hb dX12_meanWorth_30 ?_
    refine lv_i2d hx hb dX12_meanWorth_31 ?_
    refine lv_aload_n hx hb dX12_meanWorth_32 rfl (lv_at hl 0 rfl) ?_
    refine va_get hx hb hts hinX12 hown hK (hM.Pa hR_3.o.1 rfl hR_3.o.2) 0 rfl rfl 4 (by decide) (hk2) (fun _ h9 => h9) rfl dX12_meanWorth_33 ?_
    obtain ⟨huz_9, hnz_9, mz_9, bz_9, hCz_9⟩ := isL.hd hR_3.l7
    refine zcVi (As := []) (rest := [.double (FP.i2d ((manyN g n1 n5 5) - (manyN g n1 n5 6)))]) ⟨hx, hb, hml, hown, hts⟩ (c_size l D ty A u C_1 ma t0 mi 7 0 n5 (ma 26) hR_3.l7) (cwV 0 hts gX12_meanWorth_Jx4a65c_size_8abf5 rfl rfl rfl (by decide +kernel) ⟨Nat.le_of_ble_eq_true rfl, Nat.le_of_ble_eq_true rfl⟩) mI_blind (mI_pre hM hK hMS hS) (va_recv hK (hM.Pa huz_9 rfl hCz_9) (ci := 0) (q0 := 0) rfl rfl) rfl hl.1 rfl (Nat.le_of_ble_eq_true rfl) dX12_meanWorth_36 ⟨Nat.le_of_ble_eq_true rfl, Nat.le_of_ble_eq_true rfl⟩ (fun r_10 hr_10 => ?_)
    subst hr_10
    refine lv_i2d hx hb dX12_meanWorth_39 ?_
    refine lv_ddiv_any hdr lw_bits hx hb dX12_meanWorth_40 (fun r d1 hal hd1 => ?_)
    refine W.widen (k := 116) (n := 706) (by omega) (by omega) ?_
    refine W.endD hd1 ?_
    exact W.dret hx hb hr (fun t ht hW => ⟨⟨_, C_1, rfl, ⟨by rw [show mwN g n5 = _ from if_neg (of_decide_eq_false c_6)]; exact hal, hR_3⟩, mI_pre hM hK hMS hS t ht hW⟩, hS.F ht⟩) hS.2.2 dX12_meanWorth_41
  · have c_6 := bI_t c_6
    refine lv_dconst0 hx hb dX12_meanWorth_15 ?_
    refine lv_goto (tgt := 41) hx hb dX12_meanWorth_16 (by decide) ?_
    refine W.widen (k := 116) (n := 706) (by omega) (by omega) ?_
    refine W.endD hdr ?_
    exact W.dret hx hb hr (fun t ht hW => ⟨⟨_, C_1, rfl, ⟨by rw [show mwN g n5 = _ from if_pos (of_decide_eq_true c_6)]; exact a64r _, hR_3⟩, mI_pre hM hK hMS hS t ht hW⟩, hS.F ht⟩) hS.2.2 dX12_meanWorth_41
