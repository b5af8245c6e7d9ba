set_option maxHeartbeats 1000000 in
set_option maxRecDepth 100000 in
theorem m_version (l : Launch) (D : va_G) (ty : Nat → ClassId) (A : Nat → Prop) (u : Nat → Nat → Prop) (C : Nat → Nat → va_E) (ma : Nat → Nat → Nat) (t0 mi : Nat) (g : Nat → Nat → Int32) (n1 n2 nL n4 n5 : Nat) (th : Int32) (rep bro : Nat → Nat → Int32) (hR : mR ty t0 g n1 n2 nL n4 n5 th rep bro u C ma) (i : Nat) (hi : i < n1) (rw0 : Int32) (h2 : (!inB rw0 (nI 1) (nI 9999)) = false) (h6v : nV g i < 6) (hX : nL + cS g i n2 ≤ 120) : Met l yX12_version wsX12_version ({ frames := 8, cells := 58, slots := 1744, locals := 237 }) (va_Pc [.ref (ma 0 0), .int (nI i), .int rw0] (mI D ty A u C ma t0 mi)) (va_Qi (fun (v9 : Int32) (S : mSt) => v9 = nI (nV g i) ∧ S.2.2 0 0 = ma 0 0 ∧ mR ty t0 (verG g n2 i rw0) n1 n2 (vL g i rw0 n2) n4 n5 (nI 0) (fun q' => if q' = i * 6 + nV g i then fun _ => 0 else rep q') (fun q' => if q' = i * 6 + nV g i then fun _ => 0 else bro q') S.1 S.2.1 S.2.2) (fun S t => mI D ty A S.1 S.2.1 S.2.2 t0 mi t) A) 58 1744 A := by
  refine zMet (cc := cX12_version) (maxL := 7) (ret := (some .int)) (by decide) rfl (Nat.le_of_ble_eq_true rfl) ?_
  intro p e s m below meth c hx hb hr hts hown hlocks hml hB ls hl
  obtain ⟨hM, hK, hMS⟩ := hB
  have hS : va_S A s.heap s.heap [] := va_S.rf
  have hbn := hR.I.b1
  have hbs := hR.I.b2
  have hbl := hR.I.bL
  have hbc := hR.I.b4
  have hbr := hR.I.b5
  have h1 := bNo_ok hR.I.b1 hi
  have hv7 := (hR.I.v7 hi).2
  obtain ⟨q9, hq9⟩ : ∃ z, z = i * 6 + nV g i := ⟨_, rfl⟩
  have hl : lv_has ls 7 [(0, .ref (ma 0 0)), (1, .int (nI i)), (2, .int rw0)] := hl
  have hinX12 : ∀ w ∈ wsX120, w ∈ wsX12_version := by decide +kernel
  have hk1 := hts (.fieldLink RX12 10 "DatamarketDeskModel" "sets" "Ljava/util/ArrayList;") (by decide +kernel)
  have hk2 := hts (.classLink RX12 49 "DatamarketDeskModel$DataSet") (by decide +kernel)
  have hinX7 : ∀ w ∈ wsX70, w ∈ wsX12_version := by decide +kernel
  have hk4 := hts (.fieldLink RX12 69 "DatamarketDeskModel$DataSet" "versions" "Ljava/util/ArrayList;") (by decide +kernel)
  have hinX11 : ∀ w ∈ wsX110, w ∈ wsX12_version := by decide +kernel
  have hk6 := hts (.fieldLink RX12 16 "DatamarketDeskModel" "sources" "Ljava/util/ArrayList;") (by decide +kernel)
  have hk7 := hts (.classLink RX12 120 "DatamarketDeskModel$Source") (by decide +kernel)
  have hinX10 : ∀ w ∈ wsX100, w ∈ wsX12_version := by decide +kernel
  have hk9 := hts (.fieldLink RX12 124 "DatamarketDeskModel$Source" "from" "I") (by decide +kernel)
  have hk10 := hts (.fieldLink RX12 122 "DatamarketDeskModel$Source" "set" "I") (by decide +kernel)
  have hk11 := hts (.fieldLink RX12 87 "DatamarketDeskModel$Version" "links" "Ljava/util/ArrayList;") (by decide +kernel)
  have hk12 := hts (.fieldLink RX12 123 "DatamarketDeskModel$Source" "field" "I") (by decide +kernel)
  have hk13 := hts (.classLink RX12 7 "java/util/ArrayList") (by decide +kernel)
  have hinX8 : ∀ w ∈ wsX80, w ∈ wsX12_version := by decide +kernel
  have hk15 := hts (.fieldLink RX12 127 "DatamarketDeskModel$Source" "source" "I") (by decide +kernel)
  have hk16 := hts (.fieldLink RX12 137 "DatamarketDeskModel$Source" "share" "I") (by decide +kernel)
  refine lv_aload_n hx hb dX12_version_0 rfl (lv_at hl 0 rfl) ?_
  refine lv_aload_n hx hb dX12_version_1 rfl (lv_at hl 0 rfl) ?_
  refine lv_iload_n hx hb dX12_version_2 rfl (lv_at hl 1 rfl) ?_
  refine zcVi (As := [.int (nI i)]) (rest := [.ref (ma 0 0)]) ⟨hx, hb, hml, hown, hts⟩ (c_X12_isNo l D ty A u C ma t0 mi g n1 n2 nL n4 n5 th rep bro hR (nI i)) (cwV 1 hts gX12_version_X12_isNo rfl rfl rfl (by decide +kernel) ⟨Nat.le_of_ble_eq_true rfl, Nat.le_of_ble_eq_true rfl⟩) mI_blind (mI_pre hM hK hMS hS) (va_recv hK (hM.Pa hR.o.1 rfl hR.o.2) (ci := 13) (q0 := 0) rfl rfl) rfl hl.1 rfl (Nat.le_of_ble_eq_true rfl) dX12_version_3 ⟨Nat.le_of_ble_eq_true rfl, Nat.le_of_ble_eq_true rfl⟩ (fun r_1 hr_1 => ?_)
  subst hr_1
  refine zeq (show bI _ = bI false from by rw [h1]) ?_
  refine lv_iconst (v := nI 1) hx hb dX12_version_6 (by decide) ?_
  refine va_calli (va_runV (As := [.int (bI false), .int (nI 1)]) (rest := []) ⟨hx, hb, hml, hown, hts⟩ (c_X12_start_f l D ty A u C ma t0 mi g n1 n2 nL n4 n5 th rep bro hR 1 (by omega) (by omega)) (cwV 2 hts gX12_version_X12_start rfl rfl rfl (by decide +kernel) ⟨Nat.le_of_ble_eq_true rfl, Nat.le_of_ble_eq_true rfl⟩) ⟨zBl mI_blind, (va_recv hK (hM.Pa hR.o.1 rfl hR.o.2) (ci := 13) (q0 := 0) rfl rfl), fun U h1 h2 => ⟨rfl, mI_pre hM hK hMS hS U h1 h2⟩⟩ rfl rfl hl.1 rfl (lv_room (Nat.le_of_ble_eq_true rfl)) dX12_version_7 ⟨Nat.le_of_ble_eq_true rfl, Nat.le_of_ble_eq_true rfl⟩) hS (fun _ _ h => h) (fun _ h => h) (fun r_3 C_2 t H1 locs ht hvm hw hB9 hz1 hk1 hS => ?_)
  obtain ⟨hr_3, hR_4⟩ := hw
  obtain ⟨hM, -, -⟩ := hB9
  rw [ht] at hM
  clear hk1 hz1 hvm ht
  clear t
  generalize H1 = H at hM hS ⊢
  subst hr_3
  refine lv_if_ne (tgt := 72) hx hb dX12_version_10 (by decide) (fun c_5 => ?_) (fun c_5 => ?_)
  · have c_5 := bI_t c_5
    cases c_5
  · have c_5 := bI_f c_5
    refine lv_aload_n hx hb dX12_version_13 rfl (lv_at hl 0 rfl) ?_
    refine lv_iload_n hx hb dX12_version_14 rfl (lv_at hl 2 rfl) ?_
    refine lv_iconst (v := nI 1) hx hb dX12_version_15 (by decide) ?_
    refine lv_sipush (v := nI 9999) hx hb dX12_version_16 (by decide) ?_
    refine zcSi (As := [.int rw0, .int (nI 1), .int (nI 9999)]) (rest := [.ref (ma 0 0)]) ⟨hx, hb, hml, hown, hts⟩ (c_X12_isIn l _ rw0 (nI 1) (nI 9999)) (cwS 3 hts gX12_version_X12_isIn rfl rfl rfl (by decide +kernel) ⟨Nat.le_of_ble_eq_true rfl, Nat.le_of_ble_eq_true rfl⟩) (B := fun _ => True) (fun _ _ _ _ _ => trivial) (fun _ _ _ => trivial) rfl hl.1 rfl (Nat.le_of_ble_eq_true rfl) dX12_version_19 ⟨Nat.le_of_ble_eq_true rfl, Nat.le_of_ble_eq_true rfl⟩ (fun r_6 hr_6 => ?_)
    subst hr_6
    refine lv_if_ne (tgt := 29) hx hb dX12_version_22 (by decide) (fun c_7 => ?_) (fun c_7 => ?_)
    · have c_7 := bI_t c_7
      refine lv_iconst (v := nI 0) hx hb dX12_version_29 (by decide) ?_
      refine zeq (show nI 0 = bI false from rfl) ?_
      refine lv_iconst (v := nI 2) hx hb dX12_version_30 (by decide) ?_
      refine zcVi (As := [.int (bI false), .int (nI 2)]) (rest := []) ⟨hx, hb, hml, hown, hts⟩ (c_X12_refuse_f l D ty A u C_2 ma t0 mi g n1 n2 nL n4 n5 (nI 0) rep bro hR_4 rfl (nI 2)) (cwV 2 hts gX12_version_X12_refuse rfl rfl rfl (by decide +kernel) ⟨Nat.le_of_ble_eq_true rfl, Nat.le_of_ble_eq_true rfl⟩) mI_blind (mI_pre hM hK hMS hS) (va_recv hK (hM.Pa hR_4.o.1 rfl hR_4.o.2) (ci := 13) (q0 := 0) rfl rfl) rfl hl.1 rfl (Nat.le_of_ble_eq_true rfl) dX12_version_31 ⟨Nat.le_of_ble_eq_true rfl, Nat.le_of_ble_eq_true rfl⟩ (fun r_8 hr_8 => ?_)
      subst hr_8
      refine lv_if_ne (tgt := 72) hx hb dX12_version_34 (by decide) (fun c_9 => ?_) (fun c_9 => ?_)
      · have c_9 := bI_t c_9
        cases c_9
      · have c_9 := bI_f c_9
        refine lv_aload_n hx hb dX12_version_37 rfl (lv_at hl 0 rfl) ?_
        refine lv_aload_n hx hb dX12_version_38 rfl (lv_at hl 0 rfl) ?_
        refine va_get hx hb hts hinX12 hown hK (hM.Pa hR_4.o.1 rfl hR_4.o.2) 0 rfl rfl 1 (by decide) (hk1) (fun _ h9 => h9) rfl dX12_version_39 ?_
        refine lv_iload_n hx hb dX12_version_42 rfl (lv_at hl 1 rfl) ?_
        obtain ⟨huz_10, hnz_10, mz_10, bz_10, hCz_10⟩ := isL.hd hR_4.l1
        refine zcVr (x := .ref (ma 9 i)) (As := [.int (nI i)]) (rest := [.ref (ma 0 0)]) ⟨hx, hb, hml, hown, hts⟩ (c_get l D ty A u C_2 ma t0 mi 1 0 n1 (ma 9) hR_4.l1 i (by omega)) (cwV 1 hts gX12_version_Jx4a65c_get_915e3 rfl rfl rfl (by decide +kernel) ⟨Nat.le_of_ble_eq_true rfl, Nat.le_of_ble_eq_true rfl⟩) mI_blind (mI_pre hM hK hMS hS) (va_recv hK (hM.Pa huz_10 rfl hCz_10) (ci := 0) (q0 := 0) rfl rfl) rfl hl.1 rfl (Nat.le_of_ble_eq_true rfl) dX12_version_43 ⟨Nat.le_of_ble_eq_true rfl, Nat.le_of_ble_eq_true rfl⟩ ?_
        refine va_castS hx hb hown (hk2) ((hK.1 8 _ rfl).2) (va_recv hK (hM.Pa (hR_4.s9 (i := i) (by omega)).1 rfl (hR_4.s9 (i := i) (by omega)).2) (ci := 8) (q0 := 0) rfl rfl) dX12_version_46 ?_
        refine va_get hx hb hts hinX7 hown hK (hM.Pa (hR_4.s9 (i := i) (by omega)).1 rfl (hR_4.s9 (i := i) (by omega)).2) 0 rfl rfl 3 (by decide) (hk4) (fun _ h9 => h9) rfl dX12_version_49 ?_
        obtain ⟨huz_12, hnz_12, mz_12, bz_12, hCz_12⟩ := isL.hd (hR_4.s12 (i := i) (by omega))
        refine zcVi (As := []) (rest := [.ref (ma 0 0)]) ⟨hx, hb, hml, hown, hts⟩ (c_size l D ty A u C_2 ma t0 mi 12 i (nV g i) (fun v => ma 15 (i * 6 + v)) (hR_4.s12 (i := i) (by omega))) (cwV 0 hts gX12_version_Jx4a65c_size_8abf5 rfl rfl rfl (by decide +kernel) ⟨Nat.le_of_ble_eq_true rfl, Nat.le_of_ble_eq_true rfl⟩) mI_blind (mI_pre hM hK hMS hS) (va_recv hK (hM.Pa huz_12 rfl hCz_12) (ci := 0) (q0 := 0) rfl rfl) rfl hl.1 rfl (Nat.le_of_ble_eq_true rfl) dX12_version_52 ⟨Nat.le_of_ble_eq_true rfl, Nat.le_of_ble_eq_true rfl⟩ (fun r_13 hr_13 => ?_)
        subst hr_13
        refine lv_bipush (v := nI 6) hx hb dX12_version_55 (by decide) ?_
        refine lv_icmp_ne (tgt := 64) hx hb dX12_version_57 (by decide) (fun c_14 => ?_) (fun c_14 => ?_)
        · have c_14 := zn_neT (a := (nV g i)) (b := 6) (by omega) (by omega) c_14
          refine lv_iconst (v := nI 0) hx hb dX12_version_64 (by decide) ?_
          refine zeq (show nI 0 = bI false from rfl) ?_
          refine lv_iconst (v := nI 3) hx hb dX12_version_65 (by decide) ?_
          refine zcVi (As := [.int (bI false), .int (nI 3)]) (rest := []) ⟨hx, hb, hml, hown, hts⟩ (c_X12_refuse_f l D ty A u C_2 ma t0 mi g n1 n2 nL n4 n5 (nI 0) rep bro hR_4 rfl (nI 3)) (cwV 2 hts gX12_version_X12_refuse rfl rfl rfl (by decide +kernel) ⟨Nat.le_of_ble_eq_true rfl, Nat.le_of_ble_eq_true rfl⟩) mI_blind (mI_pre hM hK hMS hS) (va_recv hK (hM.Pa hR_4.o.1 rfl hR_4.o.2) (ci := 13) (q0 := 0) rfl rfl) rfl hl.1 rfl (Nat.le_of_ble_eq_true rfl) dX12_version_66 ⟨Nat.le_of_ble_eq_true rfl, Nat.le_of_ble_eq_true rfl⟩ (fun r_15 hr_15 => ?_)
          subst hr_15
          refine lv_if_eq (tgt := 74) hx hb dX12_version_69 (by decide) (fun c_16 => ?_) (fun c_16 => ?_)
          · have c_16 := bI_f c_16
            refine mnew (Cn := RX11) (T := TX11) (N := 5) (ci := 12) (fs := [.int 0, .null, .null, .null, .null]) hx hb hts hinX11 tyX11 tyX11_ok hown (hts (.classLink RX12 72 RX11) (by decide +kernel)) (hts (.instantiable RX11 5) (by decide +kernel)) (hts (.initialized RX11) (by decide +kernel)) hK hM hS 15 q9 rfl (fun j hj => by rcases (show j = 0 ∨ j = 1 ∨ j = 2 ∨ j = 3 ∨ j = 4 by omega) with rfl | rfl | rfl | rfl | rfl <;> rfl) (Nat.le_of_ble_eq_true rfl) (Nat.le_of_ble_eq_true rfl) dX12_version_74 (fun H1 hM hS _ _ => ?_)
            generalize hq9 : Array.size H = q_17 at hM ⊢
            clear hq9
            generalize H1 = H at hM hS ⊢
            obtain ⟨u_18, eu_18⟩ : ∃ z, z = upU u 15 q9 := ⟨_, rfl⟩
            obtain ⟨C_19, eC_19⟩ : ∃ z, z = up2 C_2 15 q9 (eO 12 [.int 0, .null, .null, .null, .null]) := ⟨_, rfl⟩
            obtain ⟨ma_20, ema_20⟩ : ∃ z, z = up2 ma 15 q9 q_17 := ⟨_, rfl⟩
            have hM : mW D A u_18 C_19 ma_20 H := by rw [eu_18, eC_19, ema_20]; exact hM
            have hu_21 : u_18 15 q9 := by rw [eu_18]; exact upU_s
            have hC_22 : C_19 15 q9 = eO 12 [.int 0, .null, .null, .null, .null] := by rw [eC_19]; exact up2_s _ _ _ _
            have ha_23 : ma_20 15 q9 = q_17 := by rw [ema_20]; exact up2_s _ _ _ _
            have hR_24 : mR ty t0 g n1 n2 nL n4 n5 (nI 0) rep bro u_18 C_19 ma_20 := hR_4.ext (fun k9 x9 hm hu => ⟨by rw [eu_18]; exact upU_o hu, by rw [eC_19]; exact up2_n _ _ (fun z => by have hm9 := mU_q hq9 h6v hm; omega), by rw [ema_20]; exact up2_n _ _ (fun z => by have hm9 := mU_q hq9 h6v hm; omega)⟩)
            have hg_26 : ∀ k9 x9, mU g n1 n2 nL n4 n5 k9 x9 → (k9 ≠ 2 ∧ k9 ≠ 4 ∧ k9 ≠ 6 ∧ k9 ≠ 8) → ma_20 k9 x9 = ma k9 x9 := fun k9 x9 hm hn => by rw [ema_20, up2_n _ _ (fun z => by have hm9 := mU_q hq9 h6v hm; omega)]
            refine lv_dup hx hb dX12_version_77 rfl ?_
            refine lv_iload_n hx hb dX12_version_78 rfl (lv_at hl 2 rfl) ?_
            have h_27 := c_X11_init l D ty A u_18 C_19 ma_20 t0 mi q9 hu_21 hC_22 rw0
            first | dsimp only at h_27 | skip
            rw [(show ma_20 15 q9 = q_17 from ha_23)] at h_27
            refine va_callv (va_runI (As := [.int rw0]) (rest := [.ref q_17]) ⟨hx, hb, hml, hown, hts⟩ (h_27) (cwI 1 hts gX12_version_X11_init rfl rfl rfl (hts (.initialized RX11) (by decide +kernel)) (hts (.methodLink RX12 138 yX11_init) (by decide +kernel)) (hts (.instanceMethod yX11_init) (by decide +kernel)) rfl (by decide +kernel) ⟨Nat.le_of_ble_eq_true rfl, Nat.le_of_ble_eq_true rfl⟩) ⟨zBl mI_blind, fun U h1 h2 => ⟨rfl, mI_pre hM hK hMS hS U h1 h2⟩⟩ rfl rfl hl.1 rfl (lv_room (Nat.le_of_ble_eq_true rfl)) dX12_version_79 ⟨Nat.le_of_ble_eq_true rfl, Nat.le_of_ble_eq_true rfl⟩) hS (fun _ _ h => h) (fun _ h => h) (fun S_28 t H1 locs ht hvm hw hB9 hz1 hk1 hS => ?_)
            obtain ⟨hM, -, -⟩ := hB9
            rw [ht] at hM
            clear hk1 hz1 hvm ht
            clear t
            generalize H1 = H at hM hS ⊢
            obtain ⟨u_29, C_30, ma_31⟩ := S_28
            obtain ⟨hX_32, hX_33, hX_34, hs_35, hs_36, hs_37, hs_38, hs_39, hs_40⟩ := hw
            have hM : mW D A u_29 C_30 ma_31 H := hM
            have hX_32 : ∀ k9 x9, u_18 k9 x9 → u_29 k9 x9 := hX_32
            have hX_33 : ∀ k9 x9, ¬ ((x9 = q9 ∧ 15 ≤ k9 ∧ k9 ≤ 20) ∨ (k9 = 21 ∧ x9 / 6 = q9)) → C_30 k9 x9 = C_19 k9 x9 := hX_33
            have hX_34 : ∀ k9 x9, ¬ ((x9 = q9 ∧ 16 ≤ k9 ∧ k9 ≤ 20) ∨ (k9 = 21 ∧ x9 / 6 = q9)) → ma_31 k9 x9 = ma_20 k9 x9 := hX_34
            have ha_41 : ma_31 15 q9 = q_17 := (hX_34 15 q9 (by omega)).trans ha_23
            have hR_43 : mR ty t0 g n1 n2 nL n4 n5 (nI 0) rep bro u_29 C_30 ma_31 := hR_24.ext (fun k9 x9 hm hu => ⟨hX_32 k9 x9 hu, hX_33 k9 x9 (fun z => by have hm9 := mU_q hq9 h6v hm; omega), hX_34 k9 x9 (fun z => by have hm9 := mU_q hq9 h6v hm; omega)⟩)
            have hg_42 : ∀ k9 x9, mU g n1 n2 nL n4 n5 k9 x9 → (k9 ≠ 2 ∧ k9 ≠ 4 ∧ k9 ≠ 6 ∧ k9 ≠ 8) → ma_31 k9 x9 = ma k9 x9 := fun k9 x9 hm hn => (hX_34 k9 x9 (fun z => by have hm9 := mU_q hq9 h6v hm; omega)).trans (hg_26 k9 x9 hm hn)
            have hV_44 : vP ty t0 g n1 n2 nL n4 n5 (nI 0) rep bro i q9 rw0 0 u_29 C_30 ma_31 := vP_0 hR_43 hi h6v hq9 hs_35 hs_36 hs_37 hs_38 hs_39 hs_40
            clear hX_32 hX_33 hX_34 hs_36 hs_37 hs_38 hs_39 hs_40 hs_35
            refine lv_astore_n (lv' := [(3, .ref q_17), (0, .ref (ma 0 0)), (1, .int (nI i)), (2, .int rw0)]) hx hb dX12_version_82 rfl hl (by decide) rfl (fun ls hl => ?_)
            refine lv_iconst (v := nI 0) hx hb dX12_version_83 (by decide) ?_
            refine lv_istore (lv' := [(4, .int (nI 0)), (3, .ref q_17), (0, .ref (ma 0 0)), (1, .int (nI i)), (2, .int rw0)]) hx hb dX12_version_84 hl (by decide) rfl (fun ls hl => ?_)
            refine zloop (τ := mSt) (fun j S ls H locs cells slots => cells ≤ 17 + 2 * j ∧ slots ≤ 404 + 64 * j ∧ lv_has ls 7 [(4, .int (nI j)), (3, .ref q_17), (0, .ref (ma 0 0)), (1, .int (nI i)), (2, .int rw0)] ∧ vP ty t0 g n1 n2 nL n4 n5 (nI 0) rep bro i q9 rw0 j S.1 S.2.1 S.2.2 ∧ (∀ k9 x9, mU g n1 n2 nL n4 n5 k9 x9 → (k9 ≠ 2 ∧ k9 ≠ 4 ∧ k9 ≠ 6 ∧ k9 ≠ 8) → S.2.2 k9 x9 = ma k9 x9) ∧ S.2.2 15 q9 = q_17 ∧ mW D A S.1 S.2.1 S.2.2 H ∧ va_S A s.heap H locs) n2 ?_ 0 (u_29, C_30, ma_31) ls _ _ _ _ (Nat.zero_le _) ⟨by omega, by omega, lv_sub hl [0, 1, 2, 3, 4] rfl, hV_44, hg_42, ha_41, hM, hS⟩
            intro j S ls H locs cells slots hi_j hinv ih_j
            obtain ⟨uj, Cj, mj⟩ := S
            obtain ⟨hcl, hsl, hl, hVj, hgj, haj, hM, hS⟩ := hinv
            have hl : lv_has ls 7 [(4, .int (nI j)), (3, .ref q_17), (0, .ref (ma 0 0)), (1, .int (nI i)), (2, .int rw0)] := hl
            have hM : mW D A uj Cj mj H := hM
            have hVj : vP ty t0 g n1 n2 nL n4 n5 (nI 0) rep bro i q9 rw0 j uj Cj mj := hVj
            have hgj : ∀ k9 x9, mU g n1 n2 nL n4 n5 k9 x9 → (k9 ≠ 2 ∧ k9 ≠ 4 ∧ k9 ≠ 6 ∧ k9 ≠ 8) → mj k9 x9 = ma k9 x9 := hgj
            have haj : mj 15 q9 = q_17 := haj
            obtain ⟨⟨vn1, vn2, vn3⟩, -, -, -, vn5⟩ := vN_at (x := rw0) hR.I hi h6v hX j hi_j
            have hR_45 := hVj.1
            have hs_46 := hVj.2.1
            refine lv_iload hx hb dX12_version_86 (lv_at hl 0 rfl) ?_
            refine lv_aload_n hx hb dX12_version_88 rfl (lv_at hl 2 rfl) ?_
            refine va_get hx hb hts hinX12 hown hK (hM.Pa hR_45.o.1 (hgj 0 0 (by unfold mU; omega) (by decide)) hR_45.o.2) 0 rfl rfl 2 (by decide) (hk6) (fun _ h9 => h9) rfl dX12_version_89 ?_
            refine zeqv (y := .ref (ma 3 0)) (congrArg Value.ref (hgj 3 0 (by unfold mU; omega) (by decide))) ?_
            have h_47 := c_size l D ty A uj Cj mj t0 mi 3 0 n2 (mj 24) hR_45.l3
            first | dsimp only at h_47 | skip
            rw [(show mj 3 0 = ma 3 0 from (hgj 3 0 (by unfold mU; omega) (by decide)))] at h_47
            obtain ⟨huz_48, hnz_48, mz_48, bz_48, hCz_48⟩ := isL.hd hR_45.l3
            refine zcVi (As := []) (rest := [.int (nI j)]) ⟨hx, hb, hml, hown, hts⟩ (h_47) (cwV 0 hts gX12_version_Jx4a65c_size_8abf5 rfl rfl rfl (by decide +kernel) ⟨Nat.le_of_ble_eq_true rfl, Nat.le_of_ble_eq_true rfl⟩) mI_blind (mI_pre hM hK hMS hS) (va_recv hK (hM.Pa huz_48 (hgj 3 0 (by unfold mU; omega) (by decide)) hCz_48) (ci := 0) (q0 := 0) rfl rfl) rfl hl.1 rfl (Nat.le_of_ble_eq_true rfl) dX12_version_92 ⟨by show _ ≤ 58; omega, by show _ ≤ 1744; omega⟩ (fun r_49 hr_49 => ?_)
            subst hr_49
            refine lv_icmp_ge (tgt := 196) hx hb dX12_version_95 (by decide) (fun c_50 => ?_) (fun c_50 => ?_)
            · have c_50 := zn_geT (a := j) (b := n2) (by omega) (by omega) c_50
              obtain rfl : n2 = j := by omega
              refine lv_aload_n hx hb dX12_version_196 rfl (lv_at hl 2 rfl) ?_
              refine va_get hx hb hts hinX12 hown hK (hM.Pa hR_45.o.1 (hgj 0 0 (by unfold mU; omega) (by decide)) hR_45.o.2) 0 rfl rfl 1 (by decide) (hk1) (fun _ h9 => h9) rfl dX12_version_197 ?_
              refine zeqv (y := .ref (ma 1 0)) (congrArg Value.ref (hgj 1 0 (by unfold mU; omega) (by decide))) ?_
              refine lv_iload_n hx hb dX12_version_200 rfl (lv_at hl 3 rfl) ?_
              have h_51 := c_get l D ty A uj Cj mj t0 mi 1 0 n1 (mj 9) hR_45.l1 i (by omega)
              first | dsimp only at h_51 | skip
              rw [(show mj 1 0 = ma 1 0 from (hgj 1 0 (by unfold mU; omega) (by decide))), (show mj 9 i = ma 9 i from (hgj 9 i (by unfold mU; omega) (by decide)))] at h_51
              obtain ⟨huz_52, hnz_52, mz_52, bz_52, hCz_52⟩ := isL.hd hR_45.l1
              refine zcVr (x := .ref (ma 9 i)) (As := [.int (nI i)]) (rest := []) ⟨hx, hb, hml, hown, hts⟩ (h_51) (cwV 1 hts gX12_version_Jx4a65c_get_915e3 rfl rfl rfl (by decide +kernel) ⟨Nat.le_of_ble_eq_true rfl, Nat.le_of_ble_eq_true rfl⟩) mI_blind (mI_pre hM hK hMS hS) (va_recv hK (hM.Pa huz_52 (hgj 1 0 (by unfold mU; omega) (by decide)) hCz_52) (ci := 0) (q0 := 0) rfl rfl) rfl hl.1 rfl (Nat.le_of_ble_eq_true rfl) dX12_version_201 ⟨by show _ ≤ 58; omega, by show _ ≤ 1744; omega⟩ ?_
              refine va_castS hx hb hown (hk2) ((hK.1 8 _ rfl).2) (va_recv hK (hM.Pa (hR_45.s9 (i := i) (by omega)).1 (hgj 9 i (by unfold mU; omega) (by decide)) (hR_45.s9 (i := i) (by omega)).2) (ci := 8) (q0 := 0) rfl rfl) dX12_version_204 ?_
              refine va_get hx hb hts hinX7 hown hK (hM.Pa (hR_45.s9 (i := i) (by omega)).1 (hgj 9 i (by unfold mU; omega) (by decide)) (hR_45.s9 (i := i) (by omega)).2) 0 rfl rfl 3 (by decide) (hk4) (fun _ h9 => h9) rfl dX12_version_207 ?_
              refine zeqv (y := .ref (ma 12 i)) (congrArg Value.ref (hgj 12 i (by unfold mU; omega) (by decide))) ?_
              refine lv_aload_n hx hb dX12_version_210 rfl (lv_at hl 1 rfl) ?_
              obtain ⟨huz_56, hnz_56, mz_56, bz_56, hCz_56⟩ := isL.hd (hR_45.s12 (i := i) (by omega))
              have h_57 := c_add l D ty A uj Cj mj t0 mi 12 i (nV g i) (fun v => mj 15 (i * 6 + v)) (hR_45.s12 (i := i) (by omega)) 15 q9 12 _ _ hs_46.1 hs_46.2 rfl (by decide +kernel) (by omega) (by omega) (fun v9 hv9 => ⟨15, i * 6 + v9, 12, _, _, by omega, (hR_45.v15 hi hv9).1, rfl, (hR_45.v15 hi hv9).2, rfl, by decide +kernel⟩) (by omega)
              first | dsimp only at h_57 | skip
              rw [(show mj 12 i = ma 12 i from (hgj 12 i (by unfold mU; omega) (by decide))), (show mj 15 q9 = q_17 from haj)] at h_57
              refine va_calli (va_runV (As := [.ref q_17]) (rest := []) ⟨hx, hb, hml, hown, hts⟩ (h_57) (cwV 1 hts gX12_version_Jx4a65c_add_9ea2d rfl rfl rfl (by decide +kernel) ⟨Nat.le_of_ble_eq_true rfl, Nat.le_of_ble_eq_true rfl⟩) ⟨zBl mI_blind, (va_recv hK (hM.Pa huz_56 (hgj 12 i (by unfold mU; omega) (by decide)) hCz_56) (ci := 0) (q0 := 0) rfl rfl), fun U h1 h2 => ⟨rfl, mI_pre hM hK hMS hS U h1 h2⟩⟩ rfl rfl hl.1 rfl (lv_room (Nat.le_of_ble_eq_true rfl)) dX12_version_211 ⟨by show _ ≤ 58; omega, by show _ ≤ 1744; omega⟩) hS (fun _ _ h => h) (fun _ h => h) (fun r_55 S_54 t H1 locs ht hvm hw hB9 hz1 hk1 hS => ?_)
              obtain ⟨hr_55, hchg, hL9⟩ := hw
              subst hr_55
              obtain ⟨hM, -, -⟩ := hB9
              rw [ht] at hM
              clear hk1 hz1 hvm ht
              clear t
              generalize H1 = H at hM hS ⊢
              have hR_61 := mR_ver hVj hi h6v hX hq9 hchg (by rw [haj]; exact hL9)
              have hg_62 : ∀ k9 x9, mU g n1 n2 nL n4 n5 k9 x9 → (k9 ≠ 2 ∧ k9 ≠ 4 ∧ k9 ≠ 6 ∧ k9 ≠ 8 ∧ k9 ≠ 13) → S_54.2.2 k9 x9 = ma k9 x9 := fun k9 x9 hm hn => (hchg.2.2 k9 x9 (fun z => by omega)).trans (hgj k9 x9 hm ⟨hn.1, hn.2.1, hn.2.2.1, hn.2.2.2.1⟩)
              clear hchg hL9
              obtain ⟨u_58, C_59, ma_60⟩ := S_54
              have hM : mW D A u_58 C_59 ma_60 H := hM
              have hR_61 : mR ty t0 (verG g n2 i rw0) n1 n2 (vL g i rw0 n2) n4 n5 (nI 0) (fun q' => if q' = q9 then fun _ => 0 else rep q') (fun q' => if q' = q9 then fun _ => 0 else bro q') u_58 C_59 ma_60 := hR_61
              have hg_62 : ∀ k9 x9, mU g n1 n2 nL n4 n5 k9 x9 → (k9 ≠ 2 ∧ k9 ≠ 4 ∧ k9 ≠ 6 ∧ k9 ≠ 8 ∧ k9 ≠ 13) → ma_60 k9 x9 = ma k9 x9 := fun k9 x9 hm hn => hg_62 k9 x9 hm hn
              refine lv_pop hx hb dX12_version_214 rfl ?_
              refine lv_aload_n hx hb dX12_version_215 rfl (lv_at hl 2 rfl) ?_
              refine va_get hx hb hts hinX12 hown hK (hM.Pa hR_61.o.1 (hg_62 0 0 (by unfold mU; omega) (by decide)) hR_61.o.2) 0 rfl rfl 1 (by decide) (hk1) (fun _ h9 => h9) rfl dX12_version_216 ?_
              refine zeqv (y := .ref (ma 1 0)) (congrArg Value.ref (hg_62 1 0 (by unfold mU; omega) (by decide))) ?_
              refine lv_iload_n hx hb dX12_version_219 rfl (lv_at hl 3 rfl) ?_
              have h_63 := c_get l D ty A u_58 C_59 ma_60 t0 mi 1 0 n1 (ma_60 9) hR_61.l1 i (by omega)
              first | dsimp only at h_63 | skip
              rw [(show ma_60 1 0 = ma 1 0 from (hg_62 1 0 (by unfold mU; omega) (by decide))), (show ma_60 9 i = ma 9 i from (hg_62 9 i (by unfold mU; omega) (by decide)))] at h_63
              obtain ⟨huz_64, hnz_64, mz_64, bz_64, hCz_64⟩ := isL.hd hR_61.l1
              refine zcVr (x := .ref (ma 9 i)) (As := [.int (nI i)]) (rest := []) ⟨hx, hb, hml, hown, hts⟩ (h_63) (cwV 1 hts gX12_version_Jx4a65c_get_915e3 rfl rfl rfl (by decide +kernel) ⟨Nat.le_of_ble_eq_true rfl, Nat.le_of_ble_eq_true rfl⟩) mI_blind (mI_pre hM hK hMS hS) (va_recv hK (hM.Pa huz_64 (hg_62 1 0 (by unfold mU; omega) (by decide)) hCz_64) (ci := 0) (q0 := 0) rfl rfl) rfl hl.1 rfl (Nat.le_of_ble_eq_true rfl) dX12_version_220 ⟨by show _ ≤ 58; omega, by show _ ≤ 1744; omega⟩ ?_
              refine va_castS hx hb hown (hk2) ((hK.1 8 _ rfl).2) (va_recv hK (hM.Pa (hR_61.s9 (i := i) (by omega)).1 (hg_62 9 i (by unfold mU; omega) (by decide)) (hR_61.s9 (i := i) (by omega)).2) (ci := 8) (q0 := 0) rfl rfl) dX12_version_223 ?_
              have h_66 := c_X7_latest l D ty A u_58 C_59 ma_60 t0 mi (verG g n2 i rw0) n1 n2 (vL g i rw0 n2) n4 n5 (nI 0) (fun q' => if q' = q9 then fun _ => 0 else rep q') (fun q' => if q' = q9 then fun _ => 0 else bro q') hR_61 i (by omega)
              first | dsimp only at h_66 | skip
              rw [(show ma_60 9 i = ma 9 i from (hg_62 9 i (by unfold mU; omega) (by decide)))] at h_66
              refine zcVi (As := []) (rest := []) ⟨hx, hb, hml, hown, hts⟩ (h_66) (cwV 0 hts gX12_version_X7_latest rfl rfl rfl (by decide +kernel) ⟨Nat.le_of_ble_eq_true rfl, Nat.le_of_ble_eq_true rfl⟩) mI_blind (mI_pre hM hK hMS hS) (va_recv hK (hM.Pa (hR_61.s9 (i := i) (by omega)).1 (hg_62 9 i (by unfold mU; omega) (by decide)) (hR_61.s9 (i := i) (by omega)).2) (ci := 8) (q0 := 0) rfl rfl) rfl hl.1 rfl (Nat.le_of_ble_eq_true rfl) dX12_version_226 ⟨by show _ ≤ 58; omega, by show _ ≤ 1744; omega⟩ (fun r_67 hr_67 => ?_)
              subst hr_67
              refine W.widen (k := 58) (n := 1744) (by omega) (by omega) ?_
              exact W.iret (v := nI (nV (verG g n2 i rw0) i) - nI 1) hx hb hr (fun t ht hW => ⟨⟨_, (u_58, C_59, ma_60), rfl, ⟨by rw [verV h6v, if_pos rfl]; exact pk_sub (a := nV g i + 1) (b := 1) (by omega), (hg_62 0 0 (by unfold mU; omega) (by decide)), by rw [← hq9]; exact hR_61⟩, mI_pre hM hK hMS hS t ht hW⟩, hS.F ht⟩) hS.2.2 dX12_version_229
            · have c_50 := zn_geF (a := j) (b := n2) (by omega) (by omega) c_50
              obtain ⟨⟨s12, b12⟩, ⟨s13, b13⟩, q1, q2⟩ := hR.I.src (show j < n2 by omega)
              have v7j := (hR.I.v7 (show cn (g 13 j) / 6 < n1 by omega)).2
              refine lv_aload_n hx hb dX12_version_98 rfl (lv_at hl 2 rfl) ?_
              refine va_get hx hb hts hinX12 hown hK (hM.Pa hR_45.o.1 (hgj 0 0 (by unfold mU; omega) (by decide)) hR_45.o.2) 0 rfl rfl 2 (by decide) (hk6) (fun _ h9 => h9) rfl dX12_version_99 ?_
              refine zeqv (y := .ref (ma 3 0)) (congrArg Value.ref (hgj 3 0 (by unfold mU; omega) (by decide))) ?_
              refine lv_iload hx hb dX12_version_102 (lv_at hl 0 rfl) ?_
              have h_68 := c_get l D ty A uj Cj mj t0 mi 3 0 n2 (mj 24) hR_45.l3 j (by omega)
              first | dsimp only at h_68 | skip
              rw [(show mj 3 0 = ma 3 0 from (hgj 3 0 (by unfold mU; omega) (by decide))), (show mj 24 j = ma 24 j from (hgj 24 j (by unfold mU; omega) (by decide)))] at h_68
              obtain ⟨huz_69, hnz_69, mz_69, bz_69, hCz_69⟩ := isL.hd hR_45.l3
              refine zcVr (x := .ref (ma 24 j)) (As := [.int (nI j)]) (rest := []) ⟨hx, hb, hml, hown, hts⟩ (h_68) (cwV 1 hts gX12_version_Jx4a65c_get_915e3 rfl rfl rfl (by decide +kernel) ⟨Nat.le_of_ble_eq_true rfl, Nat.le_of_ble_eq_true rfl⟩) mI_blind (mI_pre hM hK hMS hS) (va_recv hK (hM.Pa huz_69 (hgj 3 0 (by unfold mU; omega) (by decide)) hCz_69) (ci := 0) (q0 := 0) rfl rfl) rfl hl.1 rfl (Nat.le_of_ble_eq_true rfl) dX12_version_104 ⟨by show _ ≤ 58; omega, by show _ ≤ 1744; omega⟩ ?_
              refine va_castS hx hb hown (hk7) ((hK.1 11 _ rfl).2) (va_recv hK (hM.Pa (hR_45.q24 (j := j) (by omega)).1 (hgj 24 j (by unfold mU; omega) (by decide)) (hR_45.q24 (j := j) (by omega)).2) (ci := 11) (q0 := 0) rfl rfl) dX12_version_107 ?_
              refine lv_astore (lv' := [(5, .ref (ma 24 j)), (4, .int (nI j)), (3, .ref q_17), (0, .ref (ma 0 0)), (1, .int (nI i)), (2, .int rw0)]) hx hb dX12_version_110 hl (by decide) rfl (fun ls hl => ?_)
              refine lv_aload_n hx hb dX12_version_112 rfl (lv_at hl 3 rfl) ?_
              refine va_get hx hb hts hinX12 hown hK (hM.Pa hR_45.o.1 (hgj 0 0 (by unfold mU; omega) (by decide)) hR_45.o.2) 0 rfl rfl 1 (by decide) (hk1) (fun _ h9 => h9) rfl dX12_version_113 ?_
              refine zeqv (y := .ref (ma 1 0)) (congrArg Value.ref (hgj 1 0 (by unfold mU; omega) (by decide))) ?_
              refine lv_aload hx hb dX12_version_116 (lv_at hl 0 rfl) ?_
              refine va_get hx hb hts hinX10 hown hK (hM.Pa (hR_45.q24 (j := j) (by omega)).1 (hgj 24 j (by unfold mU; omega) (by decide)) (hR_45.q24 (j := j) (by omega)).2) 0 rfl rfl 2 (by decide) (hk9) (fun _ h9 => h9) rfl dX12_version_118 ?_
              have h_71 := c_get l D ty A uj Cj mj t0 mi 1 0 n1 (mj 9) hR_45.l1 (cn (g 13 j) / 6) (by omega)
              first | dsimp only at h_71 | skip
              rw [(show mj 1 0 = ma 1 0 from (hgj 1 0 (by unfold mU; omega) (by decide))), (show mj 9 (cn (g 13 j) / 6) = ma 9 (cn (g 13 j) / 6) from (hgj 9 (cn (g 13 j) / 6) (by unfold mU; omega) (by decide)))] at h_71
              obtain ⟨huz_72, hnz_72, mz_72, bz_72, hCz_72⟩ := isL.hd hR_45.l1
              refine zcVr (x := .ref (ma 9 (cn (g 13 j) / 6))) (As := [.int (nI (cn (g 13 j) / 6))]) (rest := []) ⟨hx, hb, hml, hown, hts⟩ (h_71) (cwV 1 hts gX12_version_Jx4a65c_get_915e3 rfl rfl rfl (by decide +kernel) ⟨Nat.le_of_ble_eq_true rfl, Nat.le_of_ble_eq_true rfl⟩) mI_blind (mI_pre hM hK hMS hS) (va_recv hK (hM.Pa huz_72 (hgj 1 0 (by unfold mU; omega) (by decide)) hCz_72) (ci := 0) (q0 := 0) rfl rfl) rfl hl.1 rfl (Nat.le_of_ble_eq_true rfl) dX12_version_121 ⟨by show _ ≤ 58; omega, by show _ ≤ 1744; omega⟩ ?_
              refine va_castS hx hb hown (hk2) ((hK.1 8 _ rfl).2) (va_recv hK (hM.Pa (hR_45.s9 (i := cn (g 13 j) / 6) (by omega)).1 (hgj 9 (cn (g 13 j) / 6) (by unfold mU; omega) (by decide)) (hR_45.s9 (i := cn (g 13 j) / 6) (by omega)).2) (ci := 8) (q0 := 0) rfl rfl) dX12_version_124 ?_
              have h_74 := c_X7_latest l D ty A uj Cj mj t0 mi g n1 n2 nL n4 n5 (nI 0) rep bro hR_45 (cn (g 13 j) / 6) (by omega)
              first | dsimp only at h_74 | skip
              rw [(show mj 9 (cn (g 13 j) / 6) = ma 9 (cn (g 13 j) / 6) from (hgj 9 (cn (g 13 j) / 6) (by unfold mU; omega) (by decide)))] at h_74
              refine zcVi (As := []) (rest := []) ⟨hx, hb, hml, hown, hts⟩ (h_74) (cwV 0 hts gX12_version_X7_latest rfl rfl rfl (by decide +kernel) ⟨Nat.le_of_ble_eq_true rfl, Nat.le_of_ble_eq_true rfl⟩) mI_blind (mI_pre hM hK hMS hS) (va_recv hK (hM.Pa (hR_45.s9 (i := cn (g 13 j) / 6) (by omega)).1 (hgj 9 (cn (g 13 j) / 6) (by unfold mU; omega) (by decide)) (hR_45.s9 (i := cn (g 13 j) / 6) (by omega)).2) (ci := 8) (q0 := 0) rfl rfl) rfl hl.1 rfl (Nat.le_of_ble_eq_true rfl) dX12_version_127 ⟨by show _ ≤ 58; omega, by show _ ≤ 1744; omega⟩ (fun r_75 hr_75 => ?_)
              subst hr_75
              refine lv_istore (lv' := [(6, .int (nI (nV g (cn (g 13 j) / 6)) - nI 1)), (5, .ref (ma 24 j)), (4, .int (nI j)), (3, .ref q_17), (0, .ref (ma 0 0)), (1, .int (nI i)), (2, .int rw0)]) hx hb dX12_version_130 hl (by decide) rfl (fun ls hl => ?_)
              refine lv_aload hx hb dX12_version_132 (lv_at hl 1 rfl) ?_
              refine va_get hx hb hts hinX10 hown hK (hM.Pa (hR_45.q24 (j := j) (by omega)).1 (hgj 24 j (by unfold mU; omega) (by decide)) (hR_45.q24 (j := j) (by omega)).2) 0 rfl rfl 0 (by decide) (hk10) (fun _ h9 => h9) rfl dX12_version_134 ?_
              refine lv_iload_n hx hb dX12_version_137 rfl (lv_at hl 5 rfl) ?_
              refine lv_icmp_ne (tgt := 190) hx hb dX12_version_138 (by decide) (fun c_76 => ?_) (fun c_76 => ?_)
              · have c_76 := zn_neT (a := (cn (g 12 j) / 6)) (b := i) (by omega) (by omega) c_76
                refine lv_iinc (v := nI (j + 1)) (lv' := [(4, .int (nI (j + 1))), (6, .int (nI (nV g (cn (g 13 j) / 6)) - nI 1)), (5, .ref (ma 24 j)), (3, .ref q_17), (0, .ref (ma 0 0)), (1, .int (nI i)), (2, .int rw0)]) hx hb dX12_version_190 hl (k := 2) rfl (nI_add j 1) (by decide) rfl (fun ls hl => ?_)
                refine lv_goto (tgt := 86) hx hb dX12_version_193 (by decide) ?_
                exact ih_j (uj, Cj, mj) ls _ _ _ _ (by omega) ⟨by omega, by omega, show lv_has ls 7 [(4, .int (nI (j + 1))), (3, .ref q_17), (0, .ref (ma 0 0)), (1, .int (nI i)), (2, .int rw0)] from lv_sub hl [0, 3, 4, 5, 6] rfl, (hVj.no (by omega) (Or.inl c_76)), hgj, haj, hM, hS⟩
              · have c_76 := zn_neF (a := (cn (g 12 j) / 6)) (b := i) (by omega) (by omega) c_76
                refine lv_iload hx hb dX12_version_141 (lv_at hl 0 rfl) ?_
                refine lv_iconst (v := -1) hx hb dX12_version_143 (by decide) ?_
                refine lv_icmp_eq (tgt := 190) hx hb dX12_version_144 (by decide) (fun c_77 => ?_) (fun c_77 => ?_)
                · have c_77 := (lat_m1 (show nV g (cn (g 13 j) / 6) < 7 by omega)).mp c_77
                  refine lv_iinc (v := nI (j + 1)) (lv' := [(4, .int (nI (j + 1))), (6, .int (nI (nV g (cn (g 13 j) / 6)) - nI 1)), (5, .ref (ma 24 j)), (3, .ref q_17), (0, .ref (ma 0 0)), (1, .int (nI i)), (2, .int rw0)]) hx hb dX12_version_190 hl (k := 2) rfl (nI_add j 1) (by decide) rfl (fun ls hl => ?_)
                  refine lv_goto (tgt := 86) hx hb dX12_version_193 (by decide) ?_
                  exact ih_j (uj, Cj, mj) ls _ _ _ _ (by omega) ⟨by omega, by omega, show lv_has ls 7 [(4, .int (nI (j + 1))), (3, .ref q_17), (0, .ref (ma 0 0)), (1, .int (nI i)), (2, .int rw0)] from lv_sub hl [0, 3, 4, 5, 6] rfl, (hVj.no (by omega) (Or.inr c_77)), hgj, haj, hM, hS⟩
                · have c_77 : 0 < nV g (cn (g 13 j) / 6) := Nat.pos_of_ne_zero (fun z => c_77 ((lat_m1 (show nV g (cn (g 13 j) / 6) < 7 by omega)).mpr z))
                  refine lv_aload_n hx hb dX12_version_147 rfl (lv_at hl 3 rfl) ?_
                  refine va_get hx hb hts hinX11 hown hK (hM.Pa hs_46.1 haj hs_46.2) 0 rfl rfl 4 (by decide) (hk11) (fun _ h9 => h9) rfl dX12_version_148 ?_
                  refine lv_aload hx hb dX12_version_151 (lv_at hl 1 rfl) ?_
                  refine va_get hx hb hts hinX10 hown hK (hM.Pa (hR_45.q24 (j := j) (by omega)).1 (hgj 24 j (by unfold mU; omega) (by decide)) (hR_45.q24 (j := j) (by omega)).2) 0 rfl rfl 1 (by decide) (hk12) (fun _ h9 => h9) rfl dX12_version_153 ?_
                  have h_78 := c_get l D ty A uj Cj mj t0 mi 19 q9 6 (fun f => mj 21 (q9 * 6 + f)) hVj.2.2.2.2.2.1 (cn (g 12 j) % 6) (by omega)
                  obtain ⟨huz_79, hnz_79, mz_79, bz_79, hCz_79⟩ := isL.hd hVj.2.2.2.2.2.1
                  refine zcVr (x := .ref (mj 21 (q9 * 6 + (cn (g 12 j) % 6)))) (As := [.int (nI (cn (g 12 j) % 6))]) (rest := []) ⟨hx, hb, hml, hown, hts⟩ (h_78) (cwV 1 hts gX12_version_Jx4a65c_get_915e3 rfl rfl rfl (by decide +kernel) ⟨Nat.le_of_ble_eq_true rfl, Nat.le_of_ble_eq_true rfl⟩) mI_blind (mI_pre hM hK hMS hS) (va_recv hK (hM.Pa huz_79 rfl hCz_79) (ci := 0) (q0 := 0) rfl rfl) rfl hl.1 rfl (Nat.le_of_ble_eq_true rfl) dX12_version_156 ⟨by show _ ≤ 58; omega, by show _ ≤ 1744; omega⟩ ?_
                  obtain ⟨huz_81, hnz_81, mz_81, bz_81, hCz_81⟩ := isL.hd (hVj.2.2.2.2.2.2.1 (cn (g 12 j) % 6) (by omega))
                  refine va_castS hx hb hown (hk13) ((hK.1 0 _ rfl).2) (va_recv hK (hM.Pa huz_81 rfl hCz_81) (ci := 0) (q0 := 0) rfl rfl) dX12_version_159 ?_
                  refine mnew (Cn := RX8) (T := TX8) (N := 4) (ci := 9) (fs := [.int 0, .int 0, .int 0, .int 0]) hx hb hts hinX8 tyX8 tyX8_ok hown (hts (.classLink RX12 90 RX8) (by decide +kernel)) (hts (.instantiable RX8 4) (by decide +kernel)) (hts (.initialized RX8) (by decide +kernel)) hK hM hS 23 (vL g i rw0 j) rfl (fun j hj => by rcases (show j = 0 ∨ j = 1 ∨ j = 2 ∨ j = 3 by omega) with rfl | rfl | rfl | rfl <;> rfl) (by show _ ≤ 58; omega) (by show _ ≤ 1744; omega) dX12_version_162 (fun H1 hM hS _ _ => ?_)
                  generalize hq9z : Array.size H = q_82 at hM ⊢
                  clear hq9z
                  generalize H1 = H at hM hS ⊢
                  obtain ⟨u_83, eu_83⟩ : ∃ z, z = upU uj 23 (vL g i rw0 j) := ⟨_, rfl⟩
                  obtain ⟨C_84, eC_84⟩ : ∃ z, z = up2 Cj 23 (vL g i rw0 j) (eO 9 [.int 0, .int 0, .int 0, .int 0]) := ⟨_, rfl⟩
                  obtain ⟨ma_85, ema_85⟩ : ∃ z, z = up2 mj 23 (vL g i rw0 j) q_82 := ⟨_, rfl⟩
                  have hM : mW D A u_83 C_84 ma_85 H := by rw [eu_83, eC_84, ema_85]; exact hM
                  have hV_86 : vP ty t0 g n1 n2 nL n4 n5 (nI 0) rep bro i q9 rw0 j u_83 C_84 ma_85 := hVj.ext hi h6v hX (by omega) hq9 vn2 (fun k9 x9 hn hu => ⟨by rw [eu_83]; exact upU_o hu, by rw [eC_84]; exact up2_n _ _ hn, by rw [ema_85]; exact up2_n _ _ hn⟩)
                  have hg_87 : ∀ k9 x9, mU g n1 n2 nL n4 n5 k9 x9 → (k9 ≠ 2 ∧ k9 ≠ 4 ∧ k9 ≠ 6 ∧ k9 ≠ 8) → ma_85 k9 x9 = ma k9 x9 := fun k9 x9 hm hn => by rw [ema_85, up2_n _ _ (fun z => by unfold mU at hm; omega)]; exact hgj k9 x9 hm hn
                  have ha_88 : ma_85 15 q9 = q_17 := by rw [ema_85, up2_n _ _ (fun z => by omega)]; exact haj
                  have ha_89 : ma_85 21 (q9 * 6 + cn (g 12 j) % 6) = mj 21 (q9 * 6 + cn (g 12 j) % 6) := by rw [ema_85, up2_n _ _ (fun z => by omega)]
                  have hu_90 : u_83 23 (vL g i rw0 j) := by rw [eu_83]; exact upU_s
                  have hC_91 : C_84 23 (vL g i rw0 j) = eO 9 [.int 0, .int 0, .int 0, .int 0] := by rw [eC_84]; exact up2_s _ _ _ _
                  have ha_92 : ma_85 23 (vL g i rw0 j) = q_82 := by rw [ema_85]; exact up2_s _ _ _ _
                  have hR_93 := hV_86.1
                  have hs_94 := hV_86.2.1
                  refine lv_dup hx hb dX12_version_165 rfl ?_
                  refine lv_aload hx hb dX12_version_166 (lv_at hl 1 rfl) ?_
                  refine va_get hx hb hts hinX10 hown hK (hM.Pa (hR_93.q24 (j := j) (by omega)).1 (hg_87 24 j (by unfold mU; omega) (by decide)) (hR_93.q24 (j := j) (by omega)).2) 0 rfl rfl 2 (by decide) (hk9) (fun _ h9 => h9) rfl dX12_version_168 ?_
                  refine lv_iload hx hb dX12_version_171 (lv_at hl 0 rfl) ?_
                  refine lv_aload hx hb dX12_version_173 (lv_at hl 1 rfl) ?_
                  refine va_get hx hb hts hinX10 hown hK (hM.Pa (hR_93.q24 (j := j) (by omega)).1 (hg_87 24 j (by unfold mU; omega) (by decide)) (hR_93.q24 (j := j) (by omega)).2) 0 rfl rfl 3 (by decide) (hk15) (fun _ h9 => h9) rfl dX12_version_175 ?_
                  refine lv_aload hx hb dX12_version_178 (lv_at hl 1 rfl) ?_
                  refine va_get hx hb hts hinX10 hown hK (hM.Pa (hR_93.q24 (j := j) (by omega)).1 (hg_87 24 j (by unfold mU; omega) (by decide)) (hR_93.q24 (j := j) (by omega)).2) 0 rfl rfl 4 (by decide) (hk16) (fun _ h9 => h9) rfl dX12_version_180 ?_
                  have h_96 := c_X8_init l D ty A u_83 C_84 ma_85 t0 mi 23 (vL g i rw0 j) hu_90 hC_91 (nI (cn (g 13 j) / 6)) (nI (nV g (cn (g 13 j) / 6)) - nI 1) (nI (cn (g 13 j) % 6)) (g 14 j)
                  first | dsimp only at h_96 | skip
                  rw [(show ma_85 23 (vL g i rw0 j) = q_82 from ha_92)] at h_96
                  refine va_callv (va_runI (As := [.int (nI (cn (g 13 j) / 6)), .int (nI (nV g (cn (g 13 j) / 6)) - nI 1), .int (nI (cn (g 13 j) % 6)), .int (g 14 j)]) (rest := [.ref q_82, .ref (mj 21 (q9 * 6 + (cn (g 12 j) % 6)))]) ⟨hx, hb, hml, hown, hts⟩ (h_96) (cwI 4 hts gX12_version_X8_init rfl rfl rfl (hts (.initialized RX8) (by decide +kernel)) (hts (.methodLink RX12 139 yX8_init) (by decide +kernel)) (hts (.instanceMethod yX8_init) (by decide +kernel)) rfl (by decide +kernel) ⟨Nat.le_of_ble_eq_true rfl, Nat.le_of_ble_eq_true rfl⟩) ⟨zBl mI_blind, fun U h1 h2 => ⟨rfl, mI_pre hM hK hMS hS U h1 h2⟩⟩ rfl rfl hl.1 rfl (lv_room (Nat.le_of_ble_eq_true rfl)) dX12_version_183 ⟨by show _ ≤ 58; omega, by show _ ≤ 1744; omega⟩) hS (fun _ _ h => h) (fun _ h => h) (fun Z_95 t H1 locs ht hvm hw hB9 hz1 hk1 hS => ?_)
                  obtain ⟨hM, -, -⟩ := hB9
                  rw [ht] at hM
                  clear hk1 hz1 hvm ht
                  clear t
                  generalize H1 = H at hM hS ⊢
                  rw [hw] at hM
                  clear hw
                  obtain ⟨C_97, eC_97⟩ : ∃ z, z = up2 C_84 23 (vL g i rw0 j) (eO 9 [.int (nI (cn (g 13 j) / 6)), .int (nI (nV g (cn (g 13 j) / 6)) - nI 1), .int (nI (cn (g 13 j) % 6)), .int (g 14 j)]) := ⟨_, rfl⟩
                  have hM : mW D A u_83 C_97 ma_85 H := by rw [eC_97]; exact hM
                  have hC_98 : C_97 15 q9 = eO 12 [.int rw0, .ref (ma_85 16 q9), .ref (ma_85 17 q9), .ref (ma_85 18 q9), .ref (ma_85 19 q9)] := by rw [eC_97, up2_n _ _ (fun z => by omega)]; exact hs_94.2
                  have hC_99 : C_97 23 (vL g i rw0 j) = eO 9 [.int (nI (cn (g 13 j) / 6)), .int (nI (nV g (cn (g 13 j) / 6)) - nI 1), .int (nI (cn (g 13 j) % 6)), .int (g 14 j)] := by rw [eC_97]; exact up2_s _ _ _ _
                  have hV_100 : vP ty t0 g n1 n2 nL n4 n5 (nI 0) rep bro i q9 rw0 j u_83 C_97 ma_85 := hV_86.ext hi h6v hX (by omega) hq9 vn2 (fun k9 x9 hn hu => ⟨hu, by rw [eC_97]; exact up2_n _ _ hn, rfl⟩)
                  have hR_101 := hV_100.1
                  have hs_102 := hV_100.2.1
                  have hL_103 := hV_100.2.2.2.2.2.2.1 (cn (g 12 j) % 6) (by omega)
                  have hlen := vn5 (q9 * 6 + cn (g 12 j) % 6) (by omega) (by omega)
                  obtain ⟨huz_105, hnz_105, mz_105, bz_105, hCz_105⟩ := isL.hd hL_103
                  have h_104 := c_add l D ty A u_83 C_97 ma_85 t0 mi 21 (q9 * 6 + cn (g 12 j) % 6) (lkl (vG g i rw0 j) (vL g i rw0 j) (q9 * 6 + cn (g 12 j) % 6)).length (fun k => ma_85 23 (lkj (vG g i rw0 j) (vL g i rw0 j) (q9 * 6 + cn (g 12 j) % 6) k)) hL_103 23 (vL g i rw0 j) 9 _ _ hu_90 hC_99 rfl (by decide +kernel) (by omega) (by omega) (fun k9 hk9 => by have hm9 := vlk_mem hR.I hi h6v hX (show j ≤ n2 by omega) hq9 (show cn (g 12 j) % 6 < 6 by omega) hk9; exact ⟨23, _, 9, _, _, by omega, (hV_100.2.2.2.2.2.2.2 _ hm9.1 hm9.2).1, rfl, (hV_100.2.2.2.2.2.2.2 _ hm9.1 hm9.2).2, rfl, by decide +kernel⟩) (by omega)
                  first | dsimp only at h_104 | skip
                  rw [ha_89, ha_92] at h_104
                  refine va_calli (va_runV (As := [.ref q_82]) (rest := []) ⟨hx, hb, hml, hown, hts⟩ (h_104) (cwV 1 hts gX12_version_Jx4a65c_add_9ea2d rfl rfl rfl (by decide +kernel) ⟨Nat.le_of_ble_eq_true rfl, Nat.le_of_ble_eq_true rfl⟩) ⟨zBl mI_blind, (va_recv hK (hM.Pa huz_105 ha_89 hCz_105) (ci := 0) (q0 := 0) rfl rfl), fun U h1 h2 => ⟨rfl, mI_pre hM hK hMS hS U h1 h2⟩⟩ rfl rfl hl.1 rfl (lv_room (Nat.le_of_ble_eq_true rfl)) dX12_version_186 ⟨by show _ ≤ 58; omega, by show _ ≤ 1744; omega⟩) hS (fun _ _ h => h) (fun _ h => h) (fun r_107 S_106 t H1 locs ht hvm hw hB9 hz1 hk1 hS => ?_)
                  obtain ⟨hr_107, hchg, hL9⟩ := hw
                  subst hr_107
                  obtain ⟨hM, -, -⟩ := hB9
                  rw [ht] at hM
                  clear hk1 hz1 hvm ht
                  clear t
                  generalize H1 = H at hM hS ⊢
                  have hV_111 := hV_100.yes hi h6v hX (show j < n2 by omega) hq9 c_76 c_77 hchg (by rw [ha_92]; exact hL9) ⟨hu_90, hC_99.trans (by rw [pk_sub (a := nV g (cn (g 13 j) / 6)) (b := 1) c_77])⟩
                  have hg_112 : ∀ k9 x9, mU g n1 n2 nL n4 n5 k9 x9 → (k9 ≠ 2 ∧ k9 ≠ 4 ∧ k9 ≠ 6 ∧ k9 ≠ 8) → S_106.2.2 k9 x9 = ma k9 x9 := fun k9 x9 hm hn => (hchg.2.2 k9 x9 (fun z => by have hm9 := mU_q hq9 h6v hm; omega)).trans (hg_87 k9 x9 hm hn)
                  have ha_113 : S_106.2.2 15 q9 = q_17 := (hchg.2.2 15 q9 (by omega)).trans ha_88
                  clear hchg hL9
                  obtain ⟨u_108, C_109, ma_110⟩ := S_106
                  have hM : mW D A u_108 C_109 ma_110 H := hM
                  have hV_111 : vP ty t0 g n1 n2 nL n4 n5 (nI 0) rep bro i q9 rw0 (j + 1) u_108 C_109 ma_110 := hV_111
                  have hg_112 : ∀ k9 x9, mU g n1 n2 nL n4 n5 k9 x9 → (k9 ≠ 2 ∧ k9 ≠ 4 ∧ k9 ≠ 6 ∧ k9 ≠ 8) → ma_110 k9 x9 = ma k9 x9 := fun k9 x9 hm hn => hg_112 k9 x9 hm hn
                  refine lv_pop hx hb dX12_version_189 rfl ?_
                  refine lv_iinc (v := nI (j + 1)) (lv' := [(4, .int (nI (j + 1))), (6, .int (nI (nV g (cn (g 13 j) / 6)) - nI 1)), (5, .ref (ma 24 j)), (3, .ref q_17), (0, .ref (ma 0 0)), (1, .int (nI i)), (2, .int rw0)]) hx hb dX12_version_190 hl (k := 2) rfl (nI_add j 1) (by decide) rfl (fun ls hl => ?_)
                  refine lv_goto (tgt := 86) hx hb dX12_version_193 (by decide) ?_
                  exact ih_j (u_108, C_109, ma_110) ls _ _ _ _ (by omega) ⟨by omega, by omega, show lv_has ls 7 [(4, .int (nI (j + 1))), (3, .ref q_17), (0, .ref (ma 0 0)), (1, .int (nI i)), (2, .int rw0)] from lv_sub hl [0, 3, 4, 5, 6] rfl, hV_111, hg_112, ha_113, hM, hS⟩
          · have c_16 := bI_t c_16
            cases c_16
        · have c_14 := zn_neF (a := (nV g i)) (b := 6) (by omega) (by omega) c_14
          omega
    · have c_7 := bI_f c_7
      simp only [c_5, c_7, Bool.not_true, Bool.not_false, Bool.and_true, Bool.true_and, Bool.and_false, Bool.false_and, Bool.or_true, Bool.true_or, Bool.or_false, Bool.false_or, Bool.and_self, Bool.or_self, Bool.true_eq_false, Bool.false_eq_true] at h2
