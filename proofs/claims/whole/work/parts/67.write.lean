set_option maxHeartbeats 600000 in
set_option maxRecDepth 100000 in
theorem m_terms (l : Launch) (D : va_G) (ty : Nat → ClassId) (A : Nat → Prop) (u : Nat → Nat → Prop) (C : Nat → Nat → va_E) (ma : Nat → Nat → Nat) (t0 mi : Nat) (g : Nat → Nat → Int32) (n1 n2 nL n4 n5 : Nat) (th : Int32) (rep bro : Nat → Nat → Int32) (hR : mR ty t0 g n1 n2 nL n4 n5 th rep bro u C ma) (i f : Nat) (hi : i < n1) (hf : f < nF g i) (pr ru : Int32) (hp1 : ¬ pr < nI 1) (hp2 : ¬ nI 99 < pr) (hr1 : ¬ ru < nI 0) (hr2 : ¬ nI 1000 < ru) : Met l yX12_terms wsX12_terms ({ frames := 7, cells := 0, slots := 0, locals := 192 }) (va_Pc [.ref (ma 0 0), .int (nI i), .int (nI f), .int pr, .int ru] (mI D ty A u C ma t0 mi)) (va_Qi (fun (v9 : Int32) (C2 : Nat → Nat → va_E) => v9 = g 10 (i * 6 + f) ∧ mR ty t0 (va_up (va_up g 10 (upd (g 10) (i * 6 + f) pr)) 11 (upd (g 11) (i * 6 + f) ru)) n1 n2 nL n4 n5 (nI 0) rep bro u C2 ma) (fun C2 t => mI D ty A u C2 ma t0 mi t) A) 0 0 A := by
  refine zMet (cc := cX12_terms) (maxL := 7) (ret := (some .int)) (by decide) rfl (Nat.le_of_ble_eq_true rfl) ?_
  intro p e s m below meth c hx hb hr hts hown hlocks hml hB ls hl
  obtain ⟨hM, hK, hMS⟩ := hB
  have hS : va_S A s.heap s.heap [] := va_S.rf
  have hbn := hR.I.b1
  have hbs := hR.I.b2
  have hbl := hR.I.bL
  have hbc := hR.I.b4
  have hbr := hR.I.b5
  have h1 := bFld_ok hR.I hi hf
  have hf7 := (hR.I.f7 hi).2.2
  have h2 : (!inB pr (nI 1) (nI 99) || !inB ru (nI 0) (nI 1000)) = false := by rw [inB_r hp1 hp2, inB_r hr1 hr2]; rfl
  have hl : lv_has ls 7 [(0, .ref (ma 0 0)), (1, .int (nI i)), (2, .int (nI f)), (3, .int pr), (4, .int ru)] := hl
  have hinX12 : ∀ w ∈ wsX120, w ∈ wsX12_terms := by decide +kernel
  have hk1 := hts (.fieldLink RX12 10 "DatamarketDeskModel" "sets" "Ljava/util/ArrayList;") (by decide +kernel)
  have hk2 := hts (.classLink RX12 49 "DatamarketDeskModel$DataSet") (by decide +kernel)
  have hinX7 : ∀ w ∈ wsX70, w ∈ wsX12_terms := by decide +kernel
  have hk4 := hts (.fieldLink RX12 114 "DatamarketDeskModel$DataSet" "prices" "[I") (by decide +kernel)
  have hk5 := hts (.fieldLink RX12 117 "DatamarketDeskModel$DataSet" "rules" "[I") (by decide +kernel)
  refine lv_aload_n hx hb dX12_terms_0 rfl (lv_at hl 0 rfl) ?_
  refine lv_aload_n hx hb dX12_terms_1 rfl (lv_at hl 0 rfl) ?_
  refine lv_iload_n hx hb dX12_terms_2 rfl (lv_at hl 1 rfl) ?_
  refine lv_iload_n hx hb dX12_terms_3 rfl (lv_at hl 2 rfl) ?_
  refine zcVi (As := [.int (nI i), .int (nI f)]) (rest := [.ref (ma 0 0)]) ⟨hx, hb, hml, hown, hts⟩ (c_X12_isNoField l D ty A u C ma t0 mi g n1 n2 nL n4 n5 th rep bro hR (nI i) (nI f)) (cwV 2 hts gX12_terms_X12_isNoField rfl rfl rfl (by decide +kernel) ⟨Nat.le_of_ble_eq_true rfl, Nat.le_of_ble_eq_true rfl⟩) mI_blind (mI_pre hM hK hMS hS) (va_recv hK (hM.Pa hR.o.1 rfl hR.o.2) (ci := 13) (q0 := 0) rfl rfl) rfl hl.1 rfl (Nat.le_of_ble_eq_true rfl) dX12_terms_4 ⟨Nat.le_of_ble_eq_true rfl, Nat.le_of_ble_eq_true rfl⟩ (fun r_1 hr_1 => ?_)
  subst hr_1
  refine zeq (show bI _ = bI false from by rw [h1]) ?_
  refine lv_iconst (v := nI 1) hx hb dX12_terms_7 (by decide) ?_
  refine va_calli (va_runV (As := [.int (bI false), .int (nI 1)]) (rest := []) ⟨hx, hb, hml, hown, hts⟩ (c_X12_start_f l D ty A u C ma t0 mi g n1 n2 nL n4 n5 th rep bro hR 1 (by omega) (by omega)) (cwV 2 hts gX12_terms_X12_start rfl rfl rfl (by decide +kernel) ⟨Nat.le_of_ble_eq_true rfl, Nat.le_of_ble_eq_true rfl⟩) ⟨zBl mI_blind, (va_recv hK (hM.Pa hR.o.1 rfl hR.o.2) (ci := 13) (q0 := 0) rfl rfl), fun U h1 h2 => ⟨rfl, mI_pre hM hK hMS hS U h1 h2⟩⟩ rfl rfl hl.1 rfl (lv_room (Nat.le_of_ble_eq_true rfl)) dX12_terms_8 ⟨Nat.le_of_ble_eq_true rfl, Nat.le_of_ble_eq_true rfl⟩) hS (fun _ _ h => h) (fun _ h => h) (fun r_3 C_2 t H1 locs ht hvm hw hB9 hz1 hk1 hS => ?_)
  obtain ⟨hr_3, hR_4⟩ := hw
  obtain ⟨hM, -, -⟩ := hB9
  rw [ht] at hM
  clear hk1 hz1 hvm ht
  clear t
  generalize H1 = H at hM hS ⊢
  subst hr_3
  refine lv_if_ne (tgt := 49) hx hb dX12_terms_11 (by decide) (fun c_5 => ?_) (fun c_5 => ?_)
  · have c_5 := bI_t c_5
    cases c_5
  · have c_5 := bI_f c_5
    refine lv_aload_n hx hb dX12_terms_14 rfl (lv_at hl 0 rfl) ?_
    refine lv_iload_n hx hb dX12_terms_15 rfl (lv_at hl 3 rfl) ?_
    refine lv_iconst (v := nI 1) hx hb dX12_terms_16 (by decide) ?_
    refine lv_bipush (v := nI 99) hx hb dX12_terms_17 (by decide) ?_
    refine zcSi (As := [.int pr, .int (nI 1), .int (nI 99)]) (rest := [.ref (ma 0 0)]) ⟨hx, hb, hml, hown, hts⟩ (c_X12_isIn l _ pr (nI 1) (nI 99)) (cwS 3 hts gX12_terms_X12_isIn rfl rfl rfl (by decide +kernel) ⟨Nat.le_of_ble_eq_true rfl, Nat.le_of_ble_eq_true rfl⟩) (B := fun _ => True) (fun _ _ _ _ _ => trivial) (fun _ _ _ => trivial) rfl hl.1 rfl (Nat.le_of_ble_eq_true rfl) dX12_terms_19 ⟨Nat.le_of_ble_eq_true rfl, Nat.le_of_ble_eq_true rfl⟩ (fun r_6 hr_6 => ?_)
    subst hr_6
    refine lv_if_eq (tgt := 37) hx hb dX12_terms_22 (by decide) (fun c_7 => ?_) (fun c_7 => ?_)
    · have c_7 := bI_f c_7
      simp only [c_5, c_7, Bool.not_true, Bool.not_false, Bool.and_true, Bool.true_and, Bool.and_false, Bool.false_and, Bool.or_true, Bool.true_or, Bool.or_false, Bool.false_or, Bool.and_self, Bool.or_self, Bool.true_eq_false, Bool.false_eq_true] at h2
    · have c_7 := bI_t c_7
      refine lv_iload hx hb dX12_terms_25 (lv_at hl 4 rfl) ?_
      refine lv_iconst (v := nI 0) hx hb dX12_terms_27 (by decide) ?_
      refine lv_sipush (v := nI 1000) hx hb dX12_terms_28 (by decide) ?_
      refine zcSi (As := [.int ru, .int (nI 0), .int (nI 1000)]) (rest := [.ref (ma 0 0)]) ⟨hx, hb, hml, hown, hts⟩ (c_X12_isIn l _ ru (nI 0) (nI 1000)) (cwS 3 hts gX12_terms_X12_isIn rfl rfl rfl (by decide +kernel) ⟨Nat.le_of_ble_eq_true rfl, Nat.le_of_ble_eq_true rfl⟩) (B := fun _ => True) (fun _ _ _ _ _ => trivial) (fun _ _ _ => trivial) rfl hl.1 rfl (Nat.le_of_ble_eq_true rfl) dX12_terms_31 ⟨Nat.le_of_ble_eq_true rfl, Nat.le_of_ble_eq_true rfl⟩ (fun r_8 hr_8 => ?_)
      subst hr_8
      refine lv_if_ne (tgt := 41) hx hb dX12_terms_34 (by decide) (fun c_9 => ?_) (fun c_9 => ?_)
      · have c_9 := bI_t c_9
        refine lv_iconst (v := nI 0) hx hb dX12_terms_41 (by decide) ?_
        refine zeq (show nI 0 = bI false from rfl) ?_
        refine lv_iconst (v := nI 2) hx hb dX12_terms_42 (by decide) ?_
        refine zcVi (As := [.int (bI false), .int (nI 2)]) (rest := []) ⟨hx, hb, hml, hown, hts⟩ (c_X12_refuse_f l D ty A u C_2 ma t0 mi g n1 n2 nL n4 n5 (nI 0) rep bro hR_4 rfl (nI 2)) (cwV 2 hts gX12_terms_X12_refuse rfl rfl rfl (by decide +kernel) ⟨Nat.le_of_ble_eq_true rfl, Nat.le_of_ble_eq_true rfl⟩) mI_blind (mI_pre hM hK hMS hS) (va_recv hK (hM.Pa hR_4.o.1 rfl hR_4.o.2) (ci := 13) (q0 := 0) rfl rfl) rfl hl.1 rfl (Nat.le_of_ble_eq_true rfl) dX12_terms_43 ⟨Nat.le_of_ble_eq_true rfl, Nat.le_of_ble_eq_true rfl⟩ (fun r_10 hr_10 => ?_)
        subst hr_10
        refine lv_if_eq (tgt := 51) hx hb dX12_terms_46 (by decide) (fun c_11 => ?_) (fun c_11 => ?_)
        · have c_11 := bI_f c_11
          refine lv_aload_n hx hb dX12_terms_51 rfl (lv_at hl 0 rfl) ?_
          refine va_get hx hb hts hinX12 hown hK (hM.Pa hR_4.o.1 rfl hR_4.o.2) 0 rfl rfl 1 (by decide) (hk1) (fun _ h9 => h9) rfl dX12_terms_52 ?_
          refine lv_iload_n hx hb dX12_terms_55 rfl (lv_at hl 1 rfl) ?_
          obtain ⟨huz_12, hnz_12, mz_12, bz_12, hCz_12⟩ := isL.hd hR_4.l1
          refine zcVr (x := .ref (ma 9 i)) (As := [.int (nI i)]) (rest := []) ⟨hx, hb, hml, hown, hts⟩ (c_get l D ty A u C_2 ma t0 mi 1 0 n1 (ma 9) hR_4.l1 i (by omega)) (cwV 1 hts gX12_terms_Jx4a65c_get_915e3 rfl rfl rfl (by decide +kernel) ⟨Nat.le_of_ble_eq_true rfl, Nat.le_of_ble_eq_true rfl⟩) mI_blind (mI_pre hM hK hMS hS) (va_recv hK (hM.Pa huz_12 rfl hCz_12) (ci := 0) (q0 := 0) rfl rfl) rfl hl.1 rfl (Nat.le_of_ble_eq_true rfl) dX12_terms_56 ⟨Nat.le_of_ble_eq_true rfl, Nat.le_of_ble_eq_true rfl⟩ ?_
          refine va_castS hx hb hown (hk2) ((hK.1 8 _ rfl).2) (va_recv hK (hM.Pa (hR_4.s9 (i := i) (by omega)).1 rfl (hR_4.s9 (i := i) (by omega)).2) (ci := 8) (q0 := 0) rfl rfl) dX12_terms_59 ?_
          refine lv_astore (lv' := [(5, .ref (ma 9 i)), (0, .ref (ma 0 0)), (1, .int (nI i)), (2, .int (nI f)), (3, .int pr), (4, .int ru)]) hx hb dX12_terms_62 hl (by decide) rfl (fun ls hl => ?_)
          refine lv_aload hx hb dX12_terms_64 (lv_at hl 0 rfl) ?_
          refine va_get hx hb hts hinX7 hown hK (hM.Pa (hR_4.s9 (i := i) (by omega)).1 rfl (hR_4.s9 (i := i) (by omega)).2) 0 rfl rfl 1 (by decide) (hk4) (fun _ h9 => h9) rfl dX12_terms_66 ?_
          refine lv_iload_n hx hb dX12_terms_69 rfl (lv_at hl 3 rfl) ?_
          refine zald hx hb hK (hM.Pa (hR_4.s10 (i := i) (by omega)).1 rfl (hR_4.s10 (i := i) (by omega)).2) 0 0 rfl rfl (i := f) (by omega) (by omega) dX12_terms_70 ?_
          refine zeq (row6_at (by omega)) ?_
          refine lv_istore (lv' := [(6, .int (g 10 (i * 6 + f))), (5, .ref (ma 9 i)), (0, .ref (ma 0 0)), (1, .int (nI i)), (2, .int (nI f)), (3, .int pr), (4, .int ru)]) hx hb dX12_terms_71 hl (by decide) rfl (fun ls hl => ?_)
          refine lv_aload hx hb dX12_terms_73 (lv_at hl 1 rfl) ?_
          refine va_get hx hb hts hinX7 hown hK (hM.Pa (hR_4.s9 (i := i) (by omega)).1 rfl (hR_4.s9 (i := i) (by omega)).2) 0 rfl rfl 1 (by decide) (hk4) (fun _ h9 => h9) rfl dX12_terms_75 ?_
          refine lv_iload_n hx hb dX12_terms_78 rfl (lv_at hl 4 rfl) ?_
          refine lv_iload_n hx hb dX12_terms_79 rfl (lv_at hl 5 rfl) ?_
          refine miast hx hb hK hM hS (hR_4.s10 (i := i) (by omega)).1 rfl 0 (hR_4.s10 (i := i) (by omega)).2 rfl (i := f) (by omega) (by omega) dX12_terms_80 (fun H locs hM hS ho => ?_)
          obtain ⟨C_14, eC_14⟩ : ∃ z, z = up2 C_2 10 i (eI (ty 0) 6 (upd (row6 (g 10) (i * 6)) f pr)) := ⟨_, rfl⟩
          have hM : mW D A u C_14 ma H := by rw [eC_14]; exact hM
          have hC_15 : C_14 9 i = eO 8 [.int (g 7 i), .ref (ma 10 i), .ref (ma 11 i), .ref (ma 12 i), .ref (ma 14 i)] := by rw [eC_14, up2_n _ _ (fun z => by omega)]; exact (hR_4.s9 (i := i) (by omega)).2
          have hC_16 : C_14 11 i = eI (ty 0) 6 (row6 (g 11) (i * 6)) := by rw [eC_14, up2_n _ _ (fun z => by omega)]; exact (hR_4.s11 (i := i) (by omega)).2
          have hC_17 : C_14 10 i = eI (ty 0) 6 (upd (row6 (g 10) (i * 6)) f pr) := by rw [eC_14]; exact up2_s _ _ _ _
          refine lv_aload hx hb dX12_terms_81 (lv_at hl 1 rfl) ?_
          refine va_get hx hb hts hinX7 hown hK (hM.Pa (hR_4.s9 (i := i) (by omega)).1 rfl hC_15) 0 rfl rfl 2 (by decide) (hk5) (fun _ h9 => h9) rfl dX12_terms_83 ?_
          refine lv_iload_n hx hb dX12_terms_86 rfl (lv_at hl 4 rfl) ?_
          refine lv_iload hx hb dX12_terms_87 (lv_at hl 6 rfl) ?_
          refine miast hx hb hK hM hS (hR_4.s11 (i := i) (by omega)).1 rfl 0 hC_16 rfl (i := f) (by omega) (by omega) dX12_terms_89 (fun H locs hM hS ho => ?_)
          obtain ⟨C_18, eC_18⟩ : ∃ z, z = up2 C_14 11 i (eI (ty 0) 6 (upd (row6 (g 11) (i * 6)) f ru)) := ⟨_, rfl⟩
          have hM : mW D A u C_18 ma H := by rw [eC_18]; exact hM
          have hC_19 : C_18 9 i = eO 8 [.int (g 7 i), .ref (ma 10 i), .ref (ma 11 i), .ref (ma 12 i), .ref (ma 14 i)] := by rw [eC_18, up2_n _ _ (fun z => by omega)]; exact hC_15
          have hC_20 : C_18 11 i = eI (ty 0) 6 (upd (row6 (g 11) (i * 6)) f ru) := by rw [eC_18]; exact up2_s _ _ _ _
          have hC_21 : C_18 10 i = eI (ty 0) 6 (upd (row6 (g 10) (i * 6)) f pr) := by rw [eC_18, up2_n _ _ (fun z => by omega)]; exact hC_17
          have hR_22 : mR ty t0 (va_up (va_up g 10 (upd (g 10) (i * 6 + f) pr)) 11 (upd (g 11) (i * 6 + f) ru)) n1 n2 nL n4 n5 (nI 0) rep bro u C_18 ma := by rw [eC_18, eC_14]; exact mR_terms hR_4 hi (by omega) pr ru
          refine lv_iload hx hb dX12_terms_90 (lv_at hl 0 rfl) ?_
          exact W.iret (v := g 10 (i * 6 + f)) hx hb hr (fun t ht hW => ⟨⟨_, C_18, rfl, ⟨rfl, hR_22⟩, mI_pre hM hK hMS hS t ht hW⟩, hS.F ht⟩) hS.2.2 dX12_terms_92
        · have c_11 := bI_t c_11
          cases c_11
      · have c_9 := bI_f c_9
        simp only [c_5, c_7, c_9, Bool.not_true, Bool.not_false, Bool.and_true, Bool.true_and, Bool.and_false, Bool.false_and, Bool.or_true, Bool.true_or, Bool.or_false, Bool.false_or, Bool.and_self, Bool.or_self, Bool.true_eq_false, Bool.false_eq_true] at h2
set_option maxHeartbeats 600000 in
set_option maxRecDepth 100000 in
theorem m_terms_x1 (l : Launch) (D : va_G) (ty : Nat → ClassId) (A : Nat → Prop) (u : Nat → Nat → Prop) (C : Nat → Nat → va_E) (ma : Nat → Nat → Nat) (t0 mi : Nat) (g : Nat → Nat → Int32) (n1 n2 nL n4 n5 : Nat) (th : Int32) (rep bro : Nat → Nat → Int32) (hR : mR ty t0 g n1 n2 nL n4 n5 th rep bro u C ma) (x f pr ru : Int32) (h1 : bFld g n1 x f = true) : Met l yX12_terms wsX12_terms ({ frames := 7, cells := 0, slots := 0, locals := 192 }) (va_Pc [.ref (ma 0 0), .int x, .int f, .int pr, .int ru] (mI D ty A u C ma t0 mi)) (va_Qi (fun (v9 : Int32) (C2 : Nat → Nat → va_E) => v9 = nI 0 ∧ mR ty t0 g n1 n2 nL n4 n5 (nI 1) rep bro u C2 ma) (fun C2 t => mI D ty A u C2 ma t0 mi t) A) 0 0 A := by
  refine zMet (cc := cX12_terms) (maxL := 7) (ret := (some .int)) (by decide) rfl (Nat.le_of_ble_eq_true rfl) ?_
  intro p e s m below meth c hx hb hr hts hown hlocks hml hB ls hl
  obtain ⟨hM, hK, hMS⟩ := hB
  have hS : va_S A s.heap s.heap [] := va_S.rf
  have hbn := hR.I.b1
  have hbs := hR.I.b2
  have hbl := hR.I.bL
  have hbc := hR.I.b4
  have hbr := hR.I.b5
  have hl : lv_has ls 7 [(0, .ref (ma 0 0)), (1, .int x), (2, .int f), (3, .int pr), (4, .int ru)] := hl
  refine lv_aload_n hx hb dX12_terms_0 rfl (lv_at hl 0 rfl) ?_
  refine lv_aload_n hx hb dX12_terms_1 rfl (lv_at hl 0 rfl) ?_
  refine lv_iload_n hx hb dX12_terms_2 rfl (lv_at hl 1 rfl) ?_
  refine lv_iload_n hx hb dX12_terms_3 rfl (lv_at hl 2 rfl) ?_
  refine zcVi (As := [.int x, .int f]) (rest := [.ref (ma 0 0)]) ⟨hx, hb, hml, hown, hts⟩ (c_X12_isNoField l D ty A u C ma t0 mi g n1 n2 nL n4 n5 th rep bro hR x f) (cwV 2 hts gX12_terms_X12_isNoField rfl rfl rfl (by decide +kernel) ⟨Nat.le_of_ble_eq_true rfl, Nat.le_of_ble_eq_true rfl⟩) mI_blind (mI_pre hM hK hMS hS) (va_recv hK (hM.Pa hR.o.1 rfl hR.o.2) (ci := 13) (q0 := 0) rfl rfl) rfl hl.1 rfl (Nat.le_of_ble_eq_true rfl) dX12_terms_4 ⟨Nat.le_of_ble_eq_true rfl, Nat.le_of_ble_eq_true rfl⟩ (fun r_1 hr_1 => ?_)
  subst hr_1
  refine zeq (show bI _ = bI true from by rw [h1]) ?_
  refine lv_iconst (v := nI 1) hx hb dX12_terms_7 (by decide) ?_
  refine va_calli (va_runV (As := [.int (bI true), .int (nI 1)]) (rest := []) ⟨hx, hb, hml, hown, hts⟩ (c_X12_start_t l D ty A u C ma t0 mi g n1 n2 nL n4 n5 th rep bro hR 1 (by omega) (by omega)) (cwV 2 hts gX12_terms_X12_start rfl rfl rfl (by decide +kernel) ⟨Nat.le_of_ble_eq_true rfl, Nat.le_of_ble_eq_true rfl⟩) ⟨zBl mI_blind, (va_recv hK (hM.Pa hR.o.1 rfl hR.o.2) (ci := 13) (q0 := 0) rfl rfl), fun U h1 h2 => ⟨rfl, mI_pre hM hK hMS hS U h1 h2⟩⟩ rfl rfl hl.1 rfl (lv_room (Nat.le_of_ble_eq_true rfl)) dX12_terms_8 ⟨Nat.le_of_ble_eq_true rfl, Nat.le_of_ble_eq_true rfl⟩) hS (fun _ _ h => h) (fun _ h => h) (fun r_3 C_2 t H1 locs ht hvm hw hB9 hz1 hk1 hS => ?_)
  obtain ⟨hr_3, hR_4⟩ := hw
  obtain ⟨hM, -, -⟩ := hB9
  rw [ht] at hM
  clear hk1 hz1 hvm ht
  clear t
  generalize H1 = H at hM hS ⊢
  subst hr_3
  refine lv_if_ne (tgt := 49) hx hb dX12_terms_11 (by decide) (fun c_5 => ?_) (fun c_5 => ?_)
  · have c_5 := bI_t c_5
    refine lv_iconst (v := nI 0) hx hb dX12_terms_49 (by decide) ?_
    exact W.iret (v := nI 0) hx hb hr (fun t ht hW => ⟨⟨_, C_2, rfl, ⟨rfl, hR_4⟩, mI_pre hM hK hMS hS t ht hW⟩, hS.F ht⟩) hS.2.2 dX12_terms_50
  · have c_5 := bI_f c_5
    cases c_5
set_option maxHeartbeats 600000 in
set_option maxRecDepth 100000 in
theorem m_terms_x2 (l : Launch) (D : va_G) (ty : Nat → ClassId) (A : Nat → Prop) (u : Nat → Nat → Prop) (C : Nat → Nat → va_E) (ma : Nat → Nat → Nat) (t0 mi : Nat) (g : Nat → Nat → Int32) (n1 n2 nL n4 n5 : Nat) (th : Int32) (rep bro : Nat → Nat → Int32) (hR : mR ty t0 g n1 n2 nL n4 n5 th rep bro u C ma) (x f pr ru : Int32) (h1 : bFld g n1 x f = false) (h2 : (!inB pr (nI 1) (nI 99) || !inB ru (nI 0) (nI 1000)) = true) : Met l yX12_terms wsX12_terms ({ frames := 7, cells := 0, slots := 0, locals := 192 }) (va_Pc [.ref (ma 0 0), .int x, .int f, .int pr, .int ru] (mI D ty A u C ma t0 mi)) (va_Qi (fun (v9 : Int32) (C2 : Nat → Nat → va_E) => v9 = nI 0 ∧ mR ty t0 g n1 n2 nL n4 n5 (nI 2) rep bro u C2 ma) (fun C2 t => mI D ty A u C2 ma t0 mi t) A) 0 0 A := by
  refine zMet (cc := cX12_terms) (maxL := 7) (ret := (some .int)) (by decide) rfl (Nat.le_of_ble_eq_true rfl) ?_
  intro p e s m below meth c hx hb hr hts hown hlocks hml hB ls hl
  obtain ⟨hM, hK, hMS⟩ := hB
  have hS : va_S A s.heap s.heap [] := va_S.rf
  have hbn := hR.I.b1
  have hbs := hR.I.b2
  have hbl := hR.I.bL
  have hbc := hR.I.b4
  have hbr := hR.I.b5
  have hl : lv_has ls 7 [(0, .ref (ma 0 0)), (1, .int x), (2, .int f), (3, .int pr), (4, .int ru)] := hl
  refine lv_aload_n hx hb dX12_terms_0 rfl (lv_at hl 0 rfl) ?_
  refine lv_aload_n hx hb dX12_terms_1 rfl (lv_at hl 0 rfl) ?_
  refine lv_iload_n hx hb dX12_terms_2 rfl (lv_at hl 1 rfl) ?_
  refine lv_iload_n hx hb dX12_terms_3 rfl (lv_at hl 2 rfl) ?_
  refine zcVi (As := [.int x, .int f]) (rest := [.ref (ma 0 0)]) ⟨hx, hb, hml, hown, hts⟩ (c_X12_isNoField l D ty A u C ma t0 mi g n1 n2 nL n4 n5 th rep bro hR x f) (cwV 2 hts gX12_terms_X12_isNoField rfl rfl rfl (by decide +kernel) ⟨Nat.le_of_ble_eq_true rfl, Nat.le_of_ble_eq_true rfl⟩) mI_blind (mI_pre hM hK hMS hS) (va_recv hK (hM.Pa hR.o.1 rfl hR.o.2) (ci := 13) (q0 := 0) rfl rfl) rfl hl.1 rfl (Nat.le_of_ble_eq_true rfl) dX12_terms_4 ⟨Nat.le_of_ble_eq_true rfl, Nat.le_of_ble_eq_true rfl⟩ (fun r_1 hr_1 => ?_)
  subst hr_1
  refine zeq (show bI _ = bI false from by rw [h1]) ?_
  refine lv_iconst (v := nI 1) hx hb dX12_terms_7 (by decide) ?_
  refine va_calli (va_runV (As := [.int (bI false), .int (nI 1)]) (rest := []) ⟨hx, hb, hml, hown, hts⟩ (c_X12_start_f l D ty A u C ma t0 mi g n1 n2 nL n4 n5 th rep bro hR 1 (by omega) (by omega)) (cwV 2 hts gX12_terms_X12_start rfl rfl rfl (by decide +kernel) ⟨Nat.le_of_ble_eq_true rfl, Nat.le_of_ble_eq_true rfl⟩) ⟨zBl mI_blind, (va_recv hK (hM.Pa hR.o.1 rfl hR.o.2) (ci := 13) (q0 := 0) rfl rfl), fun U h1 h2 => ⟨rfl, mI_pre hM hK hMS hS U h1 h2⟩⟩ rfl rfl hl.1 rfl (lv_room (Nat.le_of_ble_eq_true rfl)) dX12_terms_8 ⟨Nat.le_of_ble_eq_true rfl, Nat.le_of_ble_eq_true rfl⟩) hS (fun _ _ h => h) (fun _ h => h) (fun r_3 C_2 t H1 locs ht hvm hw hB9 hz1 hk1 hS => ?_)
  obtain ⟨hr_3, hR_4⟩ := hw
  obtain ⟨hM, -, -⟩ := hB9
  rw [ht] at hM
  clear hk1 hz1 hvm ht
  clear t
  generalize H1 = H at hM hS ⊢
  subst hr_3
  refine lv_if_ne (tgt := 49) hx hb dX12_terms_11 (by decide) (fun c_5 => ?_) (fun c_5 => ?_)
  · have c_5 := bI_t c_5
    cases c_5
  · have c_5 := bI_f c_5
    refine lv_aload_n hx hb dX12_terms_14 rfl (lv_at hl 0 rfl) ?_
    refine lv_iload_n hx hb dX12_terms_15 rfl (lv_at hl 3 rfl) ?_
    refine lv_iconst (v := nI 1) hx hb dX12_terms_16 (by decide) ?_
    refine lv_bipush (v := nI 99) hx hb dX12_terms_17 (by decide) ?_
    refine zcSi (As := [.int pr, .int (nI 1), .int (nI 99)]) (rest := [.ref (ma 0 0)]) ⟨hx, hb, hml, hown, hts⟩ (c_X12_isIn l _ pr (nI 1) (nI 99)) (cwS 3 hts gX12_terms_X12_isIn rfl rfl rfl (by decide +kernel) ⟨Nat.le_of_ble_eq_true rfl, Nat.le_of_ble_eq_true rfl⟩) (B := fun _ => True) (fun _ _ _ _ _ => trivial) (fun _ _ _ => trivial) rfl hl.1 rfl (Nat.le_of_ble_eq_true rfl) dX12_terms_19 ⟨Nat.le_of_ble_eq_true rfl, Nat.le_of_ble_eq_true rfl⟩ (fun r_6 hr_6 => ?_)
    subst hr_6
    refine lv_if_eq (tgt := 37) hx hb dX12_terms_22 (by decide) (fun c_7 => ?_) (fun c_7 => ?_)
    · have c_7 := bI_f c_7
      refine lv_iconst (v := nI 1) hx hb dX12_terms_37 (by decide) ?_
      refine zeq (show nI 1 = bI true from rfl) ?_
      refine lv_goto (tgt := 42) hx hb dX12_terms_38 (by decide) ?_
      refine lv_iconst (v := nI 2) hx hb dX12_terms_42 (by decide) ?_
      refine va_calli (va_runV (As := [.int (bI true), .int (nI 2)]) (rest := []) ⟨hx, hb, hml, hown, hts⟩ (c_X12_refuse_t l D ty A u C_2 ma t0 mi g n1 n2 nL n4 n5 (nI 0) rep bro hR_4 rfl 2 (by omega) (by omega)) (cwV 2 hts gX12_terms_X12_refuse rfl rfl rfl (by decide +kernel) ⟨Nat.le_of_ble_eq_true rfl, Nat.le_of_ble_eq_true rfl⟩) ⟨zBl mI_blind, (va_recv hK (hM.Pa hR_4.o.1 rfl hR_4.o.2) (ci := 13) (q0 := 0) rfl rfl), fun U h1 h2 => ⟨rfl, mI_pre hM hK hMS hS U h1 h2⟩⟩ rfl rfl hl.1 rfl (lv_room (Nat.le_of_ble_eq_true rfl)) dX12_terms_43 ⟨Nat.le_of_ble_eq_true rfl, Nat.le_of_ble_eq_true rfl⟩) hS (fun _ _ h => h) (fun _ h => h) (fun r_9 C_8 t H1 locs ht hvm hw hB9 hz1 hk1 hS => ?_)
      obtain ⟨hr_9, hR_10⟩ := hw
      obtain ⟨hM, -, -⟩ := hB9
      rw [ht] at hM
      clear hk1 hz1 hvm ht
      clear t
      generalize H1 = H at hM hS ⊢
      subst hr_9
      refine lv_if_eq (tgt := 51) hx hb dX12_terms_46 (by decide) (fun c_11 => ?_) (fun c_11 => ?_)
      · have c_11 := bI_f c_11
        cases c_11
      · have c_11 := bI_t c_11
        refine lv_iconst (v := nI 0) hx hb dX12_terms_49 (by decide) ?_
        exact W.iret (v := nI 0) hx hb hr (fun t ht hW => ⟨⟨_, C_8, rfl, ⟨rfl, hR_10⟩, mI_pre hM hK hMS hS t ht hW⟩, hS.F ht⟩) hS.2.2 dX12_terms_50
    · have c_7 := bI_t c_7
      refine lv_iload hx hb dX12_terms_25 (lv_at hl 4 rfl) ?_
      refine lv_iconst (v := nI 0) hx hb dX12_terms_27 (by decide) ?_
      refine lv_sipush (v := nI 1000) hx hb dX12_terms_28 (by decide) ?_
      refine zcSi (As := [.int ru, .int (nI 0), .int (nI 1000)]) (rest := [.ref (ma 0 0)]) ⟨hx, hb, hml, hown, hts⟩ (c_X12_isIn l _ ru (nI 0) (nI 1000)) (cwS 3 hts gX12_terms_X12_isIn rfl rfl rfl (by decide +kernel) ⟨Nat.le_of_ble_eq_true rfl, Nat.le_of_ble_eq_true rfl⟩) (B := fun _ => True) (fun _ _ _ _ _ => trivial) (fun _ _ _ => trivial) rfl hl.1 rfl (Nat.le_of_ble_eq_true rfl) dX12_terms_31 ⟨Nat.le_of_ble_eq_true rfl, Nat.le_of_ble_eq_true rfl⟩ (fun r_12 hr_12 => ?_)
      subst hr_12
      refine lv_if_ne (tgt := 41) hx hb dX12_terms_34 (by decide) (fun c_13 => ?_) (fun c_13 => ?_)
      · have c_13 := bI_t c_13
        simp only [c_5, c_7, c_13, Bool.not_true, Bool.not_false, Bool.and_true, Bool.true_and, Bool.and_false, Bool.false_and, Bool.or_true, Bool.true_or, Bool.or_false, Bool.false_or, Bool.and_self, Bool.or_self, Bool.true_eq_false, Bool.false_eq_true] at h2
      · have c_13 := bI_f c_13
        refine lv_iconst (v := nI 1) hx hb dX12_terms_37 (by decide) ?_
        refine zeq (show nI 1 = bI true from rfl) ?_
        refine lv_goto (tgt := 42) hx hb dX12_terms_38 (by decide) ?_
        refine lv_iconst (v := nI 2) hx hb dX12_terms_42 (by decide) ?_
        refine va_calli (va_runV (As := [.int (bI true), .int (nI 2)]) (rest := []) ⟨hx, hb, hml, hown, hts⟩ (c_X12_refuse_t l D ty A u C_2 ma t0 mi g n1 n2 nL n4 n5 (nI 0) rep bro hR_4 rfl 2 (by omega) (by omega)) (cwV 2 hts gX12_terms_X12_refuse rfl rfl rfl (by decide +kernel) ⟨Nat.le_of_ble_eq_true rfl, Nat.le_of_ble_eq_true rfl⟩) ⟨zBl mI_blind, (va_recv hK (hM.Pa hR_4.o.1 rfl hR_4.o.2) (ci := 13) (q0 := 0) rfl rfl), fun U h1 h2 => ⟨rfl, mI_pre hM hK hMS hS U h1 h2⟩⟩ rfl rfl hl.1 rfl (lv_room (Nat.le_of_ble_eq_true rfl)) dX12_terms_43 ⟨Nat.le_of_ble_eq_true rfl, Nat.le_of_ble_eq_true rfl⟩) hS (fun _ _ h => h) (fun _ h => h) (fun r_15 C_14 t H1 locs ht hvm hw hB9 hz1 hk1 hS => ?_)
        obtain ⟨hr_15, hR_16⟩ := hw
        obtain ⟨hM, -, -⟩ := hB9
        rw [ht] at hM
        clear hk1 hz1 hvm ht
        clear t
        generalize H1 = H at hM hS ⊢
        subst hr_15
        refine lv_if_eq (tgt := 51) hx hb dX12_terms_46 (by decide) (fun c_17 => ?_) (fun c_17 => ?_)
        · have c_17 := bI_f c_17
          cases c_17
        · have c_17 := bI_t c_17
          refine lv_iconst (v := nI 0) hx hb dX12_terms_49 (by decide) ?_
          exact W.iret (v := nI 0) hx hb hr (fun t ht hW => ⟨⟨_, C_14, rfl, ⟨rfl, hR_16⟩, mI_pre hM hK hMS hS t ht hW⟩, hS.F ht⟩) hS.2.2 dX12_terms_50
set_option maxHeartbeats 600000 in
set_option maxRecDepth 100000 in
theorem m_end (l : Launch) (D : va_G) (ty : Nat → ClassId) (A : Nat → Prop) (u : Nat → Nat → Prop) (C : Nat → Nat → va_E) (ma : Nat → Nat → Nat) (t0 mi : Nat) (g : Nat → Nat → Int32) (n1 n2 nL n4 n5 : Nat) (th : Int32) (rep bro : Nat → Nat → Int32) (hR : mR ty t0 g n1 n2 nL n4 n5 th rep bro u C ma) (c0 : Nat) (hc0 : c0 < n4) : Met l yX12_end wsX12_end ({ frames := 8, cells := 0, slots := 0, locals := 213 }) (va_Pc [.ref (ma 0 0), .int (nI c0)] (mI D ty A u C ma t0 mi)) (va_Qi (fun (v9 : Int32) (C2 : Nat → Nat → va_E) => v9 = zmax (nI 0) (g 28 c0 - zmax (g 27 c0 - nI 1) (g 0 0)) ∧ mR ty t0 (va_up g 28 (upd (g 28) c0 (zmin (g 28 c0) (g 0 0)))) n1 n2 nL n4 n5 (nI 0) rep bro u C2 ma) (fun C2 t => mI D ty A u C2 ma t0 mi t) A) 0 0 A := by
  refine zMet (cc := cX12_end) (maxL := 4) (ret := (some .int)) (by decide) rfl (Nat.le_of_ble_eq_true rfl) ?_
  intro p e s m below meth c hx hb hr hts hown hlocks hml hB ls hl
  obtain ⟨hM, hK, hMS⟩ := hB
  have hS : va_S A s.heap s.heap [] := va_S.rf
  have hbn := hR.I.b1
  have hbs := hR.I.b2
  have hbl := hR.I.bL
  have hbc := hR.I.b4
  have hbr := hR.I.b5
  have h1 : (!inB (nI c0) (nI 0) (nI n4 - nI 1)) = false := by rw [inB_c (by omega) hc0]; rfl
  have hl : lv_has ls 4 [(0, .ref (ma 0 0)), (1, .int (nI c0))] := hl
  have hinX12 : ∀ w ∈ wsX120, w ∈ wsX12_end := by decide +kernel
  have hk1 := hts (.fieldLink RX12 19 "DatamarketDeskModel" "contracts" "Ljava/util/ArrayList;") (by decide +kernel)
  have hk2 := hts (.classLink RX12 196 "DatamarketDeskModel$Contract") (by decide +kernel)
  have hinX6 : ∀ w ∈ wsX60, w ∈ wsX12_end := by decide +kernel
  have hk4 := hts (.fieldLink RX12 204 "DatamarketDeskModel$Contract" "to" "I") (by decide +kernel)
  have hk5 := hts (.fieldLink RX12 207 "DatamarketDeskModel$Contract" "from" "I") (by decide +kernel)
  have hk6 := hts (.fieldLink RX12 193 "DatamarketDeskModel" "today" "I") (by decide +kernel)
  refine lv_aload_n hx hb dX12_end_0 rfl (lv_at hl 0 rfl) ?_
  refine lv_iload_n hx hb dX12_end_1 rfl (lv_at hl 1 rfl) ?_
  refine va_calli (va_runV (As := [.int (nI c0)]) (rest := []) ⟨hx, hb, hml, hown, hts⟩ (c_X12_isNoContract_f l D ty A u C ma t0 mi g n1 n2 nL n4 n5 th rep bro hR (nI c0) h1) (cwV 1 hts gX12_end_X12_isNoContract rfl rfl rfl (by decide +kernel) ⟨Nat.le_of_ble_eq_true rfl, Nat.le_of_ble_eq_true rfl⟩) ⟨zBl mI_blind, (va_recv hK (hM.Pa hR.o.1 rfl hR.o.2) (ci := 13) (q0 := 0) rfl rfl), fun U h1 h2 => ⟨rfl, mI_pre hM hK hMS hS U h1 h2⟩⟩ rfl rfl hl.1 rfl (lv_room (Nat.le_of_ble_eq_true rfl)) dX12_end_2 ⟨Nat.le_of_ble_eq_true rfl, Nat.le_of_ble_eq_true rfl⟩) hS (fun _ _ h => h) (fun _ h => h) (fun r_2 C_1 t H1 locs ht hvm hw hB9 hz1 hk1 hS => ?_)
  obtain ⟨hr_2, hR_3⟩ := hw
  obtain ⟨hM, -, -⟩ := hB9
  rw [ht] at hM
  clear hk1 hz1 hvm ht
  clear t
  generalize H1 = H at hM hS ⊢
  subst hr_2
  refine lv_if_eq (tgt := 10) hx hb dX12_end_5 (by decide) (fun c_4 => ?_) (fun c_4 => ?_)
  · have c_4 := bI_f c_4
    refine lv_aload_n hx hb dX12_end_10 rfl (lv_at hl 0 rfl) ?_
    refine va_get hx hb hts hinX12 hown hK (hM.Pa hR_3.o.1 rfl hR_3.o.2) 0 rfl rfl 3 (by decide) (hk1) (fun _ h9 => h9) rfl dX12_end_11 ?_
    refine lv_iload_n hx hb dX12_end_14 rfl (lv_at hl 1 rfl) ?_
    obtain ⟨huz_5, hnz_5, mz_5, bz_5, hCz_5⟩ := isL.hd hR_3.l5
    refine zcVr (x := .ref (ma 25 c0)) (As := [.int (nI c0)]) (rest := []) ⟨hx, hb, hml, hown, hts⟩ (c_get l D ty A u C_1 ma t0 mi 5 0 n4 (ma 25) hR_3.l5 c0 (by omega)) (cwV 1 hts gX12_end_Jx4a65c_get_915e3 rfl rfl rfl (by decide +kernel) ⟨Nat.le_of_ble_eq_true rfl, Nat.le_of_ble_eq_true rfl⟩) mI_blind (mI_pre hM hK hMS hS) (va_recv hK (hM.Pa huz_5 rfl hCz_5) (ci := 0) (q0 := 0) rfl rfl) rfl hl.1 rfl (Nat.le_of_ble_eq_true rfl) dX12_end_15 ⟨Nat.le_of_ble_eq_true rfl, Nat.le_of_ble_eq_true rfl⟩ ?_
    refine va_castS hx hb hown (hk2) ((hK.1 7 _ rfl).2) (va_recv hK (hM.Pa (hR_3.c25 (c := c0) (by omega)).1 rfl (hR_3.c25 (c := c0) (by omega)).2) (ci := 7) (q0 := 0) rfl rfl) dX12_end_18 ?_
    refine lv_astore_n (lv' := [(2, .ref (ma 25 c0)), (0, .ref (ma 0 0)), (1, .int (nI c0))]) hx hb dX12_end_21 rfl hl (by decide) rfl (fun ls hl => ?_)
    refine lv_iconst (v := nI 0) hx hb dX12_end_22 (by decide) ?_
    refine lv_aload_n hx hb dX12_end_23 rfl (lv_at hl 0 rfl) ?_
    refine va_get hx hb hts hinX6 hown hK (hM.Pa (hR_3.c25 (c := c0) (by omega)).1 rfl (hR_3.c25 (c := c0) (by omega)).2) 0 rfl rfl 5 (by decide) (hk4) (fun _ h9 => h9) rfl dX12_end_24 ?_
    refine lv_aload_n hx hb dX12_end_27 rfl (lv_at hl 0 rfl) ?_
    refine va_get hx hb hts hinX6 hown hK (hM.Pa (hR_3.c25 (c := c0) (by omega)).1 rfl (hR_3.c25 (c := c0) (by omega)).2) 0 rfl rfl 4 (by decide) (hk5) (fun _ h9 => h9) rfl dX12_end_28 ?_
    refine lv_iconst (v := nI 1) hx hb dX12_end_31 (by decide) ?_
    refine lv_isub hx hb dX12_end_32 ?_
    refine lv_aload_n hx hb dX12_end_33 rfl (lv_at hl 1 rfl) ?_
    refine va_get hx hb hts hinX12 hown hK (hM.Pa hR_3.o.1 rfl hR_3.o.2) 0 rfl rfl 5 (by decide) (hk6) (fun _ h9 => h9) rfl dX12_end_34 ?_
    refine va_mmax hx hb (hml.trans hl.1.symm) hown (hts (.methodLink RX12 81 Lib.Math.max.name) (by decide +kernel)) (hts (.static Lib.Math.max.name) (by decide +kernel)) (hts (.initialized "java/lang/Math") (by decide +kernel)) (hts (.code Lib.Math.max.name Lib.Math.max.code 2 (some .int)) (by decide +kernel)) (Nat.le_of_ble_eq_true rfl) (Nat.le_of_ble_eq_true rfl) (Nat.le_of_ble_eq_true rfl) (Nat.le_of_ble_eq_true rfl) dX12_end_37 ?_
    refine zeq (zmax_def ((g 27 c0) - (nI 1)) (g 0 0)).symm ?_
    refine lv_isub hx hb dX12_end_40 ?_
    refine va_mmax hx hb (hml.trans hl.1.symm) hown (hts (.methodLink RX12 81 Lib.Math.max.name) (by decide +kernel)) (hts (.static Lib.Math.max.name) (by decide +kernel)) (hts (.initialized "java/lang/Math") (by decide +kernel)) (hts (.code Lib.Math.max.name Lib.Math.max.code 2 (some .int)) (by decide +kernel)) (Nat.le_of_ble_eq_true rfl) (Nat.le_of_ble_eq_true rfl) (Nat.le_of_ble_eq_true rfl) (Nat.le_of_ble_eq_true rfl) dX12_end_41 ?_
    refine zeq (zmax_def (nI 0) ((g 28 c0) - (zmax ((g 27 c0) - (nI 1)) (g 0 0)))).symm ?_
    refine lv_istore_n (lv' := [(3, .int (zmax (nI 0) ((g 28 c0) - (zmax ((g 27 c0) - (nI 1)) (g 0 0))))), (2, .ref (ma 25 c0)), (0, .ref (ma 0 0)), (1, .int (nI c0))]) hx hb dX12_end_44 rfl hl (by decide) rfl (fun ls hl => ?_)
    refine lv_aload_n hx hb dX12_end_45 rfl (lv_at hl 1 rfl) ?_
    refine lv_aload_n hx hb dX12_end_46 rfl (lv_at hl 1 rfl) ?_
    refine va_get hx hb hts hinX6 hown hK (hM.Pa (hR_3.c25 (c := c0) (by omega)).1 rfl (hR_3.c25 (c := c0) (by omega)).2) 0 rfl rfl 5 (by decide) (hk4) (fun _ h9 => h9) rfl dX12_end_47 ?_
    refine lv_aload_n hx hb dX12_end_50 rfl (lv_at hl 2 rfl) ?_
    refine va_get hx hb hts hinX12 hown hK (hM.Pa hR_3.o.1 rfl hR_3.o.2) 0 rfl rfl 5 (by decide) (hk6) (fun _ h9 => h9) rfl dX12_end_51 ?_
    refine va_mmin hx hb (hml.trans hl.1.symm) hown (hts (.methodLink RX12 208 Lib.Math.min.name) (by decide +kernel)) (hts (.static Lib.Math.min.name) (by decide +kernel)) (hts (.initialized "java/lang/Math") (by decide +kernel)) (hts (.code Lib.Math.min.name Lib.Math.min.code 2 (some .int)) (by decide +kernel)) (Nat.le_of_ble_eq_true rfl) (Nat.le_of_ble_eq_true rfl) (Nat.le_of_ble_eq_true rfl) (Nat.le_of_ble_eq_true rfl) dX12_end_54 ?_
    refine zeq (zmin_def (g 28 c0) (g 0 0)).symm ?_
    refine mput (v := .int (zmin (g 28 c0) (g 0 0))) (ty := .int) hx hb hts hinX6 tyX6 tyX6_ok nmX6 hown hK hM hS (hR_3.c25 (c := c0) (by omega)).1 rfl (hR_3.c25 (c := c0) (by omega)).2 rfl 5 (by decide) (hk4) (fun _ h9 => h9) rfl (by decide +kernel) rfl rfl (Nat.le_of_ble_eq_true rfl) dX12_end_57 (fun H locs hM hS ho => ?_)
    obtain ⟨C_7, eC_7⟩ : ∃ z, z = up2 C_1 25 c0 (eO 7 [.int (g 23 c0), .int (g 24 c0), .int (g 25 c0), .int (g 26 c0), .int (g 27 c0), .int (zmin (g 28 c0) (g 0 0))]) := ⟨_, rfl⟩
    have hM : mW D A u C_7 ma H := by rw [eC_7]; exact hM
    have hC_8 : C_7 25 c0 = eO 7 [.int (g 23 c0), .int (g 24 c0), .int (g 25 c0), .int (g 26 c0), .int (g 27 c0), .int (zmin (g 28 c0) (g 0 0))] := by rw [eC_7]; exact up2_s _ _ _ _
    have hR_9 : mR ty t0 (va_up g 28 (upd (g 28) c0 (zmin (g 28 c0) (g 0 0)))) n1 n2 nL n4 n5 (nI 0) rep bro u C_7 ma := by rw [eC_7]; exact mR_end hR_3 hc0 _
    refine lv_iload_n hx hb dX12_end_60 rfl (lv_at hl 0 rfl) ?_
    exact W.iret (v := zmax (nI 0) ((g 28 c0) - (zmax ((g 27 c0) - (nI 1)) (g 0 0)))) hx hb hr (fun t ht hW => ⟨⟨_, C_7, rfl, ⟨rfl, hR_9⟩, mI_pre hM hK hMS hS t ht hW⟩, hS.F ht⟩) hS.2.2 dX12_end_61
  · have c_4 := bI_t c_4
    cases c_4
set_option maxHeartbeats 600000 in
set_option maxRecDepth 100000 in
theorem m_end_x1 (l : Launch) (D : va_G) (ty : Nat → ClassId) (A : Nat → Prop) (u : Nat → Nat → Prop) (C : Nat → Nat → va_E) (ma : Nat → Nat → Nat) (t0 mi : Nat) (g : Nat → Nat → Int32) (n1 n2 nL n4 n5 : Nat) (th : Int32) (rep bro : Nat → Nat → Int32) (hR : mR ty t0 g n1 n2 nL n4 n5 th rep bro u C ma) (y : Int32) (h1 : (!inB y (nI 0) (nI n4 - nI 1)) = true) : Met l yX12_end wsX12_end ({ frames := 8, cells := 0, slots := 0, locals := 213 }) (va_Pc [.ref (ma 0 0), .int y] (mI D ty A u C ma t0 mi)) (va_Qi (fun (v9 : Int32) (C2 : Nat → Nat → va_E) => v9 = nI 0 ∧ mR ty t0 g n1 n2 nL n4 n5 (nI 1) rep bro u C2 ma) (fun C2 t => mI D ty A u C2 ma t0 mi t) A) 0 0 A := by
  refine zMet (cc := cX12_end) (maxL := 4) (ret := (some .int)) (by decide) rfl (Nat.le_of_ble_eq_true rfl) ?_
  intro p e s m below meth c hx hb hr hts hown hlocks hml hB ls hl
  obtain ⟨hM, hK, hMS⟩ := hB
  have hS : va_S A s.heap s.heap [] := va_S.rf
  have hbn := hR.I.b1
  have hbs := hR.I.b2
  have hbl := hR.I.bL
  have hbc := hR.I.b4
  have hbr := hR.I.b5
  have hl : lv_has ls 4 [(0, .ref (ma 0 0)), (1, .int y)] := hl
  refine lv_aload_n hx hb dX12_end_0 rfl (lv_at hl 0 rfl) ?_
  refine lv_iload_n hx hb dX12_end_1 rfl (lv_at hl 1 rfl) ?_
  refine va_calli (va_runV (As := [.int y]) (rest := []) ⟨hx, hb, hml, hown, hts⟩ (c_X12_isNoContract_t l D ty A u C ma t0 mi g n1 n2 nL n4 n5 th rep bro hR y h1) (cwV 1 hts gX12_end_X12_isNoContract rfl rfl rfl (by decide +kernel) ⟨Nat.le_of_ble_eq_true rfl, Nat.le_of_ble_eq_true rfl⟩) ⟨zBl mI_blind, (va_recv hK (hM.Pa hR.o.1 rfl hR.o.2) (ci := 13) (q0 := 0) rfl rfl), fun U h1 h2 => ⟨rfl, mI_pre hM hK hMS hS U h1 h2⟩⟩ rfl rfl hl.1 rfl (lv_room (Nat.le_of_ble_eq_true rfl)) dX12_end_2 ⟨Nat.le_of_ble_eq_true rfl, Nat.le_of_ble_eq_true rfl⟩) hS (fun _ _ h => h) (fun _ h => h) (fun r_2 C_1 t H1 locs ht hvm hw hB9 hz1 hk1 hS => ?_)
  obtain ⟨hr_2, hR_3⟩ := hw
  obtain ⟨hM, -, -⟩ := hB9
  rw [ht] at hM
  clear hk1 hz1 hvm ht
  clear t
  generalize H1 = H at hM hS ⊢
  subst hr_2
  refine lv_if_eq (tgt := 10) hx hb dX12_end_5 (by decide) (fun c_4 => ?_) (fun c_4 => ?_)
  · have c_4 := bI_f c_4
    cases c_4
  · have c_4 := bI_t c_4
    refine lv_iconst (v := nI 0) hx hb dX12_end_8 (by decide) ?_
    exact W.iret (v := nI 0) hx hb hr (fun t ht hW => ⟨⟨_, C_1, rfl, ⟨rfl, hR_3⟩, mI_pre hM hK hMS hS t ht hW⟩, hS.F ht⟩) hS.2.2 dX12_end_9
set_option maxHeartbeats 600000 in
set_option maxRecDepth 100000 in
theorem m_pass (l : Launch) (D : va_G) (ty : Nat → ClassId) (A : Nat → Prop) (u : Nat → Nat → Prop) (C : Nat → Nat → va_E) (ma : Nat → Nat → Nat) (t0 mi : Nat) (g : Nat → Nat → Int32) (n1 n2 nL n4 n5 : Nat) (th : Int32) (rep bro : Nat → Nat → Int32) (hR : mR ty t0 g n1 n2 nL n4 n5 th rep bro u C ma) (d : Int32) (hd1 : ¬ d < nI 1) (hd2 : ¬ nI 30 < d) (hd3 : ¬ nI 359 < g 0 0 + d) (hx360 : nb (g 0 0 + d) 360) : Met l yX12_pass wsX12_pass ({ frames := 7, cells := 0, slots := 0, locals := 192 }) (va_Pc [.ref (ma 0 0), .int d] (mI D ty A u C ma t0 mi)) (va_Qi (fun (v9 : Int32) (C2 : Nat → Nat → va_E) => v9 = g 0 0 + d ∧ mR ty t0 (va_up g 0 (upd (g 0) 0 (g 0 0 + d))) n1 n2 nL n4 n5 (nI 0) rep bro u C2 ma) (fun C2 t => mI D ty A u C2 ma t0 mi t) A) 0 0 A := by
  refine zMet (cc := cX12_pass) (maxL := 2) (ret := (some .int)) (by decide) rfl (Nat.le_of_ble_eq_true rfl) ?_
  intro p e s m below meth c hx hb hr hts hown hlocks hml hB ls hl
  obtain ⟨hM, hK, hMS⟩ := hB
  have hS : va_S A s.heap s.heap [] := va_S.rf
  have hbn := hR.I.b1
  have hbs := hR.I.b2
  have hbl := hR.I.bL
  have hbc := hR.I.b4
  have hbr := hR.I.b5
  have h1 : (!inB d (nI 1) (nI 30)) = false := by rw [inB_r hd1 hd2]; rfl
  have h2 : decide (nI 359 < g 0 0 + d) = false := decide_eq_false hd3
  have hl : lv_has ls 2 [(0, .ref (ma 0 0)), (1, .int d)] := hl
  have hinX12 : ∀ w ∈ wsX120, w ∈ wsX12_pass := by decide +kernel
  have hk1 := hts (.fieldLink RX12 193 "DatamarketDeskModel" "today" "I") (by decide +kernel)
  refine lv_aload_n hx hb dX12_pass_0 rfl (lv_at hl 0 rfl) ?_
  refine lv_iload_n hx hb dX12_pass_1 rfl (lv_at hl 1 rfl) ?_
  refine lv_iconst (v := nI 1) hx hb dX12_pass_2 (by decide) ?_
  refine lv_bipush (v := nI 30) hx hb dX12_pass_3 (by decide) ?_
  refine zcSi (As := [.int d, .int (nI 1), .int (nI 30)]) (rest := [.ref (ma 0 0)]) ⟨hx, hb, hml, hown, hts⟩ (c_X12_isIn l _ d (nI 1) (nI 30)) (cwS 3 hts gX12_pass_X12_isIn rfl rfl rfl (by decide +kernel) ⟨Nat.le_of_ble_eq_true rfl, Nat.le_of_ble_eq_true rfl⟩) (B := fun _ => True) (fun _ _ _ _ _ => trivial) (fun _ _ _ => trivial) rfl hl.1 rfl (Nat.le_of_ble_eq_true rfl) dX12_pass_5 ⟨Nat.le_of_ble_eq_true rfl, Nat.le_of_ble_eq_true rfl⟩ (fun r_1 hr_1 => ?_)
  subst hr_1
  refine lv_if_ne (tgt := 15) hx hb dX12_pass_8 (by decide) (fun c_2 => ?_) (fun c_2 => ?_)
  · have c_2 := bI_t c_2
    refine lv_iconst (v := nI 0) hx hb dX12_pass_15 (by decide) ?_
    refine zeq (show nI 0 = bI false from rfl) ?_
    refine lv_iconst (v := nI 1) hx hb dX12_pass_16 (by decide) ?_
    refine va_calli (va_runV (As := [.int (bI false), .int (nI 1)]) (rest := []) ⟨hx, hb, hml, hown, hts⟩ (c_X12_start_f l D ty A u C ma t0 mi g n1 n2 nL n4 n5 th rep bro hR 1 (by omega) (by omega)) (cwV 2 hts gX12_pass_X12_start rfl rfl rfl (by decide +kernel) ⟨Nat.le_of_ble_eq_true rfl, Nat.le_of_ble_eq_true rfl⟩) ⟨zBl mI_blind, (va_recv hK (hM.Pa hR.o.1 rfl hR.o.2) (ci := 13) (q0 := 0) rfl rfl), fun U h1 h2 => ⟨rfl, mI_pre hM hK hMS hS U h1 h2⟩⟩ rfl rfl hl.1 rfl (lv_room (Nat.le_of_ble_eq_true rfl)) dX12_pass_17 ⟨Nat.le_of_ble_eq_true rfl, Nat.le_of_ble_eq_true rfl⟩) hS (fun _ _ h => h) (fun _ h => h) (fun r_4 C_3 t H1 locs ht hvm hw hB9 hz1 hk1 hS => ?_)
    obtain ⟨hr_4, hR_5⟩ := hw
    obtain ⟨hM, -, -⟩ := hB9
    rw [ht] at hM
    clear hk1 hz1 hvm ht
    clear t
    generalize H1 = H at hM hS ⊢
    subst hr_4
    refine lv_if_ne (tgt := 48) hx hb dX12_pass_20 (by decide) (fun c_6 => ?_) (fun c_6 => ?_)
    · have c_6 := bI_t c_6
      cases c_6
    · have c_6 := bI_f c_6
      refine lv_aload_n hx hb dX12_pass_23 rfl (lv_at hl 0 rfl) ?_
      refine lv_aload_n hx hb dX12_pass_24 rfl (lv_at hl 0 rfl) ?_
      refine va_get hx hb hts hinX12 hown hK (hM.Pa hR_5.o.1 rfl hR_5.o.2) 0 rfl rfl 5 (by decide) (hk1) (fun _ h9 => h9) rfl dX12_pass_25 ?_
      refine lv_iload_n hx hb dX12_pass_28 rfl (lv_at hl 1 rfl) ?_
      refine lv_iadd hx hb dX12_pass_29 ?_
      refine lv_sipush (v := nI 359) hx hb dX12_pass_30 (by decide) ?_
      refine lv_icmp_le (tgt := 40) hx hb dX12_pass_33 (by decide) (fun c_7 => ?_) (fun c_7 => ?_)
      · have c_7 : ¬ nI 359 < g 0 0 + d := Int32.not_lt.mpr c_7
        refine lv_iconst (v := nI 0) hx hb dX12_pass_40 (by decide) ?_
        refine zeq (show nI 0 = bI false from rfl) ?_
        refine lv_iconst (v := nI 2) hx hb dX12_pass_41 (by decide) ?_
        refine zcVi (As := [.int (bI false), .int (nI 2)]) (rest := []) ⟨hx, hb, hml, hown, hts⟩ (c_X12_refuse_f l D ty A u C_3 ma t0 mi g n1 n2 nL n4 n5 (nI 0) rep bro hR_5 rfl (nI 2)) (cwV 2 hts gX12_pass_X12_refuse rfl rfl rfl (by decide +kernel) ⟨Nat.le_of_ble_eq_true rfl, Nat.le_of_ble_eq_true rfl⟩) mI_blind (mI_pre hM hK hMS hS) (va_recv hK (hM.Pa hR_5.o.1 rfl hR_5.o.2) (ci := 13) (q0 := 0) rfl rfl) rfl hl.1 rfl (Nat.le_of_ble_eq_true rfl) dX12_pass_42 ⟨Nat.le_of_ble_eq_true rfl, Nat.le_of_ble_eq_true rfl⟩ (fun r_8 hr_8 => ?_)
        subst hr_8
        refine lv_if_eq (tgt := 50) hx hb dX12_pass_45 (by decide) (fun c_9 => ?_) (fun c_9 => ?_)
        · have c_9 := bI_f c_9
          refine lv_aload_n hx hb dX12_pass_50 rfl (lv_at hl 0 rfl) ?_
          refine lv_dup hx hb dX12_pass_51 rfl ?_
          refine va_get hx hb hts hinX12 hown hK (hM.Pa hR_5.o.1 rfl hR_5.o.2) 0 rfl rfl 5 (by decide) (hk1) (fun _ h9 => h9) rfl dX12_pass_52 ?_
          refine lv_iload_n hx hb dX12_pass_55 rfl (lv_at hl 1 rfl) ?_
          refine lv_iadd hx hb dX12_pass_56 ?_
          refine mput (v := .int ((g 0 0) + d)) (ty := .int) hx hb hts hinX12 tyX12 tyX12_ok nmX12 hown hK hM hS hR_5.o.1 rfl hR_5.o.2 rfl 5 (by decide) (hk1) (fun _ h9 => h9) rfl (by decide +kernel) rfl rfl (Nat.le_of_ble_eq_true rfl) dX12_pass_57 (fun H locs hM hS ho => ?_)
          obtain ⟨C_10, eC_10⟩ : ∃ z, z = up2 C_3 0 0 (eO 13 [.int (nI 0), .ref (ma 1 0), .ref (ma 3 0), .ref (ma 5 0), .ref (ma 7 0), .int ((g 0 0) + d)]) := ⟨_, rfl⟩
          have hM : mW D A u C_10 ma H := by rw [eC_10]; exact hM
          have hC_11 : C_10 0 0 = eO 13 [.int (nI 0), .ref (ma 1 0), .ref (ma 3 0), .ref (ma 5 0), .ref (ma 7 0), .int ((g 0 0) + d)] := by rw [eC_10]; exact up2_s _ _ _ _
          have hR_12 : mR ty t0 (va_up g 0 (upd (g 0) 0 (g 0 0 + d))) n1 n2 nL n4 n5 (nI 0) rep bro u C_10 ma := by rw [eC_10]; exact mR_pass hR_5 hx360
          refine lv_aload_n hx hb dX12_pass_60 rfl (lv_at hl 0 rfl) ?_
          refine va_get hx hb hts hinX12 hown hK (hM.Pa hR_12.o.1 rfl hR_12.o.2) 0 rfl rfl 5 (by decide) (hk1) (fun _ h9 => h9) rfl dX12_pass_61 ?_
          exact W.iret (v := (va_up g 0 (upd (g 0) 0 (g 0 0 + d))) 0 0) hx hb hr (fun t ht hW => ⟨⟨_, C_10, rfl, ⟨rfl, hR_12⟩, mI_pre hM hK hMS hS t ht hW⟩, hS.F ht⟩) hS.2.2 dX12_pass_64
        · have c_9 := bI_t c_9
          cases c_9
      · have c_7 : nI 359 < g 0 0 + d := Int32.not_le.mp c_7
        simp only [c_2, c_6, decide_eq_true c_7, Bool.not_true, Bool.not_false, Bool.and_true, Bool.true_and, Bool.and_false, Bool.false_and, Bool.or_true, Bool.true_or, Bool.or_false, Bool.false_or, Bool.and_self, Bool.or_self, Bool.true_eq_false, Bool.false_eq_true] at h2
  · have c_2 := bI_f c_2
    simp only [c_2, Bool.not_true, Bool.not_false, Bool.and_true, Bool.true_and, Bool.and_false, Bool.false_and, Bool.or_true, Bool.true_or, Bool.or_false, Bool.false_or, Bool.and_self, Bool.or_self, Bool.true_eq_false, Bool.false_eq_true] at h1
set_option maxHeartbeats 600000 in
set_option maxRecDepth 100000 in
theorem m_pass_x1 (l : Launch) (D : va_G) (ty : Nat → ClassId) (A : Nat → Prop) (u : Nat → Nat → Prop) (C : Nat → Nat → va_E) (ma : Nat → Nat → Nat) (t0 mi : Nat) (g : Nat → Nat → Int32) (n1 n2 nL n4 n5 : Nat) (th : Int32) (rep bro : Nat → Nat → Int32) (hR : mR ty t0 g n1 n2 nL n4 n5 th rep bro u C ma) (d : Int32) (h1 : (!inB d (nI 1) (nI 30)) = true) : Met l yX12_pass wsX12_pass ({ frames := 7, cells := 0, slots := 0, locals := 192 }) (va_Pc [.ref (ma 0 0), .int d] (mI D ty A u C ma t0 mi)) (va_Qi (fun (v9 : Int32) (C2 : Nat → Nat → va_E) => v9 = nI 0 ∧ mR ty t0 g n1 n2 nL n4 n5 (nI 1) rep bro u C2 ma) (fun C2 t => mI D ty A u C2 ma t0 mi t) A) 0 0 A := by
  refine zMet (cc := cX12_pass) (maxL := 2) (ret := (some .int)) (by decide) rfl (Nat.le_of_ble_eq_true rfl) ?_
  intro p e s m below meth c hx hb hr hts hown hlocks hml hB ls hl
  obtain ⟨hM, hK, hMS⟩ := hB
  have hS : va_S A s.heap s.heap [] := va_S.rf
  have hbn := hR.I.b1
  have hbs := hR.I.b2
  have hbl := hR.I.bL
  have hbc := hR.I.b4
  have hbr := hR.I.b5
  have hl : lv_has ls 2 [(0, .ref (ma 0 0)), (1, .int d)] := hl
  refine lv_aload_n hx hb dX12_pass_0 rfl (lv_at hl 0 rfl) ?_
  refine lv_iload_n hx hb dX12_pass_1 rfl (lv_at hl 1 rfl) ?_
  refine lv_iconst (v := nI 1) hx hb dX12_pass_2 (by decide) ?_
  refine lv_bipush (v := nI 30) hx hb dX12_pass_3 (by decide) ?_
  refine zcSi (As := [.int d, .int (nI 1), .int (nI 30)]) (rest := [.ref (ma 0 0)]) ⟨hx, hb, hml, hown, hts⟩ (c_X12_isIn l _ d (nI 1) (nI 30)) (cwS 3 hts gX12_pass_X12_isIn rfl rfl rfl (by decide +kernel) ⟨Nat.le_of_ble_eq_true rfl, Nat.le_of_ble_eq_true rfl⟩) (B := fun _ => True) (fun _ _ _ _ _ => trivial) (fun _ _ _ => trivial) rfl hl.1 rfl (Nat.le_of_ble_eq_true rfl) dX12_pass_5 ⟨Nat.le_of_ble_eq_true rfl, Nat.le_of_ble_eq_true rfl⟩ (fun r_1 hr_1 => ?_)
  subst hr_1
  refine lv_if_ne (tgt := 15) hx hb dX12_pass_8 (by decide) (fun c_2 => ?_) (fun c_2 => ?_)
  · have c_2 := bI_t c_2
    simp only [c_2, Bool.not_true, Bool.not_false, Bool.and_true, Bool.true_and, Bool.and_false, Bool.false_and, Bool.or_true, Bool.true_or, Bool.or_false, Bool.false_or, Bool.and_self, Bool.or_self, Bool.true_eq_false, Bool.false_eq_true] at h1
  · have c_2 := bI_f c_2
    refine lv_iconst (v := nI 1) hx hb dX12_pass_11 (by decide) ?_
    refine zeq (show nI 1 = bI true from rfl) ?_
    refine lv_goto (tgt := 16) hx hb dX12_pass_12 (by decide) ?_
    refine lv_iconst (v := nI 1) hx hb dX12_pass_16 (by decide) ?_
    refine va_calli (va_runV (As := [.int (bI true), .int (nI 1)]) (rest := []) ⟨hx, hb, hml, hown, hts⟩ (c_X12_start_t l D ty A u C ma t0 mi g n1 n2 nL n4 n5 th rep bro hR 1 (by omega) (by omega)) (cwV 2 hts gX12_pass_X12_start rfl rfl rfl (by decide +kernel) ⟨Nat.le_of_ble_eq_true rfl, Nat.le_of_ble_eq_true rfl⟩) ⟨zBl mI_blind, (va_recv hK (hM.Pa hR.o.1 rfl hR.o.2) (ci := 13) (q0 := 0) rfl rfl), fun U h1 h2 => ⟨rfl, mI_pre hM hK hMS hS U h1 h2⟩⟩ rfl rfl hl.1 rfl (lv_room (Nat.le_of_ble_eq_true rfl)) dX12_pass_17 ⟨Nat.le_of_ble_eq_true rfl, Nat.le_of_ble_eq_true rfl⟩) hS (fun _ _ h => h) (fun _ h => h) (fun r_4 C_3 t H1 locs ht hvm hw hB9 hz1 hk1 hS => ?_)
    obtain ⟨hr_4, hR_5⟩ := hw
    obtain ⟨hM, -, -⟩ := hB9
    rw [ht] at hM
    clear hk1 hz1 hvm ht
    clear t
    generalize H1 = H at hM hS ⊢
    subst hr_4
    refine lv_if_ne (tgt := 48) hx hb dX12_pass_20 (by decide) (fun c_6 => ?_) (fun c_6 => ?_)
    · have c_6 := bI_t c_6
      refine lv_iconst (v := nI 0) hx hb dX12_pass_48 (by decide) ?_
      exact W.iret (v := nI 0) hx hb hr (fun t ht hW => ⟨⟨_, C_3, rfl, ⟨rfl, hR_5⟩, mI_pre hM hK hMS hS t ht hW⟩, hS.F ht⟩) hS.2.2 dX12_pass_49
    · have c_6 := bI_f c_6
      cases c_6
set_option maxHeartbeats 600000 in
set_option maxRecDepth 100000 in
theorem m_pass_x2 (l : Launch) (D : va_G) (ty : Nat → ClassId) (A : Nat → Prop) (u : Nat → Nat → Prop) (C : Nat → Nat → va_E) (ma : Nat → Nat → Nat) (t0 mi : Nat) (g : Nat → Nat → Int32) (n1 n2 nL n4 n5 : Nat) (th : Int32) (rep bro : Nat → Nat → Int32) (hR : mR ty t0 g n1 n2 nL n4 n5 th rep bro u C ma) (d : Int32) (h1 : (!inB d (nI 1) (nI 30)) = false) (h2 : decide (nI 359 < g 0 0 + d) = true) : Met l yX12_pass wsX12_pass ({ frames := 7, cells := 0, slots := 0, locals := 192 }) (va_Pc [.ref (ma 0 0), .int d] (mI D ty A u C ma t0 mi)) (va_Qi (fun (v9 : Int32) (C2 : Nat → Nat → va_E) => v9 = nI 0 ∧ mR ty t0 g n1 n2 nL n4 n5 (nI 2) rep bro u C2 ma) (fun C2 t => mI D ty A u C2 ma t0 mi t) A) 0 0 A := by
  refine zMet (cc := cX12_pass) (maxL := 2) (ret := (some .int)) (by decide) rfl (Nat.le_of_ble_eq_true rfl) ?_
  intro p e s m below meth c hx hb hr hts hown hlocks hml hB ls hl
  obtain ⟨hM, hK, hMS⟩ := hB
  have hS : va_S A s.heap s.heap [] := va_S.rf
  have hbn := hR.I.b1
  have hbs := hR.I.b2
  have hbl := hR.I.bL
  have hbc := hR.I.b4
  have hbr := hR.I.b5
  have hl : lv_has ls 2 [(0, .ref (ma 0 0)), (1, .int d)] := hl
  have hinX12 : ∀ w ∈ wsX120, w ∈ wsX12_pass := by decide +kernel
  have hk1 := hts (.fieldLink RX12 193 "DatamarketDeskModel" "today" "I") (by decide +kernel)
  refine lv_aload_n hx hb dX12_pass_0 rfl (lv_at hl 0 rfl) ?_
  refine lv_iload_n hx hb dX12_pass_1 rfl (lv_at hl 1 rfl) ?_
  refine lv_iconst (v := nI 1) hx hb dX12_pass_2 (by decide) ?_
  refine lv_bipush (v := nI 30) hx hb dX12_pass_3 (by decide) ?_
  refine zcSi (As := [.int d, .int (nI 1), .int (nI 30)]) (rest := [.ref (ma 0 0)]) ⟨hx, hb, hml, hown, hts⟩ (c_X12_isIn l _ d (nI 1) (nI 30)) (cwS 3 hts gX12_pass_X12_isIn rfl rfl rfl (by decide +kernel) ⟨Nat.le_of_ble_eq_true rfl, Nat.le_of_ble_eq_true rfl⟩) (B := fun _ => True) (fun _ _ _ _ _ => trivial) (fun _ _ _ => trivial) rfl hl.1 rfl (Nat.le_of_ble_eq_true rfl) dX12_pass_5 ⟨Nat.le_of_ble_eq_true rfl, Nat.le_of_ble_eq_true rfl⟩ (fun r_1 hr_1 => ?_)
  subst hr_1
  refine lv_if_ne (tgt := 15) hx hb dX12_pass_8 (by decide) (fun c_2 => ?_) (fun c_2 => ?_)
  · have c_2 := bI_t c_2
    refine lv_iconst (v := nI 0) hx hb dX12_pass_15 (by decide) ?_
    refine zeq (show nI 0 = bI false from rfl) ?_
    refine lv_iconst (v := nI 1) hx hb dX12_pass_16 (by decide) ?_
    refine va_calli (va_runV (As := [.int (bI false), .int (nI 1)]) (rest := []) ⟨hx, hb, hml, hown, hts⟩ (c_X12_start_f l D ty A u C ma t0 mi g n1 n2 nL n4 n5 th rep bro hR 1 (by omega) (by omega)) (cwV 2 hts gX12_pass_X12_start rfl rfl rfl (by decide +kernel) ⟨Nat.le_of_ble_eq_true rfl, Nat.le_of_ble_eq_true rfl⟩) ⟨zBl mI_blind, (va_recv hK (hM.Pa hR.o.1 rfl hR.o.2) (ci := 13) (q0 := 0) rfl rfl), fun U h1 h2 => ⟨rfl, mI_pre hM hK hMS hS U h1 h2⟩⟩ rfl rfl hl.1 rfl (lv_room (Nat.le_of_ble_eq_true rfl)) dX12_pass_17 ⟨Nat.le_of_ble_eq_true rfl, Nat.le_of_ble_eq_true rfl⟩) hS (fun _ _ h => h) (fun _ h => h) (fun r_4 C_3 t H1 locs ht hvm hw hB9 hz1 hk1 hS => ?_)
    obtain ⟨hr_4, hR_5⟩ := hw
    obtain ⟨hM, -, -⟩ := hB9
    rw [ht] at hM
    clear hk1 hz1 hvm ht
    clear t
    generalize H1 = H at hM hS ⊢
    subst hr_4
    refine lv_if_ne (tgt := 48) hx hb dX12_pass_20 (by decide) (fun c_6 => ?_) (fun c_6 => ?_)
    · have c_6 := bI_t c_6
      cases c_6
    · have c_6 := bI_f c_6
      refine lv_aload_n hx hb dX12_pass_23 rfl (lv_at hl 0 rfl) ?_
      refine lv_aload_n hx hb dX12_pass_24 rfl (lv_at hl 0 rfl) ?_
      refine va_get hx hb hts hinX12 hown hK (hM.Pa hR_5.o.1 rfl hR_5.o.2) 0 rfl rfl 5 (by decide) (hk1) (fun _ h9 => h9) rfl dX12_pass_25 ?_
      refine lv_iload_n hx hb dX12_pass_28 rfl (lv_at hl 1 rfl) ?_
      refine lv_iadd hx hb dX12_pass_29 ?_
      refine lv_sipush (v := nI 359) hx hb dX12_pass_30 (by decide) ?_
      refine lv_icmp_le (tgt := 40) hx hb dX12_pass_33 (by decide) (fun c_7 => ?_) (fun c_7 => ?_)
      · have c_7 : ¬ nI 359 < g 0 0 + d := Int32.not_lt.mpr c_7
        simp only [c_2, c_6, decide_eq_false c_7, Bool.not_true, Bool.not_false, Bool.and_true, Bool.true_and, Bool.and_false, Bool.false_and, Bool.or_true, Bool.true_or, Bool.or_false, Bool.false_or, Bool.and_self, Bool.or_self, Bool.true_eq_false, Bool.false_eq_true] at h2
      · have c_7 : nI 359 < g 0 0 + d := Int32.not_le.mp c_7
        refine lv_iconst (v := nI 1) hx hb dX12_pass_36 (by decide) ?_
        refine zeq (show nI 1 = bI true from rfl) ?_
        refine lv_goto (tgt := 41) hx hb dX12_pass_37 (by decide) ?_
        refine lv_iconst (v := nI 2) hx hb dX12_pass_41 (by decide) ?_
        refine va_calli (va_runV (As := [.int (bI true), .int (nI 2)]) (rest := []) ⟨hx, hb, hml, hown, hts⟩ (c_X12_refuse_t l D ty A u C_3 ma t0 mi g n1 n2 nL n4 n5 (nI 0) rep bro hR_5 rfl 2 (by omega) (by omega)) (cwV 2 hts gX12_pass_X12_refuse rfl rfl rfl (by decide +kernel) ⟨Nat.le_of_ble_eq_true rfl, Nat.le_of_ble_eq_true rfl⟩) ⟨zBl mI_blind, (va_recv hK (hM.Pa hR_5.o.1 rfl hR_5.o.2) (ci := 13) (q0 := 0) rfl rfl), fun U h1 h2 => ⟨rfl, mI_pre hM hK hMS hS U h1 h2⟩⟩ rfl rfl hl.1 rfl (lv_room (Nat.le_of_ble_eq_true rfl)) dX12_pass_42 ⟨Nat.le_of_ble_eq_true rfl, Nat.le_of_ble_eq_true rfl⟩) hS (fun _ _ h => h) (fun _ h => h) (fun r_9 C_8 t H1 locs ht hvm hw hB9 hz1 hk1 hS => ?_)
        obtain ⟨hr_9, hR_10⟩ := hw
        obtain ⟨hM, -, -⟩ := hB9
        rw [ht] at hM
        clear hk1 hz1 hvm ht
        clear t
        generalize H1 = H at hM hS ⊢
        subst hr_9
        refine lv_if_eq (tgt := 50) hx hb dX12_pass_45 (by decide) (fun c_11 => ?_) (fun c_11 => ?_)
        · have c_11 := bI_f c_11
          cases c_11
        · have c_11 := bI_t c_11
          refine lv_iconst (v := nI 0) hx hb dX12_pass_48 (by decide) ?_
          exact W.iret (v := nI 0) hx hb hr (fun t ht hW => ⟨⟨_, C_8, rfl, ⟨rfl, hR_10⟩, mI_pre hM hK hMS hS t ht hW⟩, hS.F ht⟩) hS.2.2 dX12_pass_49
  · have c_2 := bI_f c_2
    simp only [c_2, Bool.not_true, Bool.not_false, Bool.and_true, Bool.true_and, Bool.and_false, Bool.false_and, Bool.or_true, Bool.true_or, Bool.or_false, Bool.false_or, Bool.and_self, Bool.or_self, Bool.true_eq_false, Bool.false_eq_true] at h1
set_option maxHeartbeats 600000 in
set_option maxRecDepth 100000 in
theorem m_preview (l : Launch) (D : va_G) (ty : Nat → ClassId) (A : Nat → Prop) (u : Nat → Nat → Prop) (C : Nat → Nat → va_E) (ma : Nat → Nat → Nat) (t0 mi : Nat) (g : Nat → Nat → Int32) (n1 n2 nL n4 n5 : Nat) (th : Int32) (rep bro : Nat → Nat → Int32) (hR : mR ty t0 g n1 n2 nL n4 n5 th rep bro u C ma) (R i : Nat) (hr6 : R < 6) (hi : i < n1) (F : Int32) (h2 : (bFds g i F || decide (nI 2 < bc F)) = false) (h3 : (!(!decide (nV g i = 0) && mayB g i (g 6 (R * 8 + i) ||| F) (openT g n4 (nI R) (nI i)))) = false) : Met l yX12_preview wsX12_preview ({ frames := 7, cells := 0, slots := 0, locals := 192 }) (va_Pc [.ref (ma 0 0), .int (nI R), .int (nI i), .int F] (mI D ty A u C ma t0 mi)) (va_Qi (fun (v9 : Int32) (C2 : Nat → Nat → va_E) => v9 = g 6 (R * 8 + i) ||| F ∧ mR ty t0 (va_up g 6 (upd (g 6) (R * 8 + i) (g 6 (R * 8 + i) ||| F))) n1 n2 nL n4 n5 (nI 0) rep bro u C2 ma) (fun C2 t => mI D ty A u C2 ma t0 mi t) A) 0 0 A := by
  refine zMet (cc := cX12_preview) (maxL := 4) (ret := (some .int)) (by decide) rfl (Nat.le_of_ble_eq_true rfl) ?_
  intro p e s m below meth c hx hb hr hts hown hlocks hml hB ls hl
  obtain ⟨hM, hK, hMS⟩ := hB
  have hS : va_S A s.heap s.heap [] := va_S.rf
  have hbn := hR.I.b1
  have hbs := hR.I.b2
  have hbl := hR.I.bL
  have hbc := hR.I.b4
  have hbr := hR.I.b5
  have h1 : (bRd (nI R) || bNo n1 (nI i)) = false := by rw [bRd_ok hr6, bNo_ok hR.I.b1 hi]; rfl
  have hl : lv_has ls 4 [(0, .ref (ma 0 0)), (1, .int (nI R)), (2, .int (nI i)), (3, .int F)] := hl
  have hinX12 : ∀ w ∈ wsX120, w ∈ wsX12_preview := by decide +kernel
  have hk1 := hts (.fieldLink RX12 10 "DatamarketDeskModel" "sets" "Ljava/util/ArrayList;") (by decide +kernel)
  have hk2 := hts (.classLink RX12 49 "DatamarketDeskModel$DataSet") (by decide +kernel)
  have hinX7 : ∀ w ∈ wsX70, w ∈ wsX12_preview := by decide +kernel
  have hk4 := hts (.fieldLink RX12 245 "DatamarketDeskModel$DataSet" "previewed" "[I") (by decide +kernel)
  refine lv_aload_n hx hb dX12_preview_0 rfl (lv_at hl 0 rfl) ?_
  refine lv_iload_n hx hb dX12_preview_1 rfl (lv_at hl 1 rfl) ?_
  refine zcSi (As := [.int (nI R)]) (rest := [.ref (ma 0 0)]) ⟨hx, hb, hml, hown, hts⟩ (c_X12_isNoReader l _ (nI R)) (cwS 1 hts gX12_preview_X12_isNoReader rfl rfl rfl (by decide +kernel) ⟨Nat.le_of_ble_eq_true rfl, Nat.le_of_ble_eq_true rfl⟩) (B := fun _ => True) (fun _ _ _ _ _ => trivial) (fun _ _ _ => trivial) rfl hl.1 rfl (Nat.le_of_ble_eq_true rfl) dX12_preview_2 ⟨Nat.le_of_ble_eq_true rfl, Nat.le_of_ble_eq_true rfl⟩ (fun r_1 hr_1 => ?_)
  subst hr_1
  refine lv_if_ne (tgt := 16) hx hb dX12_preview_5 (by decide) (fun c_2 => ?_) (fun c_2 => ?_)
  · have c_2 := bI_t c_2
    simp only [c_2, Bool.not_true, Bool.not_false, Bool.and_true, Bool.true_and, Bool.and_false, Bool.false_and, Bool.or_true, Bool.true_or, Bool.or_false, Bool.false_or, Bool.and_self, Bool.or_self, Bool.true_eq_false, Bool.false_eq_true] at h1
  · have c_2 := bI_f c_2
    refine lv_aload_n hx hb dX12_preview_8 rfl (lv_at hl 0 rfl) ?_
    refine lv_iload_n hx hb dX12_preview_9 rfl (lv_at hl 2 rfl) ?_
    refine zcVi (As := [.int (nI i)]) (rest := [.ref (ma 0 0)]) ⟨hx, hb, hml, hown, hts⟩ (c_X12_isNo l D ty A u C ma t0 mi g n1 n2 nL n4 n5 th rep bro hR (nI i)) (cwV 1 hts gX12_preview_X12_isNo rfl rfl rfl (by decide +kernel) ⟨Nat.le_of_ble_eq_true rfl, Nat.le_of_ble_eq_true rfl⟩) mI_blind (mI_pre hM hK hMS hS) (va_recv hK (hM.Pa hR.o.1 rfl hR.o.2) (ci := 13) (q0 := 0) rfl rfl) rfl hl.1 rfl (Nat.le_of_ble_eq_true rfl) dX12_preview_10 ⟨Nat.le_of_ble_eq_true rfl, Nat.le_of_ble_eq_true rfl⟩ (fun r_3 hr_3 => ?_)
    subst hr_3
    refine lv_if_eq (tgt := 20) hx hb dX12_preview_13 (by decide) (fun c_4 => ?_) (fun c_4 => ?_)
    · have c_4 := bI_f c_4
      refine lv_iconst (v := nI 0) hx hb dX12_preview_20 (by decide) ?_
      refine zeq (show nI 0 = bI false from rfl) ?_
      refine lv_iconst (v := nI 1) hx hb dX12_preview_21 (by decide) ?_
      refine va_calli (va_runV (As := [.int (bI false), .int (nI 1)]) (rest := []) ⟨hx, hb, hml, hown, hts⟩ (c_X12_start_f l D ty A u C ma t0 mi g n1 n2 nL n4 n5 th rep bro hR 1 (by omega) (by omega)) (cwV 2 hts gX12_preview_X12_start rfl rfl rfl (by decide +kernel) ⟨Nat.le_of_ble_eq_true rfl, Nat.le_of_ble_eq_true rfl⟩) ⟨zBl mI_blind, (va_recv hK (hM.Pa hR.o.1 rfl hR.o.2) (ci := 13) (q0 := 0) rfl rfl), fun U h1 h2 => ⟨rfl, mI_pre hM hK hMS hS U h1 h2⟩⟩ rfl rfl hl.1 rfl (lv_room (Nat.le_of_ble_eq_true rfl)) dX12_preview_22 ⟨Nat.le_of_ble_eq_true rfl, Nat.le_of_ble_eq_true rfl⟩) hS (fun _ _ h => h) (fun _ h => h) (fun r_6 C_5 t H1 locs ht hvm hw hB9 hz1 hk1 hS => ?_)
      obtain ⟨hr_6, hR_7⟩ := hw
      obtain ⟨hM, -, -⟩ := hB9
      rw [ht] at hM
      clear hk1 hz1 hvm ht
      clear t
      generalize H1 = H at hM hS ⊢
      subst hr_6
      refine lv_if_ne (tgt := 81) hx hb dX12_preview_25 (by decide) (fun c_8 => ?_) (fun c_8 => ?_)
      · have c_8 := bI_t c_8
        cases c_8
      · have c_8 := bI_f c_8
        refine lv_aload_n hx hb dX12_preview_28 rfl (lv_at hl 0 rfl) ?_
        refine lv_aload_n hx hb dX12_preview_29 rfl (lv_at hl 0 rfl) ?_
        refine lv_iload_n hx hb dX12_preview_30 rfl (lv_at hl 2 rfl) ?_
        refine lv_iload_n hx hb dX12_preview_31 rfl (lv_at hl 3 rfl) ?_
        refine zcVi (As := [.int (nI i), .int F]) (rest := [.ref (ma 0 0)]) ⟨hx, hb, hml, hown, hts⟩ (c_X12_isNoFields l D ty A u C_5 ma t0 mi g n1 n2 nL n4 n5 (nI 0) rep bro hR_7 i (by omega) F) (cwV 2 hts gX12_preview_X12_isNoFields rfl rfl rfl (by decide +kernel) ⟨Nat.le_of_ble_eq_true rfl, Nat.le_of_ble_eq_true rfl⟩) mI_blind (mI_pre hM hK hMS hS) (va_recv hK (hM.Pa hR_7.o.1 rfl hR_7.o.2) (ci := 13) (q0 := 0) rfl rfl) rfl hl.1 rfl (Nat.le_of_ble_eq_true rfl) dX12_preview_32 ⟨Nat.le_of_ble_eq_true rfl, Nat.le_of_ble_eq_true rfl⟩ (fun r_9 hr_9 => ?_)
        subst hr_9
        refine lv_if_ne (tgt := 46) hx hb dX12_preview_35 (by decide) (fun c_10 => ?_) (fun c_10 => ?_)
        · have c_10 := bI_t c_10
          simp only [c_2, c_4, c_8, c_10, Bool.not_true, Bool.not_false, Bool.and_true, Bool.true_and, Bool.and_false, Bool.false_and, Bool.or_true, Bool.true_or, Bool.or_false, Bool.false_or, Bool.and_self, Bool.or_self, Bool.true_eq_false, Bool.false_eq_true] at h2
        · have c_10 := bI_f c_10
          refine lv_iload_n hx hb dX12_preview_38 rfl (lv_at hl 3 rfl) ?_
          refine zcSi (As := [.int F]) (rest := [.ref (ma 0 0)]) ⟨hx, hb, hml, hown, hts⟩ (c_J6_bitCount l _ F) (va_cwS 1 hts gX12_preview_J6_bitCount_0f7a4 rfl rfl rfl (by decide +kernel) ⟨Nat.le_of_ble_eq_true rfl, Nat.le_of_ble_eq_true rfl⟩) (B := fun _ => True) (fun _ _ _ _ _ => trivial) (fun _ _ _ => trivial) rfl hl.1 rfl (Nat.le_of_ble_eq_true rfl) dX12_preview_39 ⟨Nat.le_of_ble_eq_true rfl, Nat.le_of_ble_eq_true rfl⟩ (fun r_11 hr_11 => ?_)
          subst hr_11
          refine lv_iconst (v := nI 2) hx hb dX12_preview_42 (by decide) ?_
          refine lv_icmp_le (tgt := 50) hx hb dX12_preview_43 (by decide) (fun c_12 => ?_) (fun c_12 => ?_)
          · have c_12 : ¬ nI 2 < bc F := Int32.not_lt.mpr c_12
            refine lv_iconst (v := nI 0) hx hb dX12_preview_50 (by decide) ?_
            refine zeq (show nI 0 = bI false from rfl) ?_
            refine lv_iconst (v := nI 2) hx hb dX12_preview_51 (by decide) ?_
            refine zcVi (As := [.int (bI false), .int (nI 2)]) (rest := []) ⟨hx, hb, hml, hown, hts⟩ (c_X12_refuse_f l D ty A u C_5 ma t0 mi g n1 n2 nL n4 n5 (nI 0) rep bro hR_7 rfl (nI 2)) (cwV 2 hts gX12_preview_X12_refuse rfl rfl rfl (by decide +kernel) ⟨Nat.le_of_ble_eq_true rfl, Nat.le_of_ble_eq_true rfl⟩) mI_blind (mI_pre hM hK hMS hS) (va_recv hK (hM.Pa hR_7.o.1 rfl hR_7.o.2) (ci := 13) (q0 := 0) rfl rfl) rfl hl.1 rfl (Nat.le_of_ble_eq_true rfl) dX12_preview_52 ⟨Nat.le_of_ble_eq_true rfl, Nat.le_of_ble_eq_true rfl⟩ (fun r_13 hr_13 => ?_)
            subst hr_13
            refine lv_if_ne (tgt := 81) hx hb dX12_preview_55 (by decide) (fun c_14 => ?_) (fun c_14 => ?_)
            · have c_14 := bI_t c_14
              cases c_14
            · have c_14 := bI_f c_14
              refine lv_aload_n hx hb dX12_preview_58 rfl (lv_at hl 0 rfl) ?_
              refine lv_aload_n hx hb dX12_preview_59 rfl (lv_at hl 0 rfl) ?_
              refine lv_iload_n hx hb dX12_preview_60 rfl (lv_at hl 1 rfl) ?_
              refine lv_iload_n hx hb dX12_preview_61 rfl (lv_at hl 2 rfl) ?_
              refine lv_iload_n hx hb dX12_preview_62 rfl (lv_at hl 3 rfl) ?_
              refine zcVi (As := [.int (nI R), .int (nI i), .int F]) (rest := [.ref (ma 0 0)]) ⟨hx, hb, hml, hown, hts⟩ (c_X12_canPreview l D ty A u C_5 ma t0 mi g n1 n2 nL n4 n5 (nI 0) rep bro hR_7 R i (by omega) (by omega) F) (cwV 3 hts gX12_preview_X12_canPreview rfl rfl rfl (by decide +kernel) ⟨Nat.le_of_ble_eq_true rfl, Nat.le_of_ble_eq_true rfl⟩) mI_blind (mI_pre hM hK hMS hS) (va_recv hK (hM.Pa hR_7.o.1 rfl hR_7.o.2) (ci := 13) (q0 := 0) rfl rfl) rfl hl.1 rfl (Nat.le_of_ble_eq_true rfl) dX12_preview_63 ⟨Nat.le_of_ble_eq_true rfl, Nat.le_of_ble_eq_true rfl⟩ (fun r_15 hr_15 => ?_)
              subst hr_15
              refine lv_if_ne (tgt := 73) hx hb dX12_preview_66 (by decide) (fun c_16 => ?_) (fun c_16 => ?_)
              · have c_16 := bI_t c_16
                refine lv_iconst (v := nI 0) hx hb dX12_preview_73 (by decide) ?_
                refine zeq (show nI 0 = bI false from rfl) ?_
                refine lv_iconst (v := nI 3) hx hb dX12_preview_74 (by decide) ?_
                refine zcVi (As := [.int (bI false), .int (nI 3)]) (rest := []) ⟨hx, hb, hml, hown, hts⟩ (c_X12_refuse_f l D ty A u C_5 ma t0 mi g n1 n2 nL n4 n5 (nI 0) rep bro hR_7 rfl (nI 3)) (cwV 2 hts gX12_preview_X12_refuse rfl rfl rfl (by decide +kernel) ⟨Nat.le_of_ble_eq_true rfl, Nat.le_of_ble_eq_true rfl⟩) mI_blind (mI_pre hM hK hMS hS) (va_recv hK (hM.Pa hR_7.o.1 rfl hR_7.o.2) (ci := 13) (q0 := 0) rfl rfl) rfl hl.1 rfl (Nat.le_of_ble_eq_true rfl) dX12_preview_75 ⟨Nat.le_of_ble_eq_true rfl, Nat.le_of_ble_eq_true rfl⟩ (fun r_17 hr_17 => ?_)
                subst hr_17
                refine lv_if_eq (tgt := 83) hx hb dX12_preview_78 (by decide) (fun c_18 => ?_) (fun c_18 => ?_)
                · have c_18 := bI_f c_18
                  refine lv_aload_n hx hb dX12_preview_83 rfl (lv_at hl 0 rfl) ?_
                  refine va_get hx hb hts hinX12 hown hK (hM.Pa hR_7.o.1 rfl hR_7.o.2) 0 rfl rfl 1 (by decide) (hk1) (fun _ h9 => h9) rfl dX12_preview_84 ?_
                  refine lv_iload_n hx hb dX12_preview_87 rfl (lv_at hl 2 rfl) ?_
                  obtain ⟨huz_19, hnz_19, mz_19, bz_19, hCz_19⟩ := isL.hd hR_7.l1
                  refine zcVr (x := .ref (ma 9 i)) (As := [.int (nI i)]) (rest := []) ⟨hx, hb, hml, hown, hts⟩ (c_get l D ty A u C_5 ma t0 mi 1 0 n1 (ma 9) hR_7.l1 i (by omega)) (cwV 1 hts gX12_preview_Jx4a65c_get_915e3 rfl rfl rfl (by decide +kernel) ⟨Nat.le_of_ble_eq_true rfl, Nat.le_of_ble_eq_true rfl⟩) mI_blind (mI_pre hM hK hMS hS) (va_recv hK (hM.Pa huz_19 rfl hCz_19) (ci := 0) (q0 := 0) rfl rfl) rfl hl.1 rfl (Nat.le_of_ble_eq_true rfl) dX12_preview_88 ⟨Nat.le_of_ble_eq_true rfl, Nat.le_of_ble_eq_true rfl⟩ ?_
                  refine va_castS hx hb hown (hk2) ((hK.1 8 _ rfl).2) (va_recv hK (hM.Pa (hR_7.s9 (i := i) (by omega)).1 rfl (hR_7.s9 (i := i) (by omega)).2) (ci := 8) (q0 := 0) rfl rfl) dX12_preview_91 ?_
                  refine va_get hx hb hts hinX7 hown hK (hM.Pa (hR_7.s9 (i := i) (by omega)).1 rfl (hR_7.s9 (i := i) (by omega)).2) 0 rfl rfl 4 (by decide) (hk4) (fun _ h9 => h9) rfl dX12_preview_94 ?_
                  refine lv_iload_n hx hb dX12_preview_97 rfl (lv_at hl 1 rfl) ?_
                  refine lv_dup2_11 hx hb dX12_preview_98 rfl rfl ?_
                  refine zald hx hb hK (hM.Pa (hR_7.s14 (i := i) (by omega)).1 rfl (hR_7.s14 (i := i) (by omega)).2) 0 0 rfl rfl (i := R) (by omega) (by omega) dX12_preview_99 ?_
                  refine zeq (prvR_at (by omega)) ?_
                  refine lv_iload_n hx hb dX12_preview_100 rfl (lv_at hl 3 rfl) ?_
                  refine lv_ior hx hb dX12_preview_101 ?_
                  refine miast hx hb hK hM hS (hR_7.s14 (i := i) (by omega)).1 rfl 0 (hR_7.s14 (i := i) (by omega)).2 rfl (i := R) (by omega) (by omega) dX12_preview_102 (fun H locs hM hS ho => ?_)
                  obtain ⟨C_21, eC_21⟩ : ∃ z, z = up2 C_5 14 i (eI (ty 0) 6 (upd (prvR (g 6) i) R ((g 6 (R * 8 + i)) ||| F))) := ⟨_, rfl⟩
                  have hM : mW D A u C_21 ma H := by rw [eC_21]; exact hM
                  have hC_22 : C_21 14 i = eI (ty 0) 6 (upd (prvR (g 6) i) R ((g 6 (R * 8 + i)) ||| F)) := by rw [eC_21]; exact up2_s _ _ _ _
                  have hR_23 : mR ty t0 (va_up g 6 (upd (g 6) (R * 8 + i) (g 6 (R * 8 + i) ||| F))) n1 n2 nL n4 n5 (nI 0) rep bro u C_21 ma := by rw [eC_21]; exact mR_prev hR_7 hr6 hi _
                  refine lv_aload_n hx hb dX12_preview_103 rfl (lv_at hl 0 rfl) ?_
                  refine va_get hx hb hts hinX12 hown hK (hM.Pa hR_23.o.1 rfl hR_23.o.2) 0 rfl rfl 1 (by decide) (hk1) (fun _ h9 => h9) rfl dX12_preview_104 ?_
                  refine lv_iload_n hx hb dX12_preview_107 rfl (lv_at hl 2 rfl) ?_
                  obtain ⟨huz_24, hnz_24, mz_24, bz_24, hCz_24⟩ := isL.hd hR_23.l1
                  refine zcVr (x := .ref (ma 9 i)) (As := [.int (nI i)]) (rest := []) ⟨hx, hb, hml, hown, hts⟩ (c_get l D ty A u C_21 ma t0 mi 1 0 n1 (ma 9) hR_23.l1 i (by omega)) (cwV 1 hts gX12_preview_Jx4a65c_get_915e3 rfl rfl rfl (by decide +kernel) ⟨Nat.le_of_ble_eq_true rfl, Nat.le_of_ble_eq_true rfl⟩) mI_blind (mI_pre hM hK hMS hS) (va_recv hK (hM.Pa huz_24 rfl hCz_24) (ci := 0) (q0 := 0) rfl rfl) rfl hl.1 rfl (Nat.le_of_ble_eq_true rfl) dX12_preview_108 ⟨Nat.le_of_ble_eq_true rfl, Nat.le_of_ble_eq_true rfl⟩ ?_
                  refine va_castS hx hb hown (hk2) ((hK.1 8 _ rfl).2) (va_recv hK (hM.Pa (hR_23.s9 (i := i) (by omega)).1 rfl (hR_23.s9 (i := i) (by omega)).2) (ci := 8) (q0 := 0) rfl rfl) dX12_preview_111 ?_
                  refine va_get hx hb hts hinX7 hown hK (hM.Pa (hR_23.s9 (i := i) (by omega)).1 rfl (hR_23.s9 (i := i) (by omega)).2) 0 rfl rfl 4 (by decide) (hk4) (fun _ h9 => h9) rfl dX12_preview_114 ?_
                  refine lv_iload_n hx hb dX12_preview_117 rfl (lv_at hl 1 rfl) ?_
                  refine zald hx hb hK (hM.Pa (hR_23.s14 (i := i) (by omega)).1 rfl (hR_23.s14 (i := i) (by omega)).2) 0 0 rfl rfl (i := R) (by omega) (by omega) dX12_preview_118 ?_
                  refine zeq (prvR_at (by omega)) ?_
                  exact W.iret (v := (va_up g 6 (upd (g 6) (R * 8 + i) (g 6 (R * 8 + i) ||| F))) 6 (R * 8 + i)) hx hb hr (fun t ht hW => ⟨⟨_, C_21, rfl, ⟨us, hR_23⟩, mI_pre hM hK hMS hS t ht hW⟩, hS.F ht⟩) hS.2.2 dX12_preview_119
                · have c_18 := bI_t c_18
                  cases c_18
              · have c_16 := bI_f c_16
                simp only [c_2, c_4, c_8, c_10, decide_eq_false c_12, c_14, c_16, Bool.not_true, Bool.not_false, Bool.and_true, Bool.true_and, Bool.and_false, Bool.false_and, Bool.or_true, Bool.true_or, Bool.or_false, Bool.false_or, Bool.and_self, Bool.or_self, Bool.true_eq_false, Bool.false_eq_true] at h3
          · have c_12 : nI 2 < bc F := Int32.not_le.mp c_12
            simp only [c_2, c_4, c_8, c_10, decide_eq_true c_12, Bool.not_true, Bool.not_false, Bool.and_true, Bool.true_and, Bool.and_false, Bool.false_and, Bool.or_true, Bool.true_or, Bool.or_false, Bool.false_or, Bool.and_self, Bool.or_self, Bool.true_eq_false, Bool.false_eq_true] at h2
    · have c_4 := bI_t c_4
      simp only [c_2, c_4, Bool.not_true, Bool.not_false, Bool.and_true, Bool.true_and, Bool.and_false, Bool.false_and, Bool.or_true, Bool.true_or, Bool.or_false, Bool.false_or, Bool.and_self, Bool.or_self, Bool.true_eq_false, Bool.false_eq_true] at h1
set_option maxHeartbeats 600000 in
set_option maxRecDepth 100000 in
theorem m_preview_x1 (l : Launch) (D : va_G) (ty : Nat → ClassId) (A : Nat → Prop) (u : Nat → Nat → Prop) (C : Nat → Nat → va_E) (ma : Nat → Nat → Nat) (t0 mi : Nat) (g : Nat → Nat → Int32) (n1 n2 nL n4 n5 : Nat) (th : Int32) (rep bro : Nat → Nat → Int32) (hR : mR ty t0 g n1 n2 nL n4 n5 th rep bro u C ma) (y x F : Int32) (h1 : (bRd y || bNo n1 x) = true) : Met l yX12_preview wsX12_preview ({ frames := 7, cells := 0, slots := 0, locals := 192 }) (va_Pc [.ref (ma 0 0), .int y, .int x, .int F] (mI D ty A u C ma t0 mi)) (va_Qi (fun (v9 : Int32) (C2 : Nat → Nat → va_E) => v9 = nI 0 ∧ mR ty t0 g n1 n2 nL n4 n5 (nI 1) rep bro u C2 ma) (fun C2 t => mI D ty A u C2 ma t0 mi t) A) 0 0 A := by
  refine zMet (cc := cX12_preview) (maxL := 4) (ret := (some .int)) (by decide) rfl (Nat.le_of_ble_eq_true rfl) ?_
  intro p e s m below meth c hx hb hr hts hown hlocks hml hB ls hl
  obtain ⟨hM, hK, hMS⟩ := hB
  have hS : va_S A s.heap s.heap [] := va_S.rf
  have hbn := hR.I.b1
  have hbs := hR.I.b2
  have hbl := hR.I.bL
  have hbc := hR.I.b4
  have hbr := hR.I.b5
  have hl : lv_has ls 4 [(0, .ref (ma 0 0)), (1, .int y), (2, .int x), (3, .int F)] := hl
  refine lv_aload_n hx hb dX12_preview_0 rfl (lv_at hl 0 rfl) ?_
  refine lv_iload_n hx hb dX12_preview_1 rfl (lv_at hl 1 rfl) ?_
  refine zcSi (As := [.int y]) (rest := [.ref (ma 0 0)]) ⟨hx, hb, hml, hown, hts⟩ (c_X12_isNoReader l _ y) (cwS 1 hts gX12_preview_X12_isNoReader rfl rfl rfl (by decide +kernel) ⟨Nat.le_of_ble_eq_true rfl, Nat.le_of_ble_eq_true rfl⟩) (B := fun _ => True) (fun _ _ _ _ _ => trivial) (fun _ _ _ => trivial) rfl hl.1 rfl (Nat.le_of_ble_eq_true rfl) dX12_preview_2 ⟨Nat.le_of_ble_eq_true rfl, Nat.le_of_ble_eq_true rfl⟩ (fun r_1 hr_1 => ?_)
  subst hr_1
  refine lv_if_ne (tgt := 16) hx hb dX12_preview_5 (by decide) (fun c_2 => ?_) (fun c_2 => ?_)
  · have c_2 := bI_t c_2
    refine lv_iconst (v := nI 1) hx hb dX12_preview_16 (by decide) ?_
    refine zeq (show nI 1 = bI true from rfl) ?_
    refine lv_goto (tgt := 21) hx hb dX12_preview_17 (by decide) ?_
    refine lv_iconst (v := nI 1) hx hb dX12_preview_21 (by decide) ?_
    refine va_calli (va_runV (As := [.int (bI true), .int (nI 1)]) (rest := []) ⟨hx, hb, hml, hown, hts⟩ (c_X12_start_t l D ty A u C ma t0 mi g n1 n2 nL n4 n5 th rep bro hR 1 (by omega) (by omega)) (cwV 2 hts gX12_preview_X12_start rfl rfl rfl (by decide +kernel) ⟨Nat.le_of_ble_eq_true rfl, Nat.le_of_ble_eq_true rfl⟩) ⟨zBl mI_blind, (va_recv hK (hM.Pa hR.o.1 rfl hR.o.2) (ci := 13) (q0 := 0) rfl rfl), fun U h1 h2 => ⟨rfl, mI_pre hM hK hMS hS U h1 h2⟩⟩ rfl rfl hl.1 rfl (lv_room (Nat.le_of_ble_eq_true rfl)) dX12_preview_22 ⟨Nat.le_of_ble_eq_true rfl, Nat.le_of_ble_eq_true rfl⟩) hS (fun _ _ h => h) (fun _ h => h) (fun r_4 C_3 t H1 locs ht hvm hw hB9 hz1 hk1 hS => ?_)
    obtain ⟨hr_4, hR_5⟩ := hw
    obtain ⟨hM, -, -⟩ := hB9
    rw [ht] at hM
    clear hk1 hz1 hvm ht
    clear t
    generalize H1 = H at hM hS ⊢
    subst hr_4
    refine lv_if_ne (tgt := 81) hx hb dX12_preview_25 (by decide) (fun c_6 => ?_) (fun c_6 => ?_)
    · have c_6 := bI_t c_6
      refine lv_iconst (v := nI 0) hx hb dX12_preview_81 (by decide) ?_
      exact W.iret (v := nI 0) hx hb hr (fun t ht hW => ⟨⟨_, C_3, rfl, ⟨rfl, hR_5⟩, mI_pre hM hK hMS hS t ht hW⟩, hS.F ht⟩) hS.2.2 dX12_preview_82
    · have c_6 := bI_f c_6
      cases c_6
  · have c_2 := bI_f c_2
    refine lv_aload_n hx hb dX12_preview_8 rfl (lv_at hl 0 rfl) ?_
    refine lv_iload_n hx hb dX12_preview_9 rfl (lv_at hl 2 rfl) ?_
    refine zcVi (As := [.int x]) (rest := [.ref (ma 0 0)]) ⟨hx, hb, hml, hown, hts⟩ (c_X12_isNo l D ty A u C ma t0 mi g n1 n2 nL n4 n5 th rep bro hR x) (cwV 1 hts gX12_preview_X12_isNo rfl rfl rfl (by decide +kernel) ⟨Nat.le_of_ble_eq_true rfl, Nat.le_of_ble_eq_true rfl⟩) mI_blind (mI_pre hM hK hMS hS) (va_recv hK (hM.Pa hR.o.1 rfl hR.o.2) (ci := 13) (q0 := 0) rfl rfl) rfl hl.1 rfl (Nat.le_of_ble_eq_true rfl) dX12_preview_10 ⟨Nat.le_of_ble_eq_true rfl, Nat.le_of_ble_eq_true rfl⟩ (fun r_7 hr_7 => ?_)
    subst hr_7
    refine lv_if_eq (tgt := 20) hx hb dX12_preview_13 (by decide) (fun c_8 => ?_) (fun c_8 => ?_)
    · have c_8 := bI_f c_8
      simp only [c_2, c_8, Bool.not_true, Bool.not_false, Bool.and_true, Bool.true_and, Bool.and_false, Bool.false_and, Bool.or_true, Bool.true_or, Bool.or_false, Bool.false_or, Bool.and_self, Bool.or_self, Bool.true_eq_false, Bool.false_eq_true] at h1
    · have c_8 := bI_t c_8
      refine lv_iconst (v := nI 1) hx hb dX12_preview_16 (by decide) ?_
      refine zeq (show nI 1 = bI true from rfl) ?_
      refine lv_goto (tgt := 21) hx hb dX12_preview_17 (by decide) ?_
      refine lv_iconst (v := nI 1) hx hb dX12_preview_21 (by decide) ?_
      refine va_calli (va_runV (As := [.int (bI true), .int (nI 1)]) (rest := []) ⟨hx, hb, hml, hown, hts⟩ (c_X12_start_t l D ty A u C ma t0 mi g n1 n2 nL n4 n5 th rep bro hR 1 (by omega) (by omega)) (cwV 2 hts gX12_preview_X12_start rfl rfl rfl (by decide +kernel) ⟨Nat.le_of_ble_eq_true rfl, Nat.le_of_ble_eq_true rfl⟩) ⟨zBl mI_blind, (va_recv hK (hM.Pa hR.o.1 rfl hR.o.2) (ci := 13) (q0 := 0) rfl rfl), fun U h1 h2 => ⟨rfl, mI_pre hM hK hMS hS U h1 h2⟩⟩ rfl rfl hl.1 rfl (lv_room (Nat.le_of_ble_eq_true rfl)) dX12_preview_22 ⟨Nat.le_of_ble_eq_true rfl, Nat.le_of_ble_eq_true rfl⟩) hS (fun _ _ h => h) (fun _ h => h) (fun r_10 C_9 t H1 locs ht hvm hw hB9 hz1 hk1 hS => ?_)
      obtain ⟨hr_10, hR_11⟩ := hw
      obtain ⟨hM, -, -⟩ := hB9
      rw [ht] at hM
      clear hk1 hz1 hvm ht
      clear t
      generalize H1 = H at hM hS ⊢
      subst hr_10
      refine lv_if_ne (tgt := 81) hx hb dX12_preview_25 (by decide) (fun c_12 => ?_) (fun c_12 => ?_)
      · have c_12 := bI_t c_12
        refine lv_iconst (v := nI 0) hx hb dX12_preview_81 (by decide) ?_
        exact W.iret (v := nI 0) hx hb hr (fun t ht hW => ⟨⟨_, C_9, rfl, ⟨rfl, hR_11⟩, mI_pre hM hK hMS hS t ht hW⟩, hS.F ht⟩) hS.2.2 dX12_preview_82
      · have c_12 := bI_f c_12
        cases c_12
set_option maxHeartbeats 600000 in
set_option maxRecDepth 100000 in
theorem m_preview_x2 (l : Launch) (D : va_G) (ty : Nat → ClassId) (A : Nat → Prop) (u : Nat → Nat → Prop) (C : Nat → Nat → va_E) (ma : Nat → Nat → Nat) (t0 mi : Nat) (g : Nat → Nat → Int32) (n1 n2 nL n4 n5 : Nat) (th : Int32) (rep bro : Nat → Nat → Int32) (hR : mR ty t0 g n1 n2 nL n4 n5 th rep bro u C ma) (R i : Nat) (hr6 : R < 6) (hi : i < n1) (F : Int32) (h2 : (bFds g i F || decide (nI 2 < bc F)) = true) : Met l yX12_preview wsX12_preview ({ frames := 7, cells := 0, slots := 0, locals := 192 }) (va_Pc [.ref (ma 0 0), .int (nI R), .int (nI i), .int F] (mI D ty A u C ma t0 mi)) (va_Qi (fun (v9 : Int32) (C2 : Nat → Nat → va_E) => v9 = nI 0 ∧ mR ty t0 g n1 n2 nL n4 n5 (nI 2) rep bro u C2 ma) (fun C2 t => mI D ty A u C2 ma t0 mi t) A) 0 0 A := by
  refine zMet (cc := cX12_preview) (maxL := 4) (ret := (some .int)) (by decide) rfl (Nat.le_of_ble_eq_true rfl) ?_
  intro p e s m below meth c hx hb hr hts hown hlocks hml hB ls hl
  obtain ⟨hM, hK, hMS⟩ := hB
  have hS : va_S A s.heap s.heap [] := va_S.rf
  have hbn := hR.I.b1
  have hbs := hR.I.b2
  have hbl := hR.I.bL
  have hbc := hR.I.b4
  have hbr := hR.I.b5
  have h1 : (bRd (nI R) || bNo n1 (nI i)) = false := by rw [bRd_ok hr6, bNo_ok hR.I.b1 hi]; rfl
  have hl : lv_has ls 4 [(0, .ref (ma 0 0)), (1, .int (nI R)), (2, .int (nI i)), (3, .int F)] := hl
  refine lv_aload_n hx hb dX12_preview_0 rfl (lv_at hl 0 rfl) ?_
  refine lv_iload_n hx hb dX12_preview_1 rfl (lv_at hl 1 rfl) ?_
  refine zcSi (As := [.int (nI R)]) (rest := [.ref (ma 0 0)]) ⟨hx, hb, hml, hown, hts⟩ (c_X12_isNoReader l _ (nI R)) (cwS 1 hts gX12_preview_X12_isNoReader rfl rfl rfl (by decide +kernel) ⟨Nat.le_of_ble_eq_true rfl, Nat.le_of_ble_eq_true rfl⟩) (B := fun _ => True) (fun _ _ _ _ _ => trivial) (fun _ _ _ => trivial) rfl hl.1 rfl (Nat.le_of_ble_eq_true rfl) dX12_preview_2 ⟨Nat.le_of_ble_eq_true rfl, Nat.le_of_ble_eq_true rfl⟩ (fun r_1 hr_1 => ?_)
  subst hr_1
  refine lv_if_ne (tgt := 16) hx hb dX12_preview_5 (by decide) (fun c_2 => ?_) (fun c_2 => ?_)
  · have c_2 := bI_t c_2
    simp only [c_2, Bool.not_true, Bool.not_false, Bool.and_true, Bool.true_and, Bool.and_false, Bool.false_and, Bool.or_true, Bool.true_or, Bool.or_false, Bool.false_or, Bool.and_self, Bool.or_self, Bool.true_eq_false, Bool.false_eq_true] at h1
  · have c_2 := bI_f c_2
    refine lv_aload_n hx hb dX12_preview_8 rfl (lv_at hl 0 rfl) ?_
    refine lv_iload_n hx hb dX12_preview_9 rfl (lv_at hl 2 rfl) ?_
    refine zcVi (As := [.int (nI i)]) (rest := [.ref (ma 0 0)]) ⟨hx, hb, hml, hown, hts⟩ (c_X12_isNo l D ty A u C ma t0 mi g n1 n2 nL n4 n5 th rep bro hR (nI i)) (cwV 1 hts gX12_preview_X12_isNo rfl rfl rfl (by decide +kernel) ⟨Nat.le_of_ble_eq_true rfl, Nat.le_of_ble_eq_true rfl⟩) mI_blind (mI_pre hM hK hMS hS) (va_recv hK (hM.Pa hR.o.1 rfl hR.o.2) (ci := 13) (q0 := 0) rfl rfl) rfl hl.1 rfl (Nat.le_of_ble_eq_true rfl) dX12_preview_10 ⟨Nat.le_of_ble_eq_true rfl, Nat.le_of_ble_eq_true rfl⟩ (fun r_3 hr_3 => ?_)
    subst hr_3
    refine lv_if_eq (tgt := 20) hx hb dX12_preview_13 (by decide) (fun c_4 => ?_) (fun c_4 => ?_)
    · have c_4 := bI_f c_4
      refine lv_iconst (v := nI 0) hx hb dX12_preview_20 (by decide) ?_
      refine zeq (show nI 0 = bI false from rfl) ?_
      refine lv_iconst (v := nI 1) hx hb dX12_preview_21 (by decide) ?_
      refine va_calli (va_runV (As := [.int (bI false), .int (nI 1)]) (rest := []) ⟨hx, hb, hml, hown, hts⟩ (c_X12_start_f l D ty A u C ma t0 mi g n1 n2 nL n4 n5 th rep bro hR 1 (by omega) (by omega)) (cwV 2 hts gX12_preview_X12_start rfl rfl rfl (by decide +kernel) ⟨Nat.le_of_ble_eq_true rfl, Nat.le_of_ble_eq_true rfl⟩) ⟨zBl mI_blind, (va_recv hK (hM.Pa hR.o.1 rfl hR.o.2) (ci := 13) (q0 := 0) rfl rfl), fun U h1 h2 => ⟨rfl, mI_pre hM hK hMS hS U h1 h2⟩⟩ rfl rfl hl.1 rfl (lv_room (Nat.le_of_ble_eq_true rfl)) dX12_preview_22 ⟨Nat.le_of_ble_eq_true rfl, Nat.le_of_ble_eq_true rfl⟩) hS (fun _ _ h => h) (fun _ h => h) (fun r_6 C_5 t H1 locs ht hvm hw hB9 hz1 hk1 hS => ?_)
      obtain ⟨hr_6, hR_7⟩ := hw
      obtain ⟨hM, -, -⟩ := hB9
      rw [ht] at hM
      clear hk1 hz1 hvm ht
      clear t
      generalize H1 = H at hM hS ⊢
      subst hr_6
      refine lv_if_ne (tgt := 81) hx hb dX12_preview_25 (by decide) (fun c_8 => ?_) (fun c_8 => ?_)
      · have c_8 := bI_t c_8
        cases c_8
      · have c_8 := bI_f c_8
        refine lv_aload_n hx hb dX12_preview_28 rfl (lv_at hl 0 rfl) ?_
        refine lv_aload_n hx hb dX12_preview_29 rfl (lv_at hl 0 rfl) ?_
        refine lv_iload_n hx hb dX12_preview_30 rfl (lv_at hl 2 rfl) ?_
        refine lv_iload_n hx hb dX12_preview_31 rfl (lv_at hl 3 rfl) ?_
        refine zcVi (As := [.int (nI i), .int F]) (rest := [.ref (ma 0 0)]) ⟨hx, hb, hml, hown, hts⟩ (c_X12_isNoFields l D ty A u C_5 ma t0 mi g n1 n2 nL n4 n5 (nI 0) rep bro hR_7 i (by omega) F) (cwV 2 hts gX12_preview_X12_isNoFields rfl rfl rfl (by decide +kernel) ⟨Nat.le_of_ble_eq_true rfl, Nat.le_of_ble_eq_true rfl⟩) mI_blind (mI_pre hM hK hMS hS) (va_recv hK (hM.Pa hR_7.o.1 rfl hR_7.o.2) (ci := 13) (q0 := 0) rfl rfl) rfl hl.1 rfl (Nat.le_of_ble_eq_true rfl) dX12_preview_32 ⟨Nat.le_of_ble_eq_true rfl, Nat.le_of_ble_eq_true rfl⟩ (fun r_9 hr_9 => ?_)
        subst hr_9
        refine lv_if_ne (tgt := 46) hx hb dX12_preview_35 (by decide) (fun c_10 => ?_) (fun c_10 => ?_)
        · have c_10 := bI_t c_10
          refine lv_iconst (v := nI 1) hx hb dX12_preview_46 (by decide) ?_
          refine zeq (show nI 1 = bI true from rfl) ?_
          refine lv_goto (tgt := 51) hx hb dX12_preview_47 (by decide) ?_
          refine lv_iconst (v := nI 2) hx hb dX12_preview_51 (by decide) ?_
          refine va_calli (va_runV (As := [.int (bI true), .int (nI 2)]) (rest := []) ⟨hx, hb, hml, hown, hts⟩ (c_X12_refuse_t l D ty A u C_5 ma t0 mi g n1 n2 nL n4 n5 (nI 0) rep bro hR_7 rfl 2 (by omega) (by omega)) (cwV 2 hts gX12_preview_X12_refuse rfl rfl rfl (by decide +kernel) ⟨Nat.le_of_ble_eq_true rfl, Nat.le_of_ble_eq_true rfl⟩) ⟨zBl mI_blind, (va_recv hK (hM.Pa hR_7.o.1 rfl hR_7.o.2) (ci := 13) (q0 := 0) rfl rfl), fun U h1 h2 => ⟨rfl, mI_pre hM hK hMS hS U h1 h2⟩⟩ rfl rfl hl.1 rfl (lv_room (Nat.le_of_ble_eq_true rfl)) dX12_preview_52 ⟨Nat.le_of_ble_eq_true rfl, Nat.le_of_ble_eq_true rfl⟩) hS (fun _ _ h => h) (fun _ h => h) (fun r_12 C_11 t H1 locs ht hvm hw hB9 hz1 hk1 hS => ?_)
          obtain ⟨hr_12, hR_13⟩ := hw
          obtain ⟨hM, -, -⟩ := hB9
          rw [ht] at hM
          clear hk1 hz1 hvm ht
          clear t
          generalize H1 = H at hM hS ⊢
          subst hr_12
          refine lv_if_ne (tgt := 81) hx hb dX12_preview_55 (by decide) (fun c_14 => ?_) (fun c_14 => ?_)
          · have c_14 := bI_t c_14
            refine lv_iconst (v := nI 0) hx hb dX12_preview_81 (by decide) ?_
            exact W.iret (v := nI 0) hx hb hr (fun t ht hW => ⟨⟨_, C_11, rfl, ⟨rfl, hR_13⟩, mI_pre hM hK hMS hS t ht hW⟩, hS.F ht⟩) hS.2.2 dX12_preview_82
          · have c_14 := bI_f c_14
            cases c_14
        · have c_10 := bI_f c_10
          refine lv_iload_n hx hb dX12_preview_38 rfl (lv_at hl 3 rfl) ?_
          refine zcSi (As := [.int F]) (rest := [.ref (ma 0 0)]) ⟨hx, hb, hml, hown, hts⟩ (c_J6_bitCount l _ F) (va_cwS 1 hts gX12_preview_J6_bitCount_0f7a4 rfl rfl rfl (by decide +kernel) ⟨Nat.le_of_ble_eq_true rfl, Nat.le_of_ble_eq_true rfl⟩) (B := fun _ => True) (fun _ _ _ _ _ => trivial) (fun _ _ _ => trivial) rfl hl.1 rfl (Nat.le_of_ble_eq_true rfl) dX12_preview_39 ⟨Nat.le_of_ble_eq_true rfl, Nat.le_of_ble_eq_true rfl⟩ (fun r_15 hr_15 => ?_)
          subst hr_15
          refine lv_iconst (v := nI 2) hx hb dX12_preview_42 (by decide) ?_
          refine lv_icmp_le (tgt := 50) hx hb dX12_preview_43 (by decide) (fun c_16 => ?_) (fun c_16 => ?_)
          · have c_16 : ¬ nI 2 < bc F := Int32.not_lt.mpr c_16
            simp only [c_2, c_4, c_8, c_10, decide_eq_false c_16, Bool.not_true, Bool.not_false, Bool.and_true, Bool.true_and, Bool.and_false, Bool.false_and, Bool.or_true, Bool.true_or, Bool.or_false, Bool.false_or, Bool.and_self, Bool.or_self, Bool.true_eq_false, Bool.false_eq_true] at h2
          · have c_16 : nI 2 < bc F := Int32.not_le.mp c_16
            refine lv_iconst (v := nI 1) hx hb dX12_preview_46 (by decide) ?_
            refine zeq (show nI 1 = bI true from rfl) ?_
            refine lv_goto (tgt := 51) hx hb dX12_preview_47 (by decide) ?_
            refine lv_iconst (v := nI 2) hx hb dX12_preview_51 (by decide) ?_
            refine va_calli (va_runV (As := [.int (bI true), .int (nI 2)]) (rest := []) ⟨hx, hb, hml, hown, hts⟩ (c_X12_refuse_t l D ty A u C_5 ma t0 mi g n1 n2 nL n4 n5 (nI 0) rep bro hR_7 rfl 2 (by omega) (by omega)) (cwV 2 hts gX12_preview_X12_refuse rfl rfl rfl (by decide +kernel) ⟨Nat.le_of_ble_eq_true rfl, Nat.le_of_ble_eq_true rfl⟩) ⟨zBl mI_blind, (va_recv hK (hM.Pa hR_7.o.1 rfl hR_7.o.2) (ci := 13) (q0 := 0) rfl rfl), fun U h1 h2 => ⟨rfl, mI_pre hM hK hMS hS U h1 h2⟩⟩ rfl rfl hl.1 rfl (lv_room (Nat.le_of_ble_eq_true rfl)) dX12_preview_52 ⟨Nat.le_of_ble_eq_true rfl, Nat.le_of_ble_eq_true rfl⟩) hS (fun _ _ h => h) (fun _ h => h) (fun r_18 C_17 t H1 locs ht hvm hw hB9 hz1 hk1 hS => ?_)
            obtain ⟨hr_18, hR_19⟩ := hw
            obtain ⟨hM, -, -⟩ := hB9
            rw [ht] at hM
            clear hk1 hz1 hvm ht
            clear t
            generalize H1 = H at hM hS ⊢
            subst hr_18
            refine lv_if_ne (tgt := 81) hx hb dX12_preview_55 (by decide) (fun c_20 => ?_) (fun c_20 => ?_)
            · have c_20 := bI_t c_20
              refine lv_iconst (v := nI 0) hx hb dX12_preview_81 (by decide) ?_
              exact W.iret (v := nI 0) hx hb hr (fun t ht hW => ⟨⟨_, C_17, rfl, ⟨rfl, hR_19⟩, mI_pre hM hK hMS hS t ht hW⟩, hS.F ht⟩) hS.2.2 dX12_preview_82
            · have c_20 := bI_f c_20
              cases c_20
    · have c_4 := bI_t c_4
      simp only [c_2, c_4, Bool.not_true, Bool.not_false, Bool.and_true, Bool.true_and, Bool.and_false, Bool.false_and, Bool.or_true, Bool.true_or, Bool.or_false, Bool.false_or, Bool.and_self, Bool.or_self, Bool.true_eq_false, Bool.false_eq_true] at h1
set_option maxHeartbeats 600000 in
set_option maxRecDepth 100000 in
theorem m_preview_x3 (l : Launch) (D : va_G) (ty : Nat → ClassId) (A : Nat → Prop) (u : Nat → Nat → Prop) (C : Nat → Nat → va_E) (ma : Nat → Nat → Nat) (t0 mi : Nat) (g : Nat → Nat → Int32) (n1 n2 nL n4 n5 : Nat) (th : Int32) (rep bro : Nat → Nat → Int32) (hR : mR ty t0 g n1 n2 nL n4 n5 th rep bro u C ma) (R i : Nat) (hr6 : R < 6) (hi : i < n1) (F : Int32) (h2 : (bFds g i F || decide (nI 2 < bc F)) = false) (h3 : (!(!decide (nV g i = 0) && mayB g i (g 6 (R * 8 + i) ||| F) (openT g n4 (nI R) (nI i)))) = true) : Met l yX12_preview wsX12_preview ({ frames := 7, cells := 0, slots := 0, locals := 192 }) (va_Pc [.ref (ma 0 0), .int (nI R), .int (nI i), .int F] (mI D ty A u C ma t0 mi)) (va_Qi (fun (v9 : Int32) (C2 : Nat → Nat → va_E) => v9 = nI 0 ∧ mR ty t0 g n1 n2 nL n4 n5 (nI 3) rep bro u C2 ma) (fun C2 t => mI D ty A u C2 ma t0 mi t) A) 0 0 A := by
  refine zMet (cc := cX12_preview) (maxL := 4) (ret := (some .int)) (by decide) rfl (Nat.le_of_ble_eq_true rfl) ?_
  intro p e s m below meth c hx hb hr hts hown hlocks hml hB ls hl
  obtain ⟨hM, hK, hMS⟩ := hB
  have hS : va_S A s.heap s.heap [] := va_S.rf
  have hbn := hR.I.b1
  have hbs := hR.I.b2
  have hbl := hR.I.bL
  have hbc := hR.I.b4
  have hbr := hR.I.b5
  have h1 : (bRd (nI R) || bNo n1 (nI i)) = false := by rw [bRd_ok hr6, bNo_ok hR.I.b1 hi]; rfl
  have hl : lv_has ls 4 [(0, .ref (ma 0 0)), (1, .int (nI R)), (2, .int (nI i)), (3, .int F)] := hl
  refine lv_aload_n hx hb dX12_preview_0 rfl (lv_at hl 0 rfl) ?_
  refine lv_iload_n hx hb dX12_preview_1 rfl (lv_at hl 1 rfl) ?_
  refine zcSi (As := [.int (nI R)]) (rest := [.ref (ma 0 0)]) ⟨hx, hb, hml, hown, hts⟩ (c_X12_isNoReader l _ (nI R)) (cwS 1 hts gX12_preview_X12_isNoReader rfl rfl rfl (by decide +kernel) ⟨Nat.le_of_ble_eq_true rfl, Nat.le_of_ble_eq_true rfl⟩) (B := fun _ => True) (fun _ _ _ _ _ => trivial) (fun _ _ _ => trivial) rfl hl.1 rfl (Nat.le_of_ble_eq_true rfl) dX12_preview_2 ⟨Nat.le_of_ble_eq_true rfl, Nat.le_of_ble_eq_true rfl⟩ (fun r_1 hr_1 => ?_)
  subst hr_1
  refine lv_if_ne (tgt := 16) hx hb dX12_preview_5 (by decide) (fun c_2 => ?_) (fun c_2 => ?_)
  · have c_2 := bI_t c_2
    simp only [c_2, Bool.not_true, Bool.not_false, Bool.and_true, Bool.true_and, Bool.and_false, Bool.false_and, Bool.or_true, Bool.true_or, Bool.or_false, Bool.false_or, Bool.and_self, Bool.or_self, Bool.true_eq_false, Bool.false_eq_true] at h1
  · have c_2 := bI_f c_2
    refine lv_aload_n hx hb dX12_preview_8 rfl (lv_at hl 0 rfl) ?_
    refine lv_iload_n hx hb dX12_preview_9 rfl (lv_at hl 2 rfl) ?_
    refine zcVi (As := [.int (nI i)]) (rest := [.ref (ma 0 0)]) ⟨hx, hb, hml, hown, hts⟩ (c_X12_isNo l D ty A u C ma t0 mi g n1 n2 nL n4 n5 th rep bro hR (nI i)) (cwV 1 hts gX12_preview_X12_isNo rfl rfl rfl (by decide +kernel) ⟨Nat.le_of_ble_eq_true rfl, Nat.le_of_ble_eq_true rfl⟩) mI_blind (mI_pre hM hK hMS hS) (va_recv hK (hM.Pa hR.o.1 rfl hR.o.2) (ci := 13) (q0 := 0) rfl rfl) rfl hl.1 rfl (Nat.le_of_ble_eq_true rfl) dX12_preview_10 ⟨Nat.le_of_ble_eq_true rfl, Nat.le_of_ble_eq_true rfl⟩ (fun r_3 hr_3 => ?_)
    subst hr_3
    refine lv_if_eq (tgt := 20) hx hb dX12_preview_13 (by decide) (fun c_4 => ?_) (fun c_4 => ?_)
    · have c_4 := bI_f c_4
      refine lv_iconst (v := nI 0) hx hb dX12_preview_20 (by decide) ?_
      refine zeq (show nI 0 = bI false from rfl) ?_
      refine lv_iconst (v := nI 1) hx hb dX12_preview_21 (by decide) ?_
      refine va_calli (va_runV (As := [.int (bI false), .int (nI 1)]) (rest := []) ⟨hx, hb, hml, hown, hts⟩ (c_X12_start_f l D ty A u C ma t0 mi g n1 n2 nL n4 n5 th rep bro hR 1 (by omega) (by omega)) (cwV 2 hts gX12_preview_X12_start rfl rfl rfl (by decide +kernel) ⟨Nat.le_of_ble_eq_true rfl, Nat.le_of_ble_eq_true rfl⟩) ⟨zBl mI_blind, (va_recv hK (hM.Pa hR.o.1 rfl hR.o.2) (ci := 13) (q0 := 0) rfl rfl), fun U h1 h2 => ⟨rfl, mI_pre hM hK hMS hS U h1 h2⟩⟩ rfl rfl hl.1 rfl (lv_room (Nat.le_of_ble_eq_true rfl)) dX12_preview_22 ⟨Nat.le_of_ble_eq_true rfl, Nat.le_of_ble_eq_true rfl⟩) hS (fun _ _ h => h) (fun _ h => h) (fun r_6 C_5 t H1 locs ht hvm hw hB9 hz1 hk1 hS => ?_)
      obtain ⟨hr_6, hR_7⟩ := hw
      obtain ⟨hM, -, -⟩ := hB9
      rw [ht] at hM
      clear hk1 hz1 hvm ht
      clear t
      generalize H1 = H at hM hS ⊢
      subst hr_6
      refine lv_if_ne (tgt := 81) hx hb dX12_preview_25 (by decide) (fun c_8 => ?_) (fun c_8 => ?_)
      · have c_8 := bI_t c_8
        cases c_8
      · have c_8 := bI_f c_8
        refine lv_aload_n hx hb dX12_preview_28 rfl (lv_at hl 0 rfl) ?_
        refine lv_aload_n hx hb dX12_preview_29 rfl (lv_at hl 0 rfl) ?_
        refine lv_iload_n hx hb dX12_preview_30 rfl (lv_at hl 2 rfl) ?_
        refine lv_iload_n hx hb dX12_preview_31 rfl (lv_at hl 3 rfl) ?_
        refine zcVi (As := [.int (nI i), .int F]) (rest := [.ref (ma 0 0)]) ⟨hx, hb, hml, hown, hts⟩ (c_X12_isNoFields l D ty A u C_5 ma t0 mi g n1 n2 nL n4 n5 (nI 0) rep bro hR_7 i (by omega) F) (cwV 2 hts gX12_preview_X12_isNoFields rfl rfl rfl (by decide +kernel) ⟨Nat.le_of_ble_eq_true rfl, Nat.le_of_ble_eq_true rfl⟩) mI_blind (mI_pre hM hK hMS hS) (va_recv hK (hM.Pa hR_7.o.1 rfl hR_7.o.2) (ci := 13) (q0 := 0) rfl rfl) rfl hl.1 rfl (Nat.le_of_ble_eq_true rfl) dX12_preview_32 ⟨Nat.le_of_ble_eq_true rfl, Nat.le_of_ble_eq_true rfl⟩ (fun r_9 hr_9 => ?_)
        subst hr_9
        refine lv_if_ne (tgt := 46) hx hb dX12_preview_35 (by decide) (fun c_10 => ?_) (fun c_10 => ?_)
        · have c_10 := bI_t c_10
          simp only [c_2, c_4, c_8, c_10, Bool.not_true, Bool.not_false, Bool.and_true, Bool.true_and, Bool.and_false, Bool.false_and, Bool.or_true, Bool.true_or, Bool.or_false, Bool.false_or, Bool.and_self, Bool.or_self, Bool.true_eq_false, Bool.false_eq_true] at h2
        · have c_10 := bI_f c_10
          refine lv_iload_n hx hb dX12_preview_38 rfl (lv_at hl 3 rfl) ?_
          refine zcSi (As := [.int F]) (rest := [.ref (ma 0 0)]) ⟨hx, hb, hml, hown, hts⟩ (c_J6_bitCount l _ F) (va_cwS 1 hts gX12_preview_J6_bitCount_0f7a4 rfl rfl rfl (by decide +kernel) ⟨Nat.le_of_ble_eq_true rfl, Nat.le_of_ble_eq_true rfl⟩) (B := fun _ => True) (fun _ _ _ _ _ => trivial) (fun _ _ _ => trivial) rfl hl.1 rfl (Nat.le_of_ble_eq_true rfl) dX12_preview_39 ⟨Nat.le_of_ble_eq_true rfl, Nat.le_of_ble_eq_true rfl⟩ (fun r_11 hr_11 => ?_)
          subst hr_11
          refine lv_iconst (v := nI 2) hx hb dX12_preview_42 (by decide) ?_
          refine lv_icmp_le (tgt := 50) hx hb dX12_preview_43 (by decide) (fun c_12 => ?_) (fun c_12 => ?_)
          · have c_12 : ¬ nI 2 < bc F := Int32.not_lt.mpr c_12
            refine lv_iconst (v := nI 0) hx hb dX12_preview_50 (by decide) ?_
            refine zeq (show nI 0 = bI false from rfl) ?_
            refine lv_iconst (v := nI 2) hx hb dX12_preview_51 (by decide) ?_
            refine zcVi (As := [.int (bI false), .int (nI 2)]) (rest := []) ⟨hx, hb, hml, hown, hts⟩ (c_X12_refuse_f l D ty A u C_5 ma t0 mi g n1 n2 nL n4 n5 (nI 0) rep bro hR_7 rfl (nI 2)) (cwV 2 hts gX12_preview_X12_refuse rfl rfl rfl (by decide +kernel) ⟨Nat.le_of_ble_eq_true rfl, Nat.le_of_ble_eq_true rfl⟩) mI_blind (mI_pre hM hK hMS hS) (va_recv hK (hM.Pa hR_7.o.1 rfl hR_7.o.2) (ci := 13) (q0 := 0) rfl rfl) rfl hl.1 rfl (Nat.le_of_ble_eq_true rfl) dX12_preview_52 ⟨Nat.le_of_ble_eq_true rfl, Nat.le_of_ble_eq_true rfl⟩ (fun r_13 hr_13 => ?_)
            subst hr_13
            refine lv_if_ne (tgt := 81) hx hb dX12_preview_55 (by decide) (fun c_14 => ?_) (fun c_14 => ?_)
            · have c_14 := bI_t c_14
              cases c_14
            · have c_14 := bI_f c_14
              refine lv_aload_n hx hb dX12_preview_58 rfl (lv_at hl 0 rfl) ?_
              refine lv_aload_n hx hb dX12_preview_59 rfl (lv_at hl 0 rfl) ?_
              refine lv_iload_n hx hb dX12_preview_60 rfl (lv_at hl 1 rfl) ?_
              refine lv_iload_n hx hb dX12_preview_61 rfl (lv_at hl 2 rfl) ?_
              refine lv_iload_n hx hb dX12_preview_62 rfl (lv_at hl 3 rfl) ?_
              refine zcVi (As := [.int (nI R), .int (nI i), .int F]) (rest := [.ref (ma 0 0)]) ⟨hx, hb, hml, hown, hts⟩ (c_X12_canPreview l D ty A u C_5 ma t0 mi g n1 n2 nL n4 n5 (nI 0) rep bro hR_7 R i (by omega) (by omega) F) (cwV 3 hts gX12_preview_X12_canPreview rfl rfl rfl (by decide +kernel) ⟨Nat.le_of_ble_eq_true rfl, Nat.le_of_ble_eq_true rfl⟩) mI_blind (mI_pre hM hK hMS hS) (va_recv hK (hM.Pa hR_7.o.1 rfl hR_7.o.2) (ci := 13) (q0 := 0) rfl rfl) rfl hl.1 rfl (Nat.le_of_ble_eq_true rfl) dX12_preview_63 ⟨Nat.le_of_ble_eq_true rfl, Nat.le_of_ble_eq_true rfl⟩ (fun r_15 hr_15 => ?_)
              subst hr_15
              refine lv_if_ne (tgt := 73) hx hb dX12_preview_66 (by decide) (fun c_16 => ?_) (fun c_16 => ?_)
              · have c_16 := bI_t c_16
                simp only [c_2, c_4, c_8, c_10, decide_eq_false c_12, c_14, c_16, Bool.not_true, Bool.not_false, Bool.and_true, Bool.true_and, Bool.and_false, Bool.false_and, Bool.or_true, Bool.true_or, Bool.or_false, Bool.false_or, Bool.and_self, Bool.or_self, Bool.true_eq_false, Bool.false_eq_true] at h3
              · have c_16 := bI_f c_16
                refine lv_iconst (v := nI 1) hx hb dX12_preview_69 (by decide) ?_
                refine zeq (show nI 1 = bI true from rfl) ?_
                refine lv_goto (tgt := 74) hx hb dX12_preview_70 (by decide) ?_
                refine lv_iconst (v := nI 3) hx hb dX12_preview_74 (by decide) ?_
                refine va_calli (va_runV (As := [.int (bI true), .int (nI 3)]) (rest := []) ⟨hx, hb, hml, hown, hts⟩ (c_X12_refuse_t l D ty A u C_5 ma t0 mi g n1 n2 nL n4 n5 (nI 0) rep bro hR_7 rfl 3 (by omega) (by omega)) (cwV 2 hts gX12_preview_X12_refuse rfl rfl rfl (by decide +kernel) ⟨Nat.le_of_ble_eq_true rfl, Nat.le_of_ble_eq_true rfl⟩) ⟨zBl mI_blind, (va_recv hK (hM.Pa hR_7.o.1 rfl hR_7.o.2) (ci := 13) (q0 := 0) rfl rfl), fun U h1 h2 => ⟨rfl, mI_pre hM hK hMS hS U h1 h2⟩⟩ rfl rfl hl.1 rfl (lv_room (Nat.le_of_ble_eq_true rfl)) dX12_preview_75 ⟨Nat.le_of_ble_eq_true rfl, Nat.le_of_ble_eq_true rfl⟩) hS (fun _ _ h => h) (fun _ h => h) (fun r_18 C_17 t H1 locs ht hvm hw hB9 hz1 hk1 hS => ?_)
                obtain ⟨hr_18, hR_19⟩ := hw
                obtain ⟨hM, -, -⟩ := hB9
                rw [ht] at hM
                clear hk1 hz1 hvm ht
                clear t
                generalize H1 = H at hM hS ⊢
                subst hr_18
                refine lv_if_eq (tgt := 83) hx hb dX12_preview_78 (by decide) (fun c_20 => ?_) (fun c_20 => ?_)
                · have c_20 := bI_f c_20
                  cases c_20
                · have c_20 := bI_t c_20
                  refine lv_iconst (v := nI 0) hx hb dX12_preview_81 (by decide) ?_
                  exact W.iret (v := nI 0) hx hb hr (fun t ht hW => ⟨⟨_, C_17, rfl, ⟨rfl, hR_19⟩, mI_pre hM hK hMS hS t ht hW⟩, hS.F ht⟩) hS.2.2 dX12_preview_82
          · have c_12 : nI 2 < bc F := Int32.not_le.mp c_12
            simp only [c_2, c_4, c_8, c_10, decide_eq_true c_12, Bool.not_true, Bool.not_false, Bool.and_true, Bool.true_and, Bool.and_false, Bool.false_and, Bool.or_true, Bool.true_or, Bool.or_false, Bool.false_or, Bool.and_self, Bool.or_self, Bool.true_eq_false, Bool.false_eq_true] at h2
    · have c_4 := bI_t c_4
      simp only [c_2, c_4, Bool.not_true, Bool.not_false, Bool.and_true, Bool.true_and, Bool.and_false, Bool.false_and, Bool.or_true, Bool.true_or, Bool.or_false, Bool.false_or, Bool.and_self, Bool.or_self, Bool.true_eq_false, Bool.false_eq_true] at h1
set_option maxHeartbeats 600000 in
set_option maxRecDepth 100000 in
theorem c_X12_isNoHarm_f (l : Launch) (D : va_G) (ty : Nat → ClassId) (A : Nat → Prop) (u : Nat → Nat → Prop) (C : Nat → Nat → va_E) (ma : Nat → Nat → Nat) (t0 mi : Nat) (g : Nat → Nat → Int32) (n1 n2 nL n4 n5 : Nat) (th : Int32) (rep bro : Nat → Nat → Int32) (hR : mR ty t0 g n1 n2 nL n4 n5 th rep bro u C ma) (y v f x : Int32) (h1 : bVal g n1 y v f = false) (h2 : (!inB x (nI 1) (nI 100)) = false) : Met l yX12_isNoHarm wsX12_isNoHarm ({ frames := 8, cells := 0, slots := 0, locals := 205 }) (va_Pc [.ref (ma 0 0), .int y, .int v, .int f, .int x] (mI D ty A u C ma t0 mi)) (va_Qi (fun (v9 : Int32) (C2 : Nat → Nat → va_E) => v9 = bI false ∧ mR ty t0 g n1 n2 nL n4 n5 (nI 0) rep bro u C2 ma) (fun C2 t => mI D ty A u C2 ma t0 mi t) A) 0 0 A := by
  refine zMet (cc := cX12_isNoHarm) (maxL := 5) (ret := (some .boolean)) (by decide) rfl (Nat.le_of_ble_eq_true rfl) ?_
  intro p e s m below meth c hx hb hr hts hown hlocks hml hB ls hl
  obtain ⟨hM, hK, hMS⟩ := hB
  have hS : va_S A s.heap s.heap [] := va_S.rf
  have hbn := hR.I.b1
  have hbs := hR.I.b2
  have hbl := hR.I.bL
  have hbc := hR.I.b4
  have hbr := hR.I.b5
  have hl : lv_has ls 5 [(0, .ref (ma 0 0)), (1, .int y), (2, .int v), (3, .int f), (4, .int x)] := hl
  refine lv_aload_n hx hb dX12_isNoHarm_0 rfl (lv_at hl 0 rfl) ?_
  refine lv_aload_n hx hb dX12_isNoHarm_1 rfl (lv_at hl 0 rfl) ?_
  refine lv_iload_n hx hb dX12_isNoHarm_2 rfl (lv_at hl 1 rfl) ?_
  refine lv_iload_n hx hb dX12_isNoHarm_3 rfl (lv_at hl 2 rfl) ?_
  refine lv_iload_n hx hb dX12_isNoHarm_4 rfl (lv_at hl 3 rfl) ?_
  refine zcVi (As := [.int y, .int v, .int f]) (rest := [.ref (ma 0 0)]) ⟨hx, hb, hml, hown, hts⟩ (c_X12_isNoValue l D ty A u C ma t0 mi g n1 n2 nL n4 n5 th rep bro hR y v f) (cwV 3 hts gX12_isNoHarm_X12_isNoValue rfl rfl rfl (by decide +kernel) ⟨Nat.le_of_ble_eq_true rfl, Nat.le_of_ble_eq_true rfl⟩) mI_blind (mI_pre hM hK hMS hS) (va_recv hK (hM.Pa hR.o.1 rfl hR.o.2) (ci := 13) (q0 := 0) rfl rfl) rfl hl.1 rfl (Nat.le_of_ble_eq_true rfl) dX12_isNoHarm_5 ⟨Nat.le_of_ble_eq_true rfl, Nat.le_of_ble_eq_true rfl⟩ (fun r_1 hr_1 => ?_)
  subst hr_1
  refine zeq (show bI _ = bI false from by rw [h1]) ?_
  refine lv_iconst (v := nI 1) hx hb dX12_isNoHarm_8 (by decide) ?_
  refine va_calli (va_runV (As := [.int (bI false), .int (nI 1)]) (rest := []) ⟨hx, hb, hml, hown, hts⟩ (c_X12_start_f l D ty A u C ma t0 mi g n1 n2 nL n4 n5 th rep bro hR 1 (by omega) (by omega)) (cwV 2 hts gX12_isNoHarm_X12_start rfl rfl rfl (by decide +kernel) ⟨Nat.le_of_ble_eq_true rfl, Nat.le_of_ble_eq_true rfl⟩) ⟨zBl mI_blind, (va_recv hK (hM.Pa hR.o.1 rfl hR.o.2) (ci := 13) (q0 := 0) rfl rfl), fun U h1 h2 => ⟨rfl, mI_pre hM hK hMS hS U h1 h2⟩⟩ rfl rfl hl.1 rfl (lv_room (Nat.le_of_ble_eq_true rfl)) dX12_isNoHarm_9 ⟨Nat.le_of_ble_eq_true rfl, Nat.le_of_ble_eq_true rfl⟩) hS (fun _ _ h => h) (fun _ h => h) (fun r_3 C_2 t H1 locs ht hvm hw hB9 hz1 hk1 hS => ?_)
  obtain ⟨hr_3, hR_4⟩ := hw
  obtain ⟨hM, -, -⟩ := hB9
  rw [ht] at hM
  clear hk1 hz1 hvm ht
  clear t
  generalize H1 = H at hM hS ⊢
  subst hr_3
  refine lv_if_ne (tgt := 39) hx hb dX12_isNoHarm_12 (by decide) (fun c_5 => ?_) (fun c_5 => ?_)
  · have c_5 := bI_t c_5
    cases c_5
  · have c_5 := bI_f c_5
    refine lv_aload_n hx hb dX12_isNoHarm_15 rfl (lv_at hl 0 rfl) ?_
    refine lv_iload hx hb dX12_isNoHarm_16 (lv_at hl 4 rfl) ?_
    refine lv_iconst (v := nI 1) hx hb dX12_isNoHarm_18 (by decide) ?_
    refine lv_bipush (v := nI 100) hx hb dX12_isNoHarm_19 (by decide) ?_
    refine zcSi (As := [.int x, .int (nI 1), .int (nI 100)]) (rest := [.ref (ma 0 0)]) ⟨hx, hb, hml, hown, hts⟩ (c_X12_isIn l _ x (nI 1) (nI 100)) (cwS 3 hts gX12_isNoHarm_X12_isIn rfl rfl rfl (by decide +kernel) ⟨Nat.le_of_ble_eq_true rfl, Nat.le_of_ble_eq_true rfl⟩) (B := fun _ => True) (fun _ _ _ _ _ => trivial) (fun _ _ _ => trivial) rfl hl.1 rfl (Nat.le_of_ble_eq_true rfl) dX12_isNoHarm_21 ⟨Nat.le_of_ble_eq_true rfl, Nat.le_of_ble_eq_true rfl⟩ (fun r_6 hr_6 => ?_)
    subst hr_6
    refine lv_if_ne (tgt := 31) hx hb dX12_isNoHarm_24 (by decide) (fun c_7 => ?_) (fun c_7 => ?_)
    · have c_7 := bI_t c_7
      refine lv_iconst (v := nI 0) hx hb dX12_isNoHarm_31 (by decide) ?_
      refine zeq (show nI 0 = bI false from rfl) ?_
      refine lv_iconst (v := nI 2) hx hb dX12_isNoHarm_32 (by decide) ?_
      refine zcVi (As := [.int (bI false), .int (nI 2)]) (rest := []) ⟨hx, hb, hml, hown, hts⟩ (c_X12_refuse_f l D ty A u C_2 ma t0 mi g n1 n2 nL n4 n5 (nI 0) rep bro hR_4 rfl (nI 2)) (cwV 2 hts gX12_isNoHarm_X12_refuse rfl rfl rfl (by decide +kernel) ⟨Nat.le_of_ble_eq_true rfl, Nat.le_of_ble_eq_true rfl⟩) mI_blind (mI_pre hM hK hMS hS) (va_recv hK (hM.Pa hR_4.o.1 rfl hR_4.o.2) (ci := 13) (q0 := 0) rfl rfl) rfl hl.1 rfl (Nat.le_of_ble_eq_true rfl) dX12_isNoHarm_33 ⟨Nat.le_of_ble_eq_true rfl, Nat.le_of_ble_eq_true rfl⟩ (fun r_8 hr_8 => ?_)
      subst hr_8
      refine lv_if_eq (tgt := 43) hx hb dX12_isNoHarm_36 (by decide) (fun c_9 => ?_) (fun c_9 => ?_)
      · have c_9 := bI_f c_9
        refine lv_iconst (v := nI 0) hx hb dX12_isNoHarm_43 (by decide) ?_
        refine zeq (show nI 0 = bI false from rfl) ?_
        exact W.zret (v := bI false) hx hb hr (bI_nar _) (fun t ht hW => ⟨⟨_, C_2, rfl, ⟨rfl, hR_4⟩, mI_pre hM hK hMS hS t ht hW⟩, hS.F ht⟩) hS.2.2 dX12_isNoHarm_44
      · have c_9 := bI_t c_9
        cases c_9
    · have c_7 := bI_f c_7
      simp only [c_5, c_7, Bool.not_true, Bool.not_false, Bool.and_true, Bool.true_and, Bool.and_false, Bool.false_and, Bool.or_true, Bool.true_or, Bool.or_false, Bool.false_or, Bool.and_self, Bool.or_self, Bool.true_eq_false, Bool.false_eq_true] at h2
set_option maxHeartbeats 600000 in
set_option maxRecDepth 100000 in
theorem c_X12_isNoHarm_x1 (l : Launch) (D : va_G) (ty : Nat → ClassId) (A : Nat → Prop) (u : Nat → Nat → Prop) (C : Nat → Nat → va_E) (ma : Nat → Nat → Nat) (t0 mi : Nat) (g : Nat → Nat → Int32) (n1 n2 nL n4 n5 : Nat) (th : Int32) (rep bro : Nat → Nat → Int32) (hR : mR ty t0 g n1 n2 nL n4 n5 th rep bro u C ma) (y v f x : Int32) (h1 : bVal g n1 y v f = true) : Met l yX12_isNoHarm wsX12_isNoHarm ({ frames := 8, cells := 0, slots := 0, locals := 205 }) (va_Pc [.ref (ma 0 0), .int y, .int v, .int f, .int x] (mI D ty A u C ma t0 mi)) (va_Qi (fun (v9 : Int32) (C2 : Nat → Nat → va_E) => v9 = bI true ∧ mR ty t0 g n1 n2 nL n4 n5 (nI 1) rep bro u C2 ma) (fun C2 t => mI D ty A u C2 ma t0 mi t) A) 0 0 A := by
  refine zMet (cc := cX12_isNoHarm) (maxL := 5) (ret := (some .boolean)) (by decide) rfl (Nat.le_of_ble_eq_true rfl) ?_
  intro p e s m below meth c hx hb hr hts hown hlocks hml hB ls hl
  obtain ⟨hM, hK, hMS⟩ := hB
  have hS : va_S A s.heap s.heap [] := va_S.rf
  have hbn := hR.I.b1
  have hbs := hR.I.b2
  have hbl := hR.I.bL
  have hbc := hR.I.b4
  have hbr := hR.I.b5
  have hl : lv_has ls 5 [(0, .ref (ma 0 0)), (1, .int y), (2, .int v), (3, .int f), (4, .int x)] := hl
  refine lv_aload_n hx hb dX12_isNoHarm_0 rfl (lv_at hl 0 rfl) ?_
  refine lv_aload_n hx hb dX12_isNoHarm_1 rfl (lv_at hl 0 rfl) ?_
  refine lv_iload_n hx hb dX12_isNoHarm_2 rfl (lv_at hl 1 rfl) ?_
  refine lv_iload_n hx hb dX12_isNoHarm_3 rfl (lv_at hl 2 rfl) ?_
  refine lv_iload_n hx hb dX12_isNoHarm_4 rfl (lv_at hl 3 rfl) ?_
  refine zcVi (As := [.int y, .int v, .int f]) (rest := [.ref (ma 0 0)]) ⟨hx, hb, hml, hown, hts⟩ (c_X12_isNoValue l D ty A u C ma t0 mi g n1 n2 nL n4 n5 th rep bro hR y v f) (cwV 3 hts gX12_isNoHarm_X12_isNoValue rfl rfl rfl (by decide +kernel) ⟨Nat.le_of_ble_eq_true rfl, Nat.le_of_ble_eq_true rfl⟩) mI_blind (mI_pre hM hK hMS hS) (va_recv hK (hM.Pa hR.o.1 rfl hR.o.2) (ci := 13) (q0 := 0) rfl rfl) rfl hl.1 rfl (Nat.le_of_ble_eq_true rfl) dX12_isNoHarm_5 ⟨Nat.le_of_ble_eq_true rfl, Nat.le_of_ble_eq_true rfl⟩ (fun r_1 hr_1 => ?_)
  subst hr_1
  refine zeq (show bI _ = bI true from by rw [h1]) ?_
  refine lv_iconst (v := nI 1) hx hb dX12_isNoHarm_8 (by decide) ?_
  refine va_calli (va_runV (As := [.int (bI true), .int (nI 1)]) (rest := []) ⟨hx, hb, hml, hown, hts⟩ (c_X12_start_t l D ty A u C ma t0 mi g n1 n2 nL n4 n5 th rep bro hR 1 (by omega) (by omega)) (cwV 2 hts gX12_isNoHarm_X12_start rfl rfl rfl (by decide +kernel) ⟨Nat.le_of_ble_eq_true rfl, Nat.le_of_ble_eq_true rfl⟩) ⟨zBl mI_blind, (va_recv hK (hM.Pa hR.o.1 rfl hR.o.2) (ci := 13) (q0 := 0) rfl rfl), fun U h1 h2 => ⟨rfl, mI_pre hM hK hMS hS U h1 h2⟩⟩ rfl rfl hl.1 rfl (lv_room (Nat.le_of_ble_eq_true rfl)) dX12_isNoHarm_9 ⟨Nat.le_of_ble_eq_true rfl, Nat.le_of_ble_eq_true rfl⟩) hS (fun _ _ h => h) (fun _ h => h) (fun r_3 C_2 t H1 locs ht hvm hw hB9 hz1 hk1 hS => ?_)
  obtain ⟨hr_3, hR_4⟩ := hw
  obtain ⟨hM, -, -⟩ := hB9
  rw [ht] at hM
  clear hk1 hz1 hvm ht
  clear t
  generalize H1 = H at hM hS ⊢
  subst hr_3
  refine lv_if_ne (tgt := 39) hx hb dX12_isNoHarm_12 (by decide) (fun c_5 => ?_) (fun c_5 => ?_)
  · have c_5 := bI_t c_5
    refine lv_iconst (v := nI 1) hx hb dX12_isNoHarm_39 (by decide) ?_
    refine zeq (show nI 1 = bI true from rfl) ?_
    refine lv_goto (tgt := 44) hx hb dX12_isNoHarm_40 (by decide) ?_
    exact W.zret (v := bI true) hx hb hr (bI_nar _) (fun t ht hW => ⟨⟨_, C_2, rfl, ⟨rfl, hR_4⟩, mI_pre hM hK hMS hS t ht hW⟩, hS.F ht⟩) hS.2.2 dX12_isNoHarm_44
  · have c_5 := bI_f c_5
    cases c_5
set_option maxHeartbeats 600000 in
set_option maxRecDepth 100000 in
theorem c_X12_isNoHarm_x2 (l : Launch) (D : va_G) (ty : Nat → ClassId) (A : Nat → Prop) (u : Nat → Nat → Prop) (C : Nat → Nat → va_E) (ma : Nat → Nat → Nat) (t0 mi : Nat) (g : Nat → Nat → Int32) (n1 n2 nL n4 n5 : Nat) (th : Int32) (rep bro : Nat → Nat → Int32) (hR : mR ty t0 g n1 n2 nL n4 n5 th rep bro u C ma) (y v f x : Int32) (h1 : bVal g n1 y v f = false) (h2 : (!inB x (nI 1) (nI 100)) = true) : Met l yX12_isNoHarm wsX12_isNoHarm ({ frames := 8, cells := 0, slots := 0, locals := 205 }) (va_Pc [.ref (ma 0 0), .int y, .int v, .int f, .int x] (mI D ty A u C ma t0 mi)) (va_Qi (fun (v9 : Int32) (C2 : Nat → Nat → va_E) => v9 = bI true ∧ mR ty t0 g n1 n2 nL n4 n5 (nI 2) rep bro u C2 ma) (fun C2 t => mI D ty A u C2 ma t0 mi t) A) 0 0 A := by
  refine zMet (cc := cX12_isNoHarm) (maxL := 5) (ret := (some .boolean)) (by decide) rfl (Nat.le_of_ble_eq_true rfl) ?_
  intro p e s m below meth c hx hb hr hts hown hlocks hml hB ls hl
  obtain ⟨hM, hK, hMS⟩ := hB
  have hS : va_S A s.heap s.heap [] := va_S.rf
  have hbn := hR.I.b1
  have hbs := hR.I.b2
  have hbl := hR.I.bL
  have hbc := hR.I.b4
  have hbr := hR.I.b5
  have hl : lv_has ls 5 [(0, .ref (ma 0 0)), (1, .int y), (2, .int v), (3, .int f), (4, .int x)] := hl
  refine lv_aload_n hx hb dX12_isNoHarm_0 rfl (lv_at hl 0 rfl) ?_
  refine lv_aload_n hx hb dX12_isNoHarm_1 rfl (lv_at hl 0 rfl) ?_
  refine lv_iload_n hx hb dX12_isNoHarm_2 rfl (lv_at hl 1 rfl) ?_
  refine lv_iload_n hx hb dX12_isNoHarm_3 rfl (lv_at hl 2 rfl) ?_
  refine lv_iload_n hx hb dX12_isNoHarm_4 rfl (lv_at hl 3 rfl) ?_
  refine zcVi (As := [.int y, .int v, .int f]) (rest := [.ref (ma 0 0)]) ⟨hx, hb, hml, hown, hts⟩ (c_X12_isNoValue l D ty A u C ma t0 mi g n1 n2 nL n4 n5 th rep bro hR y v f) (cwV 3 hts gX12_isNoHarm_X12_isNoValue rfl rfl rfl (by decide +kernel) ⟨Nat.le_of_ble_eq_true rfl, Nat.le_of_ble_eq_true rfl⟩) mI_blind (mI_pre hM hK hMS hS) (va_recv hK (hM.Pa hR.o.1 rfl hR.o.2) (ci := 13) (q0 := 0) rfl rfl) rfl hl.1 rfl (Nat.le_of_ble_eq_true rfl) dX12_isNoHarm_5 ⟨Nat.le_of_ble_eq_true rfl, Nat.le_of_ble_eq_true rfl⟩ (fun r_1 hr_1 => ?_)
  subst hr_1
  refine zeq (show bI _ = bI false from by rw [h1]) ?_
  refine lv_iconst (v := nI 1) hx hb dX12_isNoHarm_8 (by decide) ?_
  refine va_calli (va_runV (As := [.int (bI false), .int (nI 1)]) (rest := []) ⟨hx, hb, hml, hown, hts⟩ (c_X12_start_f l D ty A u C ma t0 mi g n1 n2 nL n4 n5 th rep bro hR 1 (by omega) (by omega)) (cwV 2 hts gX12_isNoHarm_X12_start rfl rfl rfl (by decide +kernel) ⟨Nat.le_of_ble_eq_true rfl, Nat.le_of_ble_eq_true rfl⟩) ⟨zBl mI_blind, (va_recv hK (hM.Pa hR.o.1 rfl hR.o.2) (ci := 13) (q0 := 0) rfl rfl), fun U h1 h2 => ⟨rfl, mI_pre hM hK hMS hS U h1 h2⟩⟩ rfl rfl hl.1 rfl (lv_room (Nat.le_of_ble_eq_true rfl)) dX12_isNoHarm_9 ⟨Nat.le_of_ble_eq_true rfl, Nat.le_of_ble_eq_true rfl⟩) hS (fun _ _ h => h) (fun _ h => h) (fun r_3 C_2 t H1 locs ht hvm hw hB9 hz1 hk1 hS => ?_)
  obtain ⟨hr_3, hR_4⟩ := hw
  obtain ⟨hM, -, -⟩ := hB9
  rw [ht] at hM
  clear hk1 hz1 hvm ht
  clear t
  generalize H1 = H at hM hS ⊢
  subst hr_3
  refine lv_if_ne (tgt := 39) hx hb dX12_isNoHarm_12 (by decide) (fun c_5 => ?_) (fun c_5 => ?_)
  · have c_5 := bI_t c_5
    cases c_5
  · have c_5 := bI_f c_5
    refine lv_aload_n hx hb dX12_isNoHarm_15 rfl (lv_at hl 0 rfl) ?_
    refine lv_iload hx hb dX12_isNoHarm_16 (lv_at hl 4 rfl) ?_
    refine lv_iconst (v := nI 1) hx hb dX12_isNoHarm_18 (by decide) ?_
    refine lv_bipush (v := nI 100) hx hb dX12_isNoHarm_19 (by decide) ?_
    refine zcSi (As := [.int x, .int (nI 1), .int (nI 100)]) (rest := [.ref (ma 0 0)]) ⟨hx, hb, hml, hown, hts⟩ (c_X12_isIn l _ x (nI 1) (nI 100)) (cwS 3 hts gX12_isNoHarm_X12_isIn rfl rfl rfl (by decide +kernel) ⟨Nat.le_of_ble_eq_true rfl, Nat.le_of_ble_eq_true rfl⟩) (B := fun _ => True) (fun _ _ _ _ _ => trivial) (fun _ _ _ => trivial) rfl hl.1 rfl (Nat.le_of_ble_eq_true rfl) dX12_isNoHarm_21 ⟨Nat.le_of_ble_eq_true rfl, Nat.le_of_ble_eq_true rfl⟩ (fun r_6 hr_6 => ?_)
    subst hr_6
    refine lv_if_ne (tgt := 31) hx hb dX12_isNoHarm_24 (by decide) (fun c_7 => ?_) (fun c_7 => ?_)
    · have c_7 := bI_t c_7
      simp only [c_5, c_7, Bool.not_true, Bool.not_false, Bool.and_true, Bool.true_and, Bool.and_false, Bool.false_and, Bool.or_true, Bool.true_or, Bool.or_false, Bool.false_or, Bool.and_self, Bool.or_self, Bool.true_eq_false, Bool.false_eq_true] at h2
    · have c_7 := bI_f c_7
      refine lv_iconst (v := nI 1) hx hb dX12_isNoHarm_27 (by decide) ?_
      refine zeq (show nI 1 = bI true from rfl) ?_
      refine lv_goto (tgt := 32) hx hb dX12_isNoHarm_28 (by decide) ?_
      refine lv_iconst (v := nI 2) hx hb dX12_isNoHarm_32 (by decide) ?_
      refine va_calli (va_runV (As := [.int (bI true), .int (nI 2)]) (rest := []) ⟨hx, hb, hml, hown, hts⟩ (c_X12_refuse_t l D ty A u C_2 ma t0 mi g n1 n2 nL n4 n5 (nI 0) rep bro hR_4 rfl 2 (by omega) (by omega)) (cwV 2 hts gX12_isNoHarm_X12_refuse rfl rfl rfl (by decide +kernel) ⟨Nat.le_of_ble_eq_true rfl, Nat.le_of_ble_eq_true rfl⟩) ⟨zBl mI_blind, (va_recv hK (hM.Pa hR_4.o.1 rfl hR_4.o.2) (ci := 13) (q0 := 0) rfl rfl), fun U h1 h2 => ⟨rfl, mI_pre hM hK hMS hS U h1 h2⟩⟩ rfl rfl hl.1 rfl (lv_room (Nat.le_of_ble_eq_true rfl)) dX12_isNoHarm_33 ⟨Nat.le_of_ble_eq_true rfl, Nat.le_of_ble_eq_true rfl⟩) hS (fun _ _ h => h) (fun _ h => h) (fun r_9 C_8 t H1 locs ht hvm hw hB9 hz1 hk1 hS => ?_)
      obtain ⟨hr_9, hR_10⟩ := hw
      obtain ⟨hM, -, -⟩ := hB9
      rw [ht] at hM
      clear hk1 hz1 hvm ht
      clear t
      generalize H1 = H at hM hS ⊢
      subst hr_9
      refine lv_if_eq (tgt := 43) hx hb dX12_isNoHarm_36 (by decide) (fun c_11 => ?_) (fun c_11 => ?_)
      · have c_11 := bI_f c_11
        cases c_11
      · have c_11 := bI_t c_11
        refine lv_iconst (v := nI 1) hx hb dX12_isNoHarm_39 (by decide) ?_
        refine zeq (show nI 1 = bI true from rfl) ?_
        refine lv_goto (tgt := 44) hx hb dX12_isNoHarm_40 (by decide) ?_
        exact W.zret (v := bI true) hx hb hr (bI_nar _) (fun t ht hW => ⟨⟨_, C_8, rfl, ⟨rfl, hR_10⟩, mI_pre hM hK hMS hS t ht hW⟩, hS.F ht⟩) hS.2.2 dX12_isNoHarm_44
set_option maxHeartbeats 600000 in
set_option maxRecDepth 100000 in
theorem c_X12_reportNow (l : Launch) (D : va_G) (ty : Nat → ClassId) (A : Nat → Prop) (u : Nat → Nat → Prop) (C : Nat → Nat → va_E) (ma : Nat → Nat → Nat) (t0 mi : Nat) (g : Nat → Nat → Int32) (n1 n2 nL n4 n5 : Nat) (th : Int32) (rep bro : Nat → Nat → Int32) (hR : mR ty t0 g n1 n2 nL n4 n5 th rep bro u C ma) (i v f : Nat) (hi : i < n1) (hv : v < nV g i) (hf : f < 6) (x : Int32) : Met l yX12_reportNow wsX12_reportNow ({ frames := 5, cells := 114, slots := 688, locals := 116 }) (va_Pc [.ref (ma 0 0), .int (nI i), .int (nI v), .int (nI f), .int x] (mI D ty A u C ma t0 mi)) (va_Qi (fun (v9 : Int32) (C2 : Nat → Nat → va_E) => v9 = gainN g nL n5 ((i * 6 + v) * 6 + f) x ∧ mR ty t0 (repG g nL ((i * 6 + v) * 6 + f) x) n1 n2 nL n4 n5 th (fun q => if q = i * 6 + v then upd (rep (i * 6 + v)) f (zmax (rep (i * 6 + v) f) x) else rep q) bro u C2 ma) (fun C2 t => mI D ty A u C2 ma t0 mi t) A) 114 688 A := by
  refine zMet (cc := cX12_reportNow) (maxL := 7) (ret := (some .int)) (by decide) rfl (Nat.le_of_ble_eq_true rfl) ?_
  intro p e s m below meth c hx hb hr hts hown hlocks hml hB ls hl
  obtain ⟨hM, hK, hMS⟩ := hB
  have hS : va_S A s.heap s.heap [] := va_S.rf
  have hbn := hR.I.b1
  have hbs := hR.I.b2
  have hbl := hR.I.bL
  have hbc := hR.I.b4
  have hbr := hR.I.b5
  have hv7 := (hR.I.v7 hi).2
  have hl : lv_has ls 7 [(0, .ref (ma 0 0)), (1, .int (nI i)), (2, .int (nI v)), (3, .int (nI f)), (4, .int x)] := hl
  have hinX12 : ∀ w ∈ wsX120, w ∈ wsX12_reportNow := by decide +kernel
  have hk1 := hts (.fieldLink RX12 10 "DatamarketDeskModel" "sets" "Ljava/util/ArrayList;") (by decide +kernel)
  have hk2 := hts (.classLink RX12 49 "DatamarketDeskModel$DataSet") (by decide +kernel)
  have hinX7 : ∀ w ∈ wsX70, w ∈ wsX12_reportNow := by decide +kernel
  have hk4 := hts (.fieldLink RX12 69 "DatamarketDeskModel$DataSet" "versions" "Ljava/util/ArrayList;") (by decide +kernel)
  have hk5 := hts (.classLink RX12 72 "DatamarketDeskModel$Version") (by decide +kernel)
  have hinX11 : ∀ w ∈ wsX110, w ∈ wsX12_reportNow := by decide +kernel
  have hk7 := hts (.fieldLink RX12 74 "DatamarketDeskModel$Version" "reported" "[I") (by decide +kernel)
  refine lv_aload_n hx hb dX12_reportNow_0 rfl (lv_at hl 0 rfl) ?_
  have hFc : ∀ q : Nat, s.heap.size ≤ q → A q := fun q h => hM.2.2 q h
  refine va_calli (va_runV (As := []) (rest := []) ⟨hx, hb, hml, hown, hts⟩ (c_X12_credits l D ty A u C ma t0 mi g n1 n2 nL n4 n5 th rep bro hR s.heap.size) (cwV 0 hts gX12_reportNow_X12_credits rfl rfl rfl (by decide +kernel) ⟨Nat.le_of_ble_eq_true rfl, Nat.le_of_ble_eq_true rfl⟩) ⟨zBl mIs_blind, (va_recv hK (hM.Pa hR.o.1 rfl hR.o.2) (ci := 13) (q0 := 0) rfl rfl), fun U h1 h2 => ⟨rfl, mI_pre hM hK hMS hS U h1 h2, by rw [h1]⟩⟩ rfl rfl hl.1 rfl (lv_room (Nat.le_of_ble_eq_true rfl)) dX12_reportNow_1 ⟨Nat.le_of_ble_eq_true rfl, Nat.le_of_ble_eq_true rfl⟩) hS (fun q _ h => hFc q h) hFc (fun r_1 u9 t H1 locs ht hvm hw hB9 hz1 hk1 hS => ?_)
  have ho9 : ∀ q : Nat, q < s.heap.size → H1[q]? = s.heap[q]? := fun q hq => hk1 q hq (Nat.not_le.mpr hq)
  have hM := hM.ext (fun q hq _ => ho9 q hq) hz1
  clear hk1 hz1 hvm ht hB9 ho9 hFc
  clear t
  generalize H1 = H at hM hS ⊢
  have hr_1 := hw
  subst hr_1
  refine lv_istore (lv' := [(5, .int (sumN (fCr g (-1) (-1) 21) n5)), (0, .ref (ma 0 0)), (1, .int (nI i)), (2, .int (nI v)), (3, .int (nI f)), (4, .int x)]) hx hb dX12_reportNow_4 hl (by decide) rfl (fun ls hl => ?_)
  refine lv_aload_n hx hb dX12_reportNow_6 rfl (lv_at hl 1 rfl) ?_
  refine va_get hx hb hts hinX12 hown hK (hM.Pa hR.o.1 rfl hR.o.2) 0 rfl rfl 1 (by decide) (hk1) (fun _ h9 => h9) rfl dX12_reportNow_7 ?_
  refine lv_iload_n hx hb dX12_reportNow_10 rfl (lv_at hl 2 rfl) ?_
  obtain ⟨huz_2, hnz_2, mz_2, bz_2, hCz_2⟩ := isL.hd hR.l1
  refine zcVr (x := .ref (ma 9 i)) (As := [.int (nI i)]) (rest := []) ⟨hx, hb, hml, hown, hts⟩ (c_get l D ty A u C ma t0 mi 1 0 n1 (ma 9) hR.l1 i (by omega)) (cwV 1 hts gX12_reportNow_Jx4a65c_get_915e3 rfl rfl rfl (by decide +kernel) ⟨Nat.le_of_ble_eq_true rfl, Nat.le_of_ble_eq_true rfl⟩) mI_blind (mI_pre hM hK hMS hS) (va_recv hK (hM.Pa huz_2 rfl hCz_2) (ci := 0) (q0 := 0) rfl rfl) rfl hl.1 rfl (Nat.le_of_ble_eq_true rfl) dX12_reportNow_11 ⟨Nat.le_of_ble_eq_true rfl, Nat.le_of_ble_eq_true rfl⟩ ?_
  refine va_castS hx hb hown (hk2) ((hK.1 8 _ rfl).2) (va_recv hK (hM.Pa (hR.s9 (i := i) (by omega)).1 rfl (hR.s9 (i := i) (by omega)).2) (ci := 8) (q0 := 0) rfl rfl) dX12_reportNow_14 ?_
  refine va_get hx hb hts hinX7 hown hK (hM.Pa (hR.s9 (i := i) (by omega)).1 rfl (hR.s9 (i := i) (by omega)).2) 0 rfl rfl 3 (by decide) (hk4) (fun _ h9 => h9) rfl dX12_reportNow_17 ?_
  refine lv_iload_n hx hb dX12_reportNow_20 rfl (lv_at hl 3 rfl) ?_
  obtain ⟨huz_4, hnz_4, mz_4, bz_4, hCz_4⟩ := isL.hd (hR.s12 (i := i) (by omega))
  refine zcVr (x := .ref (ma 15 (i * 6 + v))) (As := [.int (nI v)]) (rest := []) ⟨hx, hb, hml, hown, hts⟩ (c_get l D ty A u C ma t0 mi 12 i (nV g i) (fun v => ma 15 (i * 6 + v)) (hR.s12 (i := i) (by omega)) v (by omega)) (cwV 1 hts gX12_reportNow_Jx4a65c_get_915e3 rfl rfl rfl (by decide +kernel) ⟨Nat.le_of_ble_eq_true rfl, Nat.le_of_ble_eq_true rfl⟩) mI_blind (mI_pre hM hK hMS hS) (va_recv hK (hM.Pa huz_4 rfl hCz_4) (ci := 0) (q0 := 0) rfl rfl) rfl hl.1 rfl (Nat.le_of_ble_eq_true rfl) dX12_reportNow_21 ⟨Nat.le_of_ble_eq_true rfl, Nat.le_of_ble_eq_true rfl⟩ ?_
  refine va_castS hx hb hown (hk5) ((hK.1 12 _ rfl).2) (va_recv hK (hM.Pa (hR.v15 (i := i) (v := v) (by omega) (by omega)).1 rfl (hR.v15 (i := i) (v := v) (by omega) (by omega)).2) (ci := 12) (q0 := 0) rfl rfl) dX12_reportNow_24 ?_
  refine va_get hx hb hts hinX11 hown hK (hM.Pa (hR.v15 (i := i) (v := v) (by omega) (by omega)).1 rfl (hR.v15 (i := i) (v := v) (by omega) (by omega)).2) 0 rfl rfl 1 (by decide) (hk7) (fun _ h9 => h9) rfl dX12_reportNow_27 ?_
  refine lv_astore (lv' := [(6, .ref (ma 16 (i * 6 + v))), (5, .int (sumN (fCr g (-1) (-1) 21) n5)), (0, .ref (ma 0 0)), (1, .int (nI i)), (2, .int (nI v)), (3, .int (nI f)), (4, .int x)]) hx hb dX12_reportNow_30 hl (by decide) rfl (fun ls hl => ?_)
  refine lv_aload hx hb dX12_reportNow_32 (lv_at hl 0 rfl) ?_
  refine lv_iload_n hx hb dX12_reportNow_34 rfl (lv_at hl 5 rfl) ?_
  refine lv_aload hx hb dX12_reportNow_35 (lv_at hl 0 rfl) ?_
  refine lv_iload_n hx hb dX12_reportNow_37 rfl (lv_at hl 5 rfl) ?_
  refine zald hx hb hK (hM.Pa (hR.v16 (i := i) (v := v) (by omega) (by omega)).1 rfl (hR.v16 (i := i) (v := v) (by omega) (by omega)).2) 0 0 rfl rfl (i := f) (by omega) (by omega) dX12_reportNow_38 ?_
  refine lv_iload hx hb dX12_reportNow_39 (lv_at hl 6 rfl) ?_
  refine va_mmax hx hb (hml.trans hl.1.symm) hown (hts (.methodLink RX12 81 Lib.Math.max.name) (by decide +kernel)) (hts (.static Lib.Math.max.name) (by decide +kernel)) (hts (.initialized "java/lang/Math") (by decide +kernel)) (hts (.code Lib.Math.max.name Lib.Math.max.code 2 (some .int)) (by decide +kernel)) (Nat.le_of_ble_eq_true rfl) (Nat.le_of_ble_eq_true rfl) (Nat.le_of_ble_eq_true rfl) (Nat.le_of_ble_eq_true rfl) dX12_reportNow_41 ?_
  refine zeq (zmax_def ((rep (i * 6 + v)) f) x).symm ?_
  refine miast hx hb hK hM hS (hR.v16 (i := i) (v := v) (by omega) (by omega)).1 rfl 0 (hR.v16 (i := i) (v := v) (by omega) (by omega)).2 rfl (i := f) (by omega) (by omega) dX12_reportNow_44 (fun H locs hM hS ho => ?_)
  obtain ⟨C_6, eC_6⟩ : ∃ z, z = up2 C 16 (i * 6 + v) (eI (ty 0) 6 (upd (rep (i * 6 + v)) f (zmax ((rep (i * 6 + v)) f) x))) := ⟨_, rfl⟩
  have hM : mW D A u C_6 ma H := by rw [eC_6]; exact hM
  have hC_7 : C_6 16 (i * 6 + v) = eI (ty 0) 6 (upd (rep (i * 6 + v)) f (zmax ((rep (i * 6 + v)) f) x)) := by rw [eC_6]; exact up2_s _ _ _ _
  have hR_8 : mR ty t0 (repG g nL ((i * 6 + v) * 6 + f) x) n1 n2 nL n4 n5 th (fun q => if q = i * 6 + v then upd (rep (i * 6 + v)) f (zmax (rep (i * 6 + v) f) x) else rep q) bro u C_6 ma := by rw [eC_6]; exact mR_rep hR hi hv hf x
  refine lv_aload_n hx hb dX12_reportNow_45 rfl (lv_at hl 2 rfl) ?_
  have hFc : ∀ q : Nat, H.size ≤ q → A q := fun q h => hM.2.2 q h
  refine va_calli (va_runV (As := []) (rest := []) ⟨hx, hb, hml, hown, hts⟩ (c_X12_credits l D ty A u C_6 ma t0 mi (repG g nL ((i * 6 + v) * 6 + f) x) n1 n2 nL n4 n5 th (fun q => if q = i * 6 + v then upd (rep (i * 6 + v)) f (zmax (rep (i * 6 + v) f) x) else rep q) bro hR_8 H.size) (cwV 0 hts gX12_reportNow_X12_credits rfl rfl rfl (by decide +kernel) ⟨Nat.le_of_ble_eq_true rfl, Nat.le_of_ble_eq_true rfl⟩) ⟨zBl mIs_blind, (va_recv hK (hM.Pa hR_8.o.1 rfl hR_8.o.2) (ci := 13) (q0 := 0) rfl rfl), fun U h1 h2 => ⟨rfl, mI_pre hM hK hMS hS U h1 h2, by rw [h1]⟩⟩ rfl rfl hl.1 rfl (lv_room (Nat.le_of_ble_eq_true rfl)) dX12_reportNow_46 ⟨Nat.le_of_ble_eq_true rfl, Nat.le_of_ble_eq_true rfl⟩) hS (fun q _ h => hFc q h) hFc (fun r_9 u9 t H1 locs ht hvm hw hB9 hz1 hk1 hS => ?_)
  have ho9 : ∀ q : Nat, q < H.size → H1[q]? = H[q]? := fun q hq => hk1 q hq (Nat.not_le.mpr hq)
  have hM := hM.ext (fun q hq _ => ho9 q hq) hz1
  clear hk1 hz1 hvm ht hB9 ho9 hFc
  clear t
  generalize H1 = H at hM hS ⊢
  have hr_9 := hw
  subst hr_9
  refine lv_iload hx hb dX12_reportNow_49 (lv_at hl 1 rfl) ?_
  refine lv_isub hx hb dX12_reportNow_51 ?_
  refine W.widen (k := 114) (n := 688) (by omega) (by omega) ?_
  exact W.iret (v := (sumN (fCr (repG g nL ((i * 6 + v) * 6 + f) x) (-1) (-1) 21) n5) - (sumN (fCr g (-1) (-1) 21) n5)) hx hb hr (fun t ht hW => ⟨⟨_, C_6, rfl, ⟨(gain_rep hR.I (by omega) x), hR_8⟩, mI_pre hM hK hMS hS t ht hW⟩, hS.F ht⟩) hS.2.2 dX12_reportNow_52
set_option maxHeartbeats 600000 in
set_option maxRecDepth 100000 in
theorem m_report (l : Launch) (D : va_G) (ty : Nat → ClassId) (A : Nat → Prop) (u : Nat → Nat → Prop) (C : Nat → Nat → va_E) (ma : Nat → Nat → Nat) (t0 mi : Nat) (g : Nat → Nat → Int32) (n1 n2 nL n4 n5 : Nat) (th : Int32) (rep bro : Nat → Nat → Int32) (hR : mR ty t0 g n1 n2 nL n4 n5 th rep bro u C ma) (i v f : Nat) (hi : i < n1) (hv : v < nV g i) (hf : f < nF g i) (x : Int32) (hh1 : ¬ x < nI 1) (hh2 : ¬ nI 100 < x) : Met l yX12_report wsX12_report ({ frames := 9, cells := 114, slots := 688, locals := 229 }) (va_Pc [.ref (ma 0 0), .int (nI i), .int (nI v), .int (nI f), .int x] (mI D ty A u C ma t0 mi)) (va_Qi (fun (v9 : Int32) (C2 : Nat → Nat → va_E) => v9 = gainN g nL n5 ((i * 6 + v) * 6 + f) x ∧ mR ty t0 (repG g nL ((i * 6 + v) * 6 + f) x) n1 n2 nL n4 n5 (nI 0) (fun q => if q = i * 6 + v then upd (rep (i * 6 + v)) f (zmax (rep (i * 6 + v) f) x) else rep q) bro u C2 ma) (fun C2 t => mI D ty A u C2 ma t0 mi t) A) 114 688 A := by
  refine zMet (cc := cX12_report) (maxL := 5) (ret := (some .int)) (by decide) rfl (Nat.le_of_ble_eq_true rfl) ?_
  intro p e s m below meth c hx hb hr hts hown hlocks hml hB ls hl
  obtain ⟨hM, hK, hMS⟩ := hB
  have hS : va_S A s.heap s.heap [] := va_S.rf
  have hbn := hR.I.b1
  have hbs := hR.I.b2
  have hbl := hR.I.bL
  have hbc := hR.I.b4
  have hbr := hR.I.b5
  have h1 := bVal_ok hR.I hi hv hf
  have hf7 := (hR.I.f7 hi).2.2
  have h2 : (!inB x (nI 1) (nI 100)) = false := by rw [inB_r hh1 hh2]; rfl
  have hl : lv_has ls 5 [(0, .ref (ma 0 0)), (1, .int (nI i)), (2, .int (nI v)), (3, .int (nI f)), (4, .int x)] := hl
  refine lv_aload_n hx hb dX12_report_0 rfl (lv_at hl 0 rfl) ?_
  refine lv_iload_n hx hb dX12_report_1 rfl (lv_at hl 1 rfl) ?_
  refine lv_iload_n hx hb dX12_report_2 rfl (lv_at hl 2 rfl) ?_
  refine lv_iload_n hx hb dX12_report_3 rfl (lv_at hl 3 rfl) ?_
  refine lv_iload hx hb dX12_report_4 (lv_at hl 4 rfl) ?_
  refine va_calli (va_runV (As := [.int (nI i), .int (nI v), .int (nI f), .int x]) (rest := []) ⟨hx, hb, hml, hown, hts⟩ (c_X12_isNoHarm_f l D ty A u C ma t0 mi g n1 n2 nL n4 n5 th rep bro hR (nI i) (nI v) (nI f) x h1 h2) (cwV 4 hts gX12_report_X12_isNoHarm rfl rfl rfl (by decide +kernel) ⟨Nat.le_of_ble_eq_true rfl, Nat.le_of_ble_eq_true rfl⟩) ⟨zBl mI_blind, (va_recv hK (hM.Pa hR.o.1 rfl hR.o.2) (ci := 13) (q0 := 0) rfl rfl), fun U h1 h2 => ⟨rfl, mI_pre hM hK hMS hS U h1 h2⟩⟩ rfl rfl hl.1 rfl (lv_room (Nat.le_of_ble_eq_true rfl)) dX12_report_6 ⟨Nat.le_of_ble_eq_true rfl, Nat.le_of_ble_eq_true rfl⟩) hS (fun _ _ h => h) (fun _ h => h) (fun r_2 C_1 t H1 locs ht hvm hw hB9 hz1 hk1 hS => ?_)
  obtain ⟨hr_2, hR_3⟩ := hw
  obtain ⟨hM, -, -⟩ := hB9
  rw [ht] at hM
  clear hk1 hz1 hvm ht
  clear t
  generalize H1 = H at hM hS ⊢
  subst hr_2
  refine lv_if_eq (tgt := 16) hx hb dX12_report_9 (by decide) (fun c_4 => ?_) (fun c_4 => ?_)
  · have c_4 := bI_f c_4
    refine lv_aload_n hx hb dX12_report_16 rfl (lv_at hl 0 rfl) ?_
    refine lv_iload_n hx hb dX12_report_17 rfl (lv_at hl 1 rfl) ?_
    refine lv_iload_n hx hb dX12_report_18 rfl (lv_at hl 2 rfl) ?_
    refine lv_iload_n hx hb dX12_report_19 rfl (lv_at hl 3 rfl) ?_
    refine lv_iload hx hb dX12_report_20 (lv_at hl 4 rfl) ?_
    refine va_calli (va_runV (As := [.int (nI i), .int (nI v), .int (nI f), .int x]) (rest := []) ⟨hx, hb, hml, hown, hts⟩ (c_X12_reportNow l D ty A u C_1 ma t0 mi g n1 n2 nL n4 n5 (nI 0) rep bro hR_3 i v f (by omega) hv (by omega) x) (cwV 4 hts gX12_report_X12_reportNow rfl rfl rfl (by decide +kernel) ⟨Nat.le_of_ble_eq_true rfl, Nat.le_of_ble_eq_true rfl⟩) ⟨zBl mI_blind, (va_recv hK (hM.Pa hR_3.o.1 rfl hR_3.o.2) (ci := 13) (q0 := 0) rfl rfl), fun U h1 h2 => ⟨rfl, mI_pre hM hK hMS hS U h1 h2⟩⟩ rfl rfl hl.1 rfl (lv_room (Nat.le_of_ble_eq_true rfl)) dX12_report_22 ⟨Nat.le_of_ble_eq_true rfl, Nat.le_of_ble_eq_true rfl⟩) hS (fun _ _ h => h) (fun _ h => h) (fun r_6 C_5 t H1 locs ht hvm hw hB9 hz1 hk1 hS => ?_)
    obtain ⟨hr_6, hR_7⟩ := hw
    obtain ⟨hM, -, -⟩ := hB9
    rw [ht] at hM
    clear hk1 hz1 hvm ht
    clear t
    generalize H1 = H at hM hS ⊢
    subst hr_6
    refine W.widen (k := 114) (n := 688) (by omega) (by omega) ?_
    exact W.iret (v := gainN g nL n5 ((i * 6 + v) * 6 + f) x) hx hb hr (fun t ht hW => ⟨⟨_, C_5, rfl, ⟨rfl, hR_7⟩, mI_pre hM hK hMS hS t ht hW⟩, hS.F ht⟩) hS.2.2 dX12_report_25
  · have c_4 := bI_t c_4
    cases c_4
set_option maxHeartbeats 600000 in
set_option maxRecDepth 100000 in
theorem m_creditBy (l : Launch) (D : va_G) (ty : Nat → ClassId) (A : Nat → Prop) (u : Nat → Nat → Prop) (C : Nat → Nat → va_E) (ma : Nat → Nat → Nat) (t0 mi : Nat) (g : Nat → Nat → Int32) (n1 n2 nL n4 n5 : Nat) (th : Int32) (rep bro : Nat → Nat → Int32) (hR : mR ty t0 g n1 n2 nL n4 n5 th rep bro u C ma) (i v f : Nat) (hi : i < n1) (hv : v < nV g i) (hf : f < nF g i) (x : Int32) (hh1 : ¬ x < nI 1) (hh2 : ¬ nI 100 < x) : Met l yX12_creditBy wsX12_creditBy ({ frames := 9, cells := 114, slots := 688, locals := 229 }) (va_Pc [.ref (ma 0 0), .int (nI i), .int (nI v), .int (nI f), .int x] (mI D ty A u C ma t0 mi)) (va_Qi (fun (v9 : Int32) (C2 : Nat → Nat → va_E) => v9 = gainN g nL n5 ((i * 6 + v) * 6 + f) x ∧ mR ty t0 (triG g nL ((i * 6 + v) * 6 + f) x) n1 n2 nL n4 n5 (nI 0) (rep) bro u C2 ma) (fun C2 t => mI D ty A u C2 ma t0 mi t) A) 114 688 A := by
  refine zMet (cc := cX12_creditBy) (maxL := 8) (ret := (some .int)) (by decide) rfl (Nat.le_of_ble_eq_true rfl) ?_
  intro p e s m below meth c hx hb hr hts hown hlocks hml hB ls hl
  obtain ⟨hM, hK, hMS⟩ := hB
  have hS : va_S A s.heap s.heap [] := va_S.rf
  have hbn := hR.I.b1
  have hbs := hR.I.b2
  have hbl := hR.I.bL
  have hbc := hR.I.b4
  have hbr := hR.I.b5
  have h1 := bVal_ok hR.I hi hv hf
  have hf7 := (hR.I.f7 hi).2.2
  have h2 : (!inB x (nI 1) (nI 100)) = false := by rw [inB_r hh1 hh2]; rfl
  have hv7 := (hR.I.v7 hi).2
  have hl : lv_has ls 8 [(0, .ref (ma 0 0)), (1, .int (nI i)), (2, .int (nI v)), (3, .int (nI f)), (4, .int x)] := hl
  have hinX12 : ∀ w ∈ wsX120, w ∈ wsX12_creditBy := by decide +kernel
  have hk1 := hts (.fieldLink RX12 10 "DatamarketDeskModel" "sets" "Ljava/util/ArrayList;") (by decide +kernel)
  have hk2 := hts (.classLink RX12 49 "DatamarketDeskModel$DataSet") (by decide +kernel)
  have hinX7 : ∀ w ∈ wsX70, w ∈ wsX12_creditBy := by decide +kernel
  have hk4 := hts (.fieldLink RX12 69 "DatamarketDeskModel$DataSet" "versions" "Ljava/util/ArrayList;") (by decide +kernel)
  have hk5 := hts (.classLink RX12 72 "DatamarketDeskModel$Version") (by decide +kernel)
  have hinX11 : ∀ w ∈ wsX110, w ∈ wsX12_creditBy := by decide +kernel
  have hk7 := hts (.fieldLink RX12 74 "DatamarketDeskModel$Version" "reported" "[I") (by decide +kernel)
  refine lv_aload_n hx hb dX12_creditBy_0 rfl (lv_at hl 0 rfl) ?_
  refine lv_iload_n hx hb dX12_creditBy_1 rfl (lv_at hl 1 rfl) ?_
  refine lv_iload_n hx hb dX12_creditBy_2 rfl (lv_at hl 2 rfl) ?_
  refine lv_iload_n hx hb dX12_creditBy_3 rfl (lv_at hl 3 rfl) ?_
  refine lv_iload hx hb dX12_creditBy_4 (lv_at hl 4 rfl) ?_
  refine va_calli (va_runV (As := [.int (nI i), .int (nI v), .int (nI f), .int x]) (rest := []) ⟨hx, hb, hml, hown, hts⟩ (c_X12_isNoHarm_f l D ty A u C ma t0 mi g n1 n2 nL n4 n5 th rep bro hR (nI i) (nI v) (nI f) x h1 h2) (cwV 4 hts gX12_creditBy_X12_isNoHarm rfl rfl rfl (by decide +kernel) ⟨Nat.le_of_ble_eq_true rfl, Nat.le_of_ble_eq_true rfl⟩) ⟨zBl mI_blind, (va_recv hK (hM.Pa hR.o.1 rfl hR.o.2) (ci := 13) (q0 := 0) rfl rfl), fun U h1 h2 => ⟨rfl, mI_pre hM hK hMS hS U h1 h2⟩⟩ rfl rfl hl.1 rfl (lv_room (Nat.le_of_ble_eq_true rfl)) dX12_creditBy_6 ⟨Nat.le_of_ble_eq_true rfl, Nat.le_of_ble_eq_true rfl⟩) hS (fun _ _ h => h) (fun _ h => h) (fun r_2 C_1 t H1 locs ht hvm hw hB9 hz1 hk1 hS => ?_)
  obtain ⟨hr_2, hR_3⟩ := hw
  obtain ⟨hM, -, -⟩ := hB9
  rw [ht] at hM
  clear hk1 hz1 hvm ht
  clear t
  generalize H1 = H at hM hS ⊢
  subst hr_2
  refine lv_if_eq (tgt := 14) hx hb dX12_creditBy_9 (by decide) (fun c_4 => ?_) (fun c_4 => ?_)
  · have c_4 := bI_f c_4
    refine lv_aload_n hx hb dX12_creditBy_14 rfl (lv_at hl 0 rfl) ?_
    refine va_get hx hb hts hinX12 hown hK (hM.Pa hR_3.o.1 rfl hR_3.o.2) 0 rfl rfl 1 (by decide) (hk1) (fun _ h9 => h9) rfl dX12_creditBy_15 ?_
    refine lv_iload_n hx hb dX12_creditBy_18 rfl (lv_at hl 1 rfl) ?_
    obtain ⟨huz_5, hnz_5, mz_5, bz_5, hCz_5⟩ := isL.hd hR_3.l1
    refine zcVr (x := .ref (ma 9 i)) (As := [.int (nI i)]) (rest := []) ⟨hx, hb, hml, hown, hts⟩ (c_get l D ty A u C_1 ma t0 mi 1 0 n1 (ma 9) hR_3.l1 i (by omega)) (cwV 1 hts gX12_creditBy_Jx4a65c_get_915e3 rfl rfl rfl (by decide +kernel) ⟨Nat.le_of_ble_eq_true rfl, Nat.le_of_ble_eq_true rfl⟩) mI_blind (mI_pre hM hK hMS hS) (va_recv hK (hM.Pa huz_5 rfl hCz_5) (ci := 0) (q0 := 0) rfl rfl) rfl hl.1 rfl (Nat.le_of_ble_eq_true rfl) dX12_creditBy_19 ⟨Nat.le_of_ble_eq_true rfl, Nat.le_of_ble_eq_true rfl⟩ ?_
    refine va_castS hx hb hown (hk2) ((hK.1 8 _ rfl).2) (va_recv hK (hM.Pa (hR_3.s9 (i := i) (by omega)).1 rfl (hR_3.s9 (i := i) (by omega)).2) (ci := 8) (q0 := 0) rfl rfl) dX12_creditBy_22 ?_
    refine va_get hx hb hts hinX7 hown hK (hM.Pa (hR_3.s9 (i := i) (by omega)).1 rfl (hR_3.s9 (i := i) (by omega)).2) 0 rfl rfl 3 (by decide) (hk4) (fun _ h9 => h9) rfl dX12_creditBy_25 ?_
    refine lv_iload_n hx hb dX12_creditBy_28 rfl (lv_at hl 2 rfl) ?_
    obtain ⟨huz_7, hnz_7, mz_7, bz_7, hCz_7⟩ := isL.hd (hR_3.s12 (i := i) (by omega))
    refine zcVr (x := .ref (ma 15 (i * 6 + v))) (As := [.int (nI v)]) (rest := []) ⟨hx, hb, hml, hown, hts⟩ (c_get l D ty A u C_1 ma t0 mi 12 i (nV g i) (fun v => ma 15 (i * 6 + v)) (hR_3.s12 (i := i) (by omega)) v (by omega)) (cwV 1 hts gX12_creditBy_Jx4a65c_get_915e3 rfl rfl rfl (by decide +kernel) ⟨Nat.le_of_ble_eq_true rfl, Nat.le_of_ble_eq_true rfl⟩) mI_blind (mI_pre hM hK hMS hS) (va_recv hK (hM.Pa huz_7 rfl hCz_7) (ci := 0) (q0 := 0) rfl rfl) rfl hl.1 rfl (Nat.le_of_ble_eq_true rfl) dX12_creditBy_29 ⟨Nat.le_of_ble_eq_true rfl, Nat.le_of_ble_eq_true rfl⟩ ?_
    refine va_castS hx hb hown (hk5) ((hK.1 12 _ rfl).2) (va_recv hK (hM.Pa (hR_3.v15 (i := i) (v := v) (by omega) (by omega)).1 rfl (hR_3.v15 (i := i) (v := v) (by omega) (by omega)).2) (ci := 12) (q0 := 0) rfl rfl) dX12_creditBy_32 ?_
    refine va_get hx hb hts hinX11 hown hK (hM.Pa (hR_3.v15 (i := i) (v := v) (by omega) (by omega)).1 rfl (hR_3.v15 (i := i) (v := v) (by omega) (by omega)).2) 0 rfl rfl 1 (by decide) (hk7) (fun _ h9 => h9) rfl dX12_creditBy_35 ?_
    refine lv_astore (lv' := [(5, .ref (ma 16 (i * 6 + v))), (0, .ref (ma 0 0)), (1, .int (nI i)), (2, .int (nI v)), (3, .int (nI f)), (4, .int x)]) hx hb dX12_creditBy_38 hl (by decide) rfl (fun ls hl => ?_)
    refine lv_aload hx hb dX12_creditBy_40 (lv_at hl 0 rfl) ?_
    refine lv_iload_n hx hb dX12_creditBy_42 rfl (lv_at hl 4 rfl) ?_
    refine zald hx hb hK (hM.Pa (hR_3.v16 (i := i) (v := v) (by omega) (by omega)).1 rfl (hR_3.v16 (i := i) (v := v) (by omega) (by omega)).2) 0 0 rfl rfl (i := f) (by omega) (by omega) dX12_creditBy_43 ?_
    refine lv_istore (lv' := [(6, .int ((rep (i * 6 + v)) f)), (5, .ref (ma 16 (i * 6 + v))), (0, .ref (ma 0 0)), (1, .int (nI i)), (2, .int (nI v)), (3, .int (nI f)), (4, .int x)]) hx hb dX12_creditBy_44 hl (by decide) rfl (fun ls hl => ?_)
    refine lv_aload_n hx hb dX12_creditBy_46 rfl (lv_at hl 2 rfl) ?_
    refine lv_iload_n hx hb dX12_creditBy_47 rfl (lv_at hl 3 rfl) ?_
    refine lv_iload_n hx hb dX12_creditBy_48 rfl (lv_at hl 4 rfl) ?_
    refine lv_iload_n hx hb dX12_creditBy_49 rfl (lv_at hl 5 rfl) ?_
    refine lv_iload hx hb dX12_creditBy_50 (lv_at hl 6 rfl) ?_
    refine va_calli (va_runV (As := [.int (nI i), .int (nI v), .int (nI f), .int x]) (rest := []) ⟨hx, hb, hml, hown, hts⟩ (c_X12_reportNow l D ty A u C_1 ma t0 mi g n1 n2 nL n4 n5 (nI 0) rep bro hR_3 i v f (by omega) hv (by omega) x) (cwV 4 hts gX12_creditBy_X12_reportNow rfl rfl rfl (by decide +kernel) ⟨Nat.le_of_ble_eq_true rfl, Nat.le_of_ble_eq_true rfl⟩) ⟨zBl mI_blind, (va_recv hK (hM.Pa hR_3.o.1 rfl hR_3.o.2) (ci := 13) (q0 := 0) rfl rfl), fun U h1 h2 => ⟨rfl, mI_pre hM hK hMS hS U h1 h2⟩⟩ rfl rfl hl.1 rfl (lv_room (Nat.le_of_ble_eq_true rfl)) dX12_creditBy_52 ⟨Nat.le_of_ble_eq_true rfl, Nat.le_of_ble_eq_true rfl⟩) hS (fun _ _ h => h) (fun _ h => h) (fun r_10 C_9 t H1 locs ht hvm hw hB9 hz1 hk1 hS => ?_)
    obtain ⟨hr_10, hR_11⟩ := hw
    obtain ⟨hM, -, -⟩ := hB9
    rw [ht] at hM
    clear hk1 hz1 hvm ht
    clear t
    generalize H1 = H at hM hS ⊢
    subst hr_10
    have hv9 : v < nV (repG g nL ((i * 6 + v) * 6 + f) x) i := hv
    refine lv_istore (lv' := [(7, .int (gainN g nL n5 ((i * 6 + v) * 6 + f) x)), (6, .int ((rep (i * 6 + v)) f)), (5, .ref (ma 16 (i * 6 + v))), (0, .ref (ma 0 0)), (1, .int (nI i)), (2, .int (nI v)), (3, .int (nI f)), (4, .int x)]) hx hb dX12_creditBy_55 hl (by decide) rfl (fun ls hl => ?_)
    refine lv_aload hx hb dX12_creditBy_57 (lv_at hl 2 rfl) ?_
    refine lv_iload_n hx hb dX12_creditBy_59 rfl (lv_at hl 6 rfl) ?_
    refine lv_iload hx hb dX12_creditBy_60 (lv_at hl 1 rfl) ?_
    refine miast hx hb hK hM hS (hR_11.v16 (i := i) (v := v) (by omega) (by omega)).1 rfl 0 (hR_11.v16 (i := i) (v := v) (by omega) (by omega)).2 rfl (i := f) (by omega) (by omega) dX12_creditBy_62 (fun H locs hM hS ho => ?_)
    obtain ⟨C_12, eC_12⟩ : ∃ z, z = up2 C_9 16 (i * 6 + v) (eI (ty 0) 6 (upd ((fun q => if q = i * 6 + v then upd (rep (i * 6 + v)) f (zmax (rep (i * 6 + v) f) x) else rep q) (i * 6 + v)) f ((rep (i * 6 + v)) f))) := ⟨_, rfl⟩
    have hM : mW D A u C_12 ma H := by rw [eC_12]; exact hM
    have hC_13 : C_12 16 (i * 6 + v) = eI (ty 0) 6 (upd ((fun q => if q = i * 6 + v then upd (rep (i * 6 + v)) f (zmax (rep (i * 6 + v) f) x) else rep q) (i * 6 + v)) f ((rep (i * 6 + v)) f)) := by rw [eC_12]; exact up2_s _ _ _ _
    have hR_14 : mR ty t0 (triG g nL ((i * 6 + v) * 6 + f) x) n1 n2 nL n4 n5 (nI 0) rep bro u C_12 ma := by rw [eC_12]; exact mR_unrep hR hi hv (by omega) x hR_11
    refine lv_iload hx hb dX12_creditBy_63 (lv_at hl 0 rfl) ?_
    refine W.widen (k := 114) (n := 688) (by omega) (by omega) ?_
    exact W.iret (v := gainN g nL n5 ((i * 6 + v) * 6 + f) x) hx hb hr (fun t ht hW => ⟨⟨_, C_12, rfl, ⟨rfl, hR_14⟩, mI_pre hM hK hMS hS t ht hW⟩, hS.F ht⟩) hS.2.2 dX12_creditBy_65
  · have c_4 := bI_t c_4
    cases c_4
set_option maxHeartbeats 600000 in
set_option maxRecDepth 100000 in
theorem m_report_x1 (l : Launch) (D : va_G) (ty : Nat → ClassId) (A : Nat → Prop) (u : Nat → Nat → Prop) (C : Nat → Nat → va_E) (ma : Nat → Nat → Nat) (t0 mi : Nat) (g : Nat → Nat → Int32) (n1 n2 nL n4 n5 : Nat) (th : Int32) (rep bro : Nat → Nat → Int32) (hR : mR ty t0 g n1 n2 nL n4 n5 th rep bro u C ma) (y v f x : Int32) (h1 : bVal g n1 y v f = true) : Met l yX12_report wsX12_report ({ frames := 9, cells := 0, slots := 0, locals := 229 }) (va_Pc [.ref (ma 0 0), .int y, .int v, .int f, .int x] (mI D ty A u C ma t0 mi)) (va_Qi (fun (v9 : Int32) (C2 : Nat → Nat → va_E) => v9 = nI 0 ∧ mR ty t0 g n1 n2 nL n4 n5 (nI 1) rep bro u C2 ma) (fun C2 t => mI D ty A u C2 ma t0 mi t) A) 0 0 A := by
  refine zMet (cc := cX12_report) (maxL := 5) (ret := (some .int)) (by decide) rfl (Nat.le_of_ble_eq_true rfl) ?_
  intro p e s m below meth c hx hb hr hts hown hlocks hml hB ls hl
  obtain ⟨hM, hK, hMS⟩ := hB
  have hS : va_S A s.heap s.heap [] := va_S.rf
  have hbn := hR.I.b1
  have hbs := hR.I.b2
  have hbl := hR.I.bL
  have hbc := hR.I.b4
  have hbr := hR.I.b5
  have hl : lv_has ls 5 [(0, .ref (ma 0 0)), (1, .int y), (2, .int v), (3, .int f), (4, .int x)] := hl
  refine lv_aload_n hx hb dX12_report_0 rfl (lv_at hl 0 rfl) ?_
  refine lv_iload_n hx hb dX12_report_1 rfl (lv_at hl 1 rfl) ?_
  refine lv_iload_n hx hb dX12_report_2 rfl (lv_at hl 2 rfl) ?_
  refine lv_iload_n hx hb dX12_report_3 rfl (lv_at hl 3 rfl) ?_
  refine lv_iload hx hb dX12_report_4 (lv_at hl 4 rfl) ?_
  refine va_calli (va_runV (As := [.int y, .int v, .int f, .int x]) (rest := []) ⟨hx, hb, hml, hown, hts⟩ (c_X12_isNoHarm_x1 l D ty A u C ma t0 mi g n1 n2 nL n4 n5 th rep bro hR y v f x h1) (cwV 4 hts gX12_report_X12_isNoHarm rfl rfl rfl (by decide +kernel) ⟨Nat.le_of_ble_eq_true rfl, Nat.le_of_ble_eq_true rfl⟩) ⟨zBl mI_blind, (va_recv hK (hM.Pa hR.o.1 rfl hR.o.2) (ci := 13) (q0 := 0) rfl rfl), fun U h1 h2 => ⟨rfl, mI_pre hM hK hMS hS U h1 h2⟩⟩ rfl rfl hl.1 rfl (lv_room (Nat.le_of_ble_eq_true rfl)) dX12_report_6 ⟨Nat.le_of_ble_eq_true rfl, Nat.le_of_ble_eq_true rfl⟩) hS (fun _ _ h => h) (fun _ h => h) (fun r_2 C_1 t H1 locs ht hvm hw hB9 hz1 hk1 hS => ?_)
  obtain ⟨hr_2, hR_3⟩ := hw
  obtain ⟨hM, -, -⟩ := hB9
  rw [ht] at hM
  clear hk1 hz1 hvm ht
  clear t
  generalize H1 = H at hM hS ⊢
  subst hr_2
  refine lv_if_eq (tgt := 16) hx hb dX12_report_9 (by decide) (fun c_4 => ?_) (fun c_4 => ?_)
  · have c_4 := bI_f c_4
    cases c_4
  · have c_4 := bI_t c_4
    refine lv_iconst (v := nI 0) hx hb dX12_report_12 (by decide) ?_
    refine lv_goto (tgt := 25) hx hb dX12_report_13 (by decide) ?_
    exact W.iret (v := nI 0) hx hb hr (fun t ht hW => ⟨⟨_, C_1, rfl, ⟨rfl, hR_3⟩, mI_pre hM hK hMS hS t ht hW⟩, hS.F ht⟩) hS.2.2 dX12_report_25
set_option maxHeartbeats 600000 in
set_option maxRecDepth 100000 in
theorem m_report_x2 (l : Launch) (D : va_G) (ty : Nat → ClassId) (A : Nat → Prop) (u : Nat → Nat → Prop) (C : Nat → Nat → va_E) (ma : Nat → Nat → Nat) (t0 mi : Nat) (g : Nat → Nat → Int32) (n1 n2 nL n4 n5 : Nat) (th : Int32) (rep bro : Nat → Nat → Int32) (hR : mR ty t0 g n1 n2 nL n4 n5 th rep bro u C ma) (y v f x : Int32) (h1 : bVal g n1 y v f = false) (h2 : (!inB x (nI 1) (nI 100)) = true) : Met l yX12_report wsX12_report ({ frames := 9, cells := 0, slots := 0, locals := 229 }) (va_Pc [.ref (ma 0 0), .int y, .int v, .int f, .int x] (mI D ty A u C ma t0 mi)) (va_Qi (fun (v9 : Int32) (C2 : Nat → Nat → va_E) => v9 = nI 0 ∧ mR ty t0 g n1 n2 nL n4 n5 (nI 2) rep bro u C2 ma) (fun C2 t => mI D ty A u C2 ma t0 mi t) A) 0 0 A := by
  refine zMet (cc := cX12_report) (maxL := 5) (ret := (some .int)) (by decide) rfl (Nat.le_of_ble_eq_true rfl) ?_
  intro p e s m below meth c hx hb hr hts hown hlocks hml hB ls hl
  obtain ⟨hM, hK, hMS⟩ := hB
  have hS : va_S A s.heap s.heap [] := va_S.rf
  have hbn := hR.I.b1
  have hbs := hR.I.b2
  have hbl := hR.I.bL
  have hbc := hR.I.b4
  have hbr := hR.I.b5
  have hl : lv_has ls 5 [(0, .ref (ma 0 0)), (1, .int y), (2, .int v), (3, .int f), (4, .int x)] := hl
  refine lv_aload_n hx hb dX12_report_0 rfl (lv_at hl 0 rfl) ?_
  refine lv_iload_n hx hb dX12_report_1 rfl (lv_at hl 1 rfl) ?_
  refine lv_iload_n hx hb dX12_report_2 rfl (lv_at hl 2 rfl) ?_
  refine lv_iload_n hx hb dX12_report_3 rfl (lv_at hl 3 rfl) ?_
  refine lv_iload hx hb dX12_report_4 (lv_at hl 4 rfl) ?_
  refine va_calli (va_runV (As := [.int y, .int v, .int f, .int x]) (rest := []) ⟨hx, hb, hml, hown, hts⟩ (c_X12_isNoHarm_x2 l D ty A u C ma t0 mi g n1 n2 nL n4 n5 th rep bro hR y v f x h1 h2) (cwV 4 hts gX12_report_X12_isNoHarm rfl rfl rfl (by decide +kernel) ⟨Nat.le_of_ble_eq_true rfl, Nat.le_of_ble_eq_true rfl⟩) ⟨zBl mI_blind, (va_recv hK (hM.Pa hR.o.1 rfl hR.o.2) (ci := 13) (q0 := 0) rfl rfl), fun U h1 h2 => ⟨rfl, mI_pre hM hK hMS hS U h1 h2⟩⟩ rfl rfl hl.1 rfl (lv_room (Nat.le_of_ble_eq_true rfl)) dX12_report_6 ⟨Nat.le_of_ble_eq_true rfl, Nat.le_of_ble_eq_true rfl⟩) hS (fun _ _ h => h) (fun _ h => h) (fun r_2 C_1 t H1 locs ht hvm hw hB9 hz1 hk1 hS => ?_)
  obtain ⟨hr_2, hR_3⟩ := hw
  obtain ⟨hM, -, -⟩ := hB9
  rw [ht] at hM
  clear hk1 hz1 hvm ht
  clear t
  generalize H1 = H at hM hS ⊢
  subst hr_2
  refine lv_if_eq (tgt := 16) hx hb dX12_report_9 (by decide) (fun c_4 => ?_) (fun c_4 => ?_)
  · have c_4 := bI_f c_4
    cases c_4
  · have c_4 := bI_t c_4
    refine lv_iconst (v := nI 0) hx hb dX12_report_12 (by decide) ?_
    refine lv_goto (tgt := 25) hx hb dX12_report_13 (by decide) ?_
    exact W.iret (v := nI 0) hx hb hr (fun t ht hW => ⟨⟨_, C_1, rfl, ⟨rfl, hR_3⟩, mI_pre hM hK hMS hS t ht hW⟩, hS.F ht⟩) hS.2.2 dX12_report_25
set_option maxHeartbeats 600000 in
set_option maxRecDepth 100000 in
theorem m_creditBy_x1 (l : Launch) (D : va_G) (ty : Nat → ClassId) (A : Nat → Prop) (u : Nat → Nat → Prop) (C : Nat → Nat → va_E) (ma : Nat → Nat → Nat) (t0 mi : Nat) (g : Nat → Nat → Int32) (n1 n2 nL n4 n5 : Nat) (th : Int32) (rep bro : Nat → Nat → Int32) (hR : mR ty t0 g n1 n2 nL n4 n5 th rep bro u C ma) (y v f x : Int32) (h1 : bVal g n1 y v f = true) : Met l yX12_creditBy wsX12_creditBy ({ frames := 9, cells := 0, slots := 0, locals := 229 }) (va_Pc [.ref (ma 0 0), .int y, .int v, .int f, .int x] (mI D ty A u C ma t0 mi)) (va_Qi (fun (v9 : Int32) (C2 : Nat → Nat → va_E) => v9 = nI 0 ∧ mR ty t0 g n1 n2 nL n4 n5 (nI 1) rep bro u C2 ma) (fun C2 t => mI D ty A u C2 ma t0 mi t) A) 0 0 A := by
  refine zMet (cc := cX12_creditBy) (maxL := 8) (ret := (some .int)) (by decide) rfl (Nat.le_of_ble_eq_true rfl) ?_
  intro p e s m below meth c hx hb hr hts hown hlocks hml hB ls hl
  obtain ⟨hM, hK, hMS⟩ := hB
  have hS : va_S A s.heap s.heap [] := va_S.rf
  have hbn := hR.I.b1
  have hbs := hR.I.b2
  have hbl := hR.I.bL
  have hbc := hR.I.b4
  have hbr := hR.I.b5
  have hl : lv_has ls 8 [(0, .ref (ma 0 0)), (1, .int y), (2, .int v), (3, .int f), (4, .int x)] := hl
  refine lv_aload_n hx hb dX12_creditBy_0 rfl (lv_at hl 0 rfl) ?_
  refine lv_iload_n hx hb dX12_creditBy_1 rfl (lv_at hl 1 rfl) ?_
  refine lv_iload_n hx hb dX12_creditBy_2 rfl (lv_at hl 2 rfl) ?_
  refine lv_iload_n hx hb dX12_creditBy_3 rfl (lv_at hl 3 rfl) ?_
  refine lv_iload hx hb dX12_creditBy_4 (lv_at hl 4 rfl) ?_
  refine va_calli (va_runV (As := [.int y, .int v, .int f, .int x]) (rest := []) ⟨hx, hb, hml, hown, hts⟩ (c_X12_isNoHarm_x1 l D ty A u C ma t0 mi g n1 n2 nL n4 n5 th rep bro hR y v f x h1) (cwV 4 hts gX12_creditBy_X12_isNoHarm rfl rfl rfl (by decide +kernel) ⟨Nat.le_of_ble_eq_true rfl, Nat.le_of_ble_eq_true rfl⟩) ⟨zBl mI_blind, (va_recv hK (hM.Pa hR.o.1 rfl hR.o.2) (ci := 13) (q0 := 0) rfl rfl), fun U h1 h2 => ⟨rfl, mI_pre hM hK hMS hS U h1 h2⟩⟩ rfl rfl hl.1 rfl (lv_room (Nat.le_of_ble_eq_true rfl)) dX12_creditBy_6 ⟨Nat.le_of_ble_eq_true rfl, Nat.le_of_ble_eq_true rfl⟩) hS (fun _ _ h => h) (fun _ h => h) (fun r_2 C_1 t H1 locs ht hvm hw hB9 hz1 hk1 hS => ?_)
  obtain ⟨hr_2, hR_3⟩ := hw
  obtain ⟨hM, -, -⟩ := hB9
  rw [ht] at hM
  clear hk1 hz1 hvm ht
  clear t
  generalize H1 = H at hM hS ⊢
  subst hr_2
  refine lv_if_eq (tgt := 14) hx hb dX12_creditBy_9 (by decide) (fun c_4 => ?_) (fun c_4 => ?_)
  · have c_4 := bI_f c_4
    cases c_4
  · have c_4 := bI_t c_4
    refine lv_iconst (v := nI 0) hx hb dX12_creditBy_12 (by decide) ?_
    exact W.iret (v := nI 0) hx hb hr (fun t ht hW => ⟨⟨_, C_1, rfl, ⟨rfl, hR_3⟩, mI_pre hM hK hMS hS t ht hW⟩, hS.F ht⟩) hS.2.2 dX12_creditBy_13
set_option maxHeartbeats 600000 in
set_option maxRecDepth 100000 in
theorem m_creditBy_x2 (l : Launch) (D : va_G) (ty : Nat → ClassId) (A : Nat → Prop) (u : Nat → Nat → Prop) (C : Nat → Nat → va_E) (ma : Nat → Nat → Nat) (t0 mi : Nat) (g : Nat → Nat → Int32) (n1 n2 nL n4 n5 : Nat) (th : Int32) (rep bro : Nat → Nat → Int32) (hR : mR ty t0 g n1 n2 nL n4 n5 th rep bro u C ma) (y v f x : Int32) (h1 : bVal g n1 y v f = false) (h2 : (!inB x (nI 1) (nI 100)) = true) : Met l yX12_creditBy wsX12_creditBy ({ frames := 9, cells := 0, slots := 0, locals := 229 }) (va_Pc [.ref (ma 0 0), .int y, .int v, .int f, .int x] (mI D ty A u C ma t0 mi)) (va_Qi (fun (v9 : Int32) (C2 : Nat → Nat → va_E) => v9 = nI 0 ∧ mR ty t0 g n1 n2 nL n4 n5 (nI 2) rep bro u C2 ma) (fun C2 t => mI D ty A u C2 ma t0 mi t) A) 0 0 A := by
  refine zMet (cc := cX12_creditBy) (maxL := 8) (ret := (some .int)) (by decide) rfl (Nat.le_of_ble_eq_true rfl) ?_
  intro p e s m below meth c hx hb hr hts hown hlocks hml hB ls hl
  obtain ⟨hM, hK, hMS⟩ := hB
  have hS : va_S A s.heap s.heap [] := va_S.rf
  have hbn := hR.I.b1
  have hbs := hR.I.b2
  have hbl := hR.I.bL
  have hbc := hR.I.b4
  have hbr := hR.I.b5
  have hl : lv_has ls 8 [(0, .ref (ma 0 0)), (1, .int y), (2, .int v), (3, .int f), (4, .int x)] := hl
  refine lv_aload_n hx hb dX12_creditBy_0 rfl (lv_at hl 0 rfl) ?_
  refine lv_iload_n hx hb dX12_creditBy_1 rfl (lv_at hl 1 rfl) ?_
  refine lv_iload_n hx hb dX12_creditBy_2 rfl (lv_at hl 2 rfl) ?_
  refine lv_iload_n hx hb dX12_creditBy_3 rfl (lv_at hl 3 rfl) ?_
  refine lv_iload hx hb dX12_creditBy_4 (lv_at hl 4 rfl) ?_
  refine va_calli (va_runV (As := [.int y, .int v, .int f, .int x]) (rest := []) ⟨hx, hb, hml, hown, hts⟩ (c_X12_isNoHarm_x2 l D ty A u C ma t0 mi g n1 n2 nL n4 n5 th rep bro hR y v f x h1 h2) (cwV 4 hts gX12_creditBy_X12_isNoHarm rfl rfl rfl (by decide +kernel) ⟨Nat.le_of_ble_eq_true rfl, Nat.le_of_ble_eq_true rfl⟩) ⟨zBl mI_blind, (va_recv hK (hM.Pa hR.o.1 rfl hR.o.2) (ci := 13) (q0 := 0) rfl rfl), fun U h1 h2 => ⟨rfl, mI_pre hM hK hMS hS U h1 h2⟩⟩ rfl rfl hl.1 rfl (lv_room (Nat.le_of_ble_eq_true rfl)) dX12_creditBy_6 ⟨Nat.le_of_ble_eq_true rfl, Nat.le_of_ble_eq_true rfl⟩) hS (fun _ _ h => h) (fun _ h => h) (fun r_2 C_1 t H1 locs ht hvm hw hB9 hz1 hk1 hS => ?_)
  obtain ⟨hr_2, hR_3⟩ := hw
  obtain ⟨hM, -, -⟩ := hB9
  rw [ht] at hM
  clear hk1 hz1 hvm ht
  clear t
  generalize H1 = H at hM hS ⊢
  subst hr_2
  refine lv_if_eq (tgt := 14) hx hb dX12_creditBy_9 (by decide) (fun c_4 => ?_) (fun c_4 => ?_)
  · have c_4 := bI_f c_4
    cases c_4
  · have c_4 := bI_t c_4
    refine lv_iconst (v := nI 0) hx hb dX12_creditBy_12 (by decide) ?_
    exact W.iret (v := nI 0) hx hb hr (fun t ht hW => ⟨⟨_, C_1, rfl, ⟨rfl, hR_3⟩, mI_pre hM hK hMS hS t ht hW⟩, hS.F ht⟩) hS.2.2 dX12_creditBy_13
set_option maxHeartbeats 600000 in
set_option maxRecDepth 100000 in
theorem m_missing (l : Launch) (D : va_G) (ty : Nat → ClassId) (A : Nat → Prop) (u : Nat → Nat → Prop) (C : Nat → Nat → va_E) (ma : Nat → Nat → Nat) (t0 mi : Nat) (g : Nat → Nat → Int32) (n1 n2 nL n4 n5 : Nat) (th : Int32) (rep bro : Nat → Nat → Int32) (hR : mR ty t0 g n1 n2 nL n4 n5 th rep bro u C ma) (i f : Nat) (hi : i < n1) (hf : f < nF g i) (x : Int32) (hx1 : ¬ x < nI 0) (hx2 : ¬ nI 1000 < x) (hv0 : 0 < nV g i) (ht0 : g 20 ((i * 6 + (nV g i - 1)) * 6 + f) = 0) : Met l yX12_missing wsX12_missing ({ frames := 7, cells := 57, slots := 344, locals := 192 }) (va_Pc [.ref (ma 0 0), .int (nI i), .int (nI f), .int x] (mI D ty A u C ma t0 mi)) (va_Qi (fun (v9 : Int32) (C2 : Nat → Nat → va_E) => v9 = setlN (rse g ((i * 6 + (nV g i - 1)) * 6 + f) (ovr x (g 11 (i * 6 + f)))) nL ((i * 6 + (nV g i - 1)) * 6 + f) ∧ mR ty t0 (misG g nL ((i * 6 + (nV g i - 1)) * 6 + f) (ovr x (g 11 (i * 6 + f)))) n1 n2 nL n4 n5 (nI 0) (rep) (fun q => if q = i * 6 + (nV g i - 1) then upd (bro (i * 6 + (nV g i - 1))) f (ovr x (g 11 (i * 6 + f))) else bro q) u C2 ma) (fun C2 t => mI D ty A u C2 ma t0 mi t) A) 57 344 A := by
  refine zMet (cc := cX12_missing) (maxL := 6) (ret := (some .int)) (by decide) rfl (Nat.le_of_ble_eq_true rfl) ?_
  intro p e s m below meth c hx hb hr hts hown hlocks hml hB ls hl
  obtain ⟨hM, hK, hMS⟩ := hB
  have hS : va_S A s.heap s.heap [] := va_S.rf
  have hbn := hR.I.b1
  have hbs := hR.I.b2
  have hbl := hR.I.bL
  have hbc := hR.I.b4
  have hbr := hR.I.b5
  have h1 := bFld_ok hR.I hi hf
  have hf7 := (hR.I.f7 hi).2.2
  have hv7 := (hR.I.v7 hi).2
  have h2 : (!inB x (nI 0) (nI 1000)) = false := by rw [inB_r hx1 hx2]; rfl
  have hl : lv_has ls 6 [(0, .ref (ma 0 0)), (1, .int (nI i)), (2, .int (nI f)), (3, .int x)] := hl
  have hinX12 : ∀ w ∈ wsX120, w ∈ wsX12_missing := by decide +kernel
  have hk1 := hts (.fieldLink RX12 10 "DatamarketDeskModel" "sets" "Ljava/util/ArrayList;") (by decide +kernel)
  have hk2 := hts (.classLink RX12 49 "DatamarketDeskModel$DataSet") (by decide +kernel)
  have hinX7 : ∀ w ∈ wsX70, w ∈ wsX12_missing := by decide +kernel
  have hk4 := hts (.fieldLink RX12 69 "DatamarketDeskModel$DataSet" "versions" "Ljava/util/ArrayList;") (by decide +kernel)
  have hk5 := hts (.classLink RX12 72 "DatamarketDeskModel$Version") (by decide +kernel)
  have hinX11 : ∀ w ∈ wsX110, w ∈ wsX12_missing := by decide +kernel
  have hk7 := hts (.fieldLink RX12 144 "DatamarketDeskModel$Version" "isTold" "[Z") (by decide +kernel)
  have hk8 := hts (.fieldLink RX12 78 "DatamarketDeskModel$Version" "broken" "[I") (by decide +kernel)
  have hk9 := hts (.fieldLink RX12 117 "DatamarketDeskModel$DataSet" "rules" "[I") (by decide +kernel)
  refine lv_aload_n hx hb dX12_missing_0 rfl (lv_at hl 0 rfl) ?_
  refine lv_aload_n hx hb dX12_missing_1 rfl (lv_at hl 0 rfl) ?_
  refine lv_iload_n hx hb dX12_missing_2 rfl (lv_at hl 1 rfl) ?_
  refine lv_iload_n hx hb dX12_missing_3 rfl (lv_at hl 2 rfl) ?_
  refine zcVi (As := [.int (nI i), .int (nI f)]) (rest := [.ref (ma 0 0)]) ⟨hx, hb, hml, hown, hts⟩ (c_X12_isNoField l D ty A u C ma t0 mi g n1 n2 nL n4 n5 th rep bro hR (nI i) (nI f)) (cwV 2 hts gX12_missing_X12_isNoField rfl rfl rfl (by decide +kernel) ⟨Nat.le_of_ble_eq_true rfl, Nat.le_of_ble_eq_true rfl⟩) mI_blind (mI_pre hM hK hMS hS) (va_recv hK (hM.Pa hR.o.1 rfl hR.o.2) (ci := 13) (q0 := 0) rfl rfl) rfl hl.1 rfl (Nat.le_of_ble_eq_true rfl) dX12_missing_4 ⟨Nat.le_of_ble_eq_true rfl, Nat.le_of_ble_eq_true rfl⟩ (fun r_1 hr_1 => ?_)
  subst hr_1
  refine zeq (show bI _ = bI false from by rw [h1]) ?_
  refine lv_iconst (v := nI 1) hx hb dX12_missing_7 (by decide) ?_
  refine va_calli (va_runV (As := [.int (bI false), .int (nI 1)]) (rest := []) ⟨hx, hb, hml, hown, hts⟩ (c_X12_start_f l D ty A u C ma t0 mi g n1 n2 nL n4 n5 th rep bro hR 1 (by omega) (by omega)) (cwV 2 hts gX12_missing_X12_start rfl rfl rfl (by decide +kernel) ⟨Nat.le_of_ble_eq_true rfl, Nat.le_of_ble_eq_true rfl⟩) ⟨zBl mI_blind, (va_recv hK (hM.Pa hR.o.1 rfl hR.o.2) (ci := 13) (q0 := 0) rfl rfl), fun U h1 h2 => ⟨rfl, mI_pre hM hK hMS hS U h1 h2⟩⟩ rfl rfl hl.1 rfl (lv_room (Nat.le_of_ble_eq_true rfl)) dX12_missing_8 ⟨Nat.le_of_ble_eq_true rfl, Nat.le_of_ble_eq_true rfl⟩) hS (fun _ _ h => h) (fun _ h => h) (fun r_3 C_2 t H1 locs ht hvm hw hB9 hz1 hk1 hS => ?_)
  obtain ⟨hr_3, hR_4⟩ := hw
  obtain ⟨hM, -, -⟩ := hB9
  rw [ht] at hM
  clear hk1 hz1 hvm ht
  clear t
  generalize H1 = H at hM hS ⊢
  subst hr_3
  refine lv_if_ne (tgt := 38) hx hb dX12_missing_11 (by decide) (fun c_5 => ?_) (fun c_5 => ?_)
  · have c_5 := bI_t c_5
    cases c_5
  · have c_5 := bI_f c_5
    refine lv_aload_n hx hb dX12_missing_14 rfl (lv_at hl 0 rfl) ?_
    refine lv_iload_n hx hb dX12_missing_15 rfl (lv_at hl 3 rfl) ?_
    refine lv_iconst (v := nI 0) hx hb dX12_missing_16 (by decide) ?_
    refine lv_sipush (v := nI 1000) hx hb dX12_missing_17 (by decide) ?_
    refine zcSi (As := [.int x, .int (nI 0), .int (nI 1000)]) (rest := [.ref (ma 0 0)]) ⟨hx, hb, hml, hown, hts⟩ (c_X12_isIn l _ x (nI 0) (nI 1000)) (cwS 3 hts gX12_missing_X12_isIn rfl rfl rfl (by decide +kernel) ⟨Nat.le_of_ble_eq_true rfl, Nat.le_of_ble_eq_true rfl⟩) (B := fun _ => True) (fun _ _ _ _ _ => trivial) (fun _ _ _ => trivial) rfl hl.1 rfl (Nat.le_of_ble_eq_true rfl) dX12_missing_20 ⟨Nat.le_of_ble_eq_true rfl, Nat.le_of_ble_eq_true rfl⟩ (fun r_6 hr_6 => ?_)
    subst hr_6
    refine lv_if_ne (tgt := 30) hx hb dX12_missing_23 (by decide) (fun c_7 => ?_) (fun c_7 => ?_)
    · have c_7 := bI_t c_7
      refine lv_iconst (v := nI 0) hx hb dX12_missing_30 (by decide) ?_
      refine zeq (show nI 0 = bI false from rfl) ?_
      refine lv_iconst (v := nI 2) hx hb dX12_missing_31 (by decide) ?_
      refine zcVi (As := [.int (bI false), .int (nI 2)]) (rest := []) ⟨hx, hb, hml, hown, hts⟩ (c_X12_refuse_f l D ty A u C_2 ma t0 mi g n1 n2 nL n4 n5 (nI 0) rep bro hR_4 rfl (nI 2)) (cwV 2 hts gX12_missing_X12_refuse rfl rfl rfl (by decide +kernel) ⟨Nat.le_of_ble_eq_true rfl, Nat.le_of_ble_eq_true rfl⟩) mI_blind (mI_pre hM hK hMS hS) (va_recv hK (hM.Pa hR_4.o.1 rfl hR_4.o.2) (ci := 13) (q0 := 0) rfl rfl) rfl hl.1 rfl (Nat.le_of_ble_eq_true rfl) dX12_missing_32 ⟨Nat.le_of_ble_eq_true rfl, Nat.le_of_ble_eq_true rfl⟩ (fun r_8 hr_8 => ?_)
      subst hr_8
      refine lv_if_eq (tgt := 40) hx hb dX12_missing_35 (by decide) (fun c_9 => ?_) (fun c_9 => ?_)
      · have c_9 := bI_f c_9
        refine lv_aload_n hx hb dX12_missing_40 rfl (lv_at hl 0 rfl) ?_
        refine va_get hx hb hts hinX12 hown hK (hM.Pa hR_4.o.1 rfl hR_4.o.2) 0 rfl rfl 1 (by decide) (hk1) (fun _ h9 => h9) rfl dX12_missing_41 ?_
        refine lv_iload_n hx hb dX12_missing_44 rfl (lv_at hl 1 rfl) ?_
        obtain ⟨huz_10, hnz_10, mz_10, bz_10, hCz_10⟩ := isL.hd hR_4.l1
        refine zcVr (x := .ref (ma 9 i)) (As := [.int (nI i)]) (rest := []) ⟨hx, hb, hml, hown, hts⟩ (c_get l D ty A u C_2 ma t0 mi 1 0 n1 (ma 9) hR_4.l1 i (by omega)) (cwV 1 hts gX12_missing_Jx4a65c_get_915e3 rfl rfl rfl (by decide +kernel) ⟨Nat.le_of_ble_eq_true rfl, Nat.le_of_ble_eq_true rfl⟩) mI_blind (mI_pre hM hK hMS hS) (va_recv hK (hM.Pa huz_10 rfl hCz_10) (ci := 0) (q0 := 0) rfl rfl) rfl hl.1 rfl (Nat.le_of_ble_eq_true rfl) dX12_missing_45 ⟨Nat.le_of_ble_eq_true rfl, Nat.le_of_ble_eq_true rfl⟩ ?_
        refine va_castS hx hb hown (hk2) ((hK.1 8 _ rfl).2) (va_recv hK (hM.Pa (hR_4.s9 (i := i) (by omega)).1 rfl (hR_4.s9 (i := i) (by omega)).2) (ci := 8) (q0 := 0) rfl rfl) dX12_missing_48 ?_
        refine lv_astore (lv' := [(4, .ref (ma 9 i)), (0, .ref (ma 0 0)), (1, .int (nI i)), (2, .int (nI f)), (3, .int x)]) hx hb dX12_missing_51 hl (by decide) rfl (fun ls hl => ?_)
        refine lv_aload_n hx hb dX12_missing_53 rfl (lv_at hl 1 rfl) ?_
        refine lv_aload hx hb dX12_missing_54 (lv_at hl 0 rfl) ?_
        refine va_get hx hb hts hinX7 hown hK (hM.Pa (hR_4.s9 (i := i) (by omega)).1 rfl (hR_4.s9 (i := i) (by omega)).2) 0 rfl rfl 3 (by decide) (hk4) (fun _ h9 => h9) rfl dX12_missing_56 ?_
        obtain ⟨huz_12, hnz_12, mz_12, bz_12, hCz_12⟩ := isL.hd (hR_4.s12 (i := i) (by omega))
        refine zcVi (As := []) (rest := [.ref (ma 0 0)]) ⟨hx, hb, hml, hown, hts⟩ (c_isEmpty l D ty A u C_2 ma t0 mi 12 i (nV g i) (fun v => ma 15 (i * 6 + v)) (hR_4.s12 (i := i) (by omega))) (cwV 0 hts gX12_missing_Jx4a65c_isEmpty_aae02 rfl rfl rfl (by decide +kernel) ⟨Nat.le_of_ble_eq_true rfl, Nat.le_of_ble_eq_true rfl⟩) mI_blind (mI_pre hM hK hMS hS) (va_recv hK (hM.Pa huz_12 rfl hCz_12) (ci := 0) (q0 := 0) rfl rfl) rfl hl.1 rfl (Nat.le_of_ble_eq_true rfl) dX12_missing_59 ⟨Nat.le_of_ble_eq_true rfl, Nat.le_of_ble_eq_true rfl⟩ (fun r_13 hr_13 => ?_)
        subst hr_13
        refine lv_if_ne (tgt := 89) hx hb dX12_missing_62 (by decide) (fun c_14 => ?_) (fun c_14 => ?_)
        · have c_14 := bI_t c_14
          exact absurd (of_decide_eq_true c_14) (by omega)
        · have c_14 := bI_f c_14
          refine lv_aload hx hb dX12_missing_65 (lv_at hl 0 rfl) ?_
          refine va_get hx hb hts hinX7 hown hK (hM.Pa (hR_4.s9 (i := i) (by omega)).1 rfl (hR_4.s9 (i := i) (by omega)).2) 0 rfl rfl 3 (by decide) (hk4) (fun _ h9 => h9) rfl dX12_missing_67 ?_
          refine lv_aload hx hb dX12_missing_70 (lv_at hl 0 rfl) ?_
          refine zcVi (As := []) (rest := [.ref (ma 12 i), .ref (ma 0 0)]) ⟨hx, hb, hml, hown, hts⟩ (c_X7_latest l D ty A u C_2 ma t0 mi g n1 n2 nL n4 n5 (nI 0) rep bro hR_4 i (by omega)) (cwV 0 hts gX12_missing_X7_latest rfl rfl rfl (by decide +kernel) ⟨Nat.le_of_ble_eq_true rfl, Nat.le_of_ble_eq_true rfl⟩) mI_blind (mI_pre hM hK hMS hS) (va_recv hK (hM.Pa (hR_4.s9 (i := i) (by omega)).1 rfl (hR_4.s9 (i := i) (by omega)).2) (ci := 8) (q0 := 0) rfl rfl) rfl hl.1 rfl (Nat.le_of_ble_eq_true rfl) dX12_missing_72 ⟨Nat.le_of_ble_eq_true rfl, Nat.le_of_ble_eq_true rfl⟩ (fun r_15 hr_15 => ?_)
          subst hr_15
          refine zeq (pk_sub (a := nV g i) (b := 1) (by omega)) ?_
          obtain ⟨huz_16, hnz_16, mz_16, bz_16, hCz_16⟩ := isL.hd (hR_4.s12 (i := i) (by omega))
          refine zcVr (x := .ref (ma 15 (i * 6 + (nV g i - 1)))) (As := [.int (nI (nV g i - 1))]) (rest := [.ref (ma 0 0)]) ⟨hx, hb, hml, hown, hts⟩ (c_get l D ty A u C_2 ma t0 mi 12 i (nV g i) (fun v => ma 15 (i * 6 + v)) (hR_4.s12 (i := i) (by omega)) (nV g i - 1) (by omega)) (cwV 1 hts gX12_missing_Jx4a65c_get_915e3 rfl rfl rfl (by decide +kernel) ⟨Nat.le_of_ble_eq_true rfl, Nat.le_of_ble_eq_true rfl⟩) mI_blind (mI_pre hM hK hMS hS) (va_recv hK (hM.Pa huz_16 rfl hCz_16) (ci := 0) (q0 := 0) rfl rfl) rfl hl.1 rfl (Nat.le_of_ble_eq_true rfl) dX12_missing_75 ⟨Nat.le_of_ble_eq_true rfl, Nat.le_of_ble_eq_true rfl⟩ ?_
          refine va_castS hx hb hown (hk5) ((hK.1 12 _ rfl).2) (va_recv hK (hM.Pa (hR_4.v15 (i := i) (v := nV g i - 1) (by omega) (by omega)).1 rfl (hR_4.v15 (i := i) (v := nV g i - 1) (by omega) (by omega)).2) (ci := 12) (q0 := 0) rfl rfl) dX12_missing_78 ?_
          refine va_get hx hb hts hinX11 hown hK (hM.Pa (hR_4.v15 (i := i) (v := nV g i - 1) (by omega) (by omega)).1 rfl (hR_4.v15 (i := i) (v := nV g i - 1) (by omega) (by omega)).2) 0 rfl rfl 3 (by decide) (hk7) (fun _ h9 => h9) rfl dX12_missing_81 ?_
          refine lv_iload_n hx hb dX12_missing_84 rfl (lv_at hl 3 rfl) ?_
          refine zaldz hx hb hK (hM.Pa (hR_4.v18 (i := i) (v := nV g i - 1) (by omega) (by omega)).1 rfl (hR_4.v18 (i := i) (v := nV g i - 1) (by omega) (by omega)).2) 0 1 rfl rfl (i := f) (by omega) (by omega) dX12_missing_85 ?_
          refine zeq (row6_at (by omega)) ?_
          refine lv_if_eq (tgt := 93) hx hb dX12_missing_86 (by decide) (fun c_18 => ?_) (fun c_18 => ?_)
          · refine lv_iconst (v := nI 0) hx hb dX12_missing_93 (by decide) ?_
            refine zeq (show nI 0 = bI false from rfl) ?_
            refine lv_iconst (v := nI 3) hx hb dX12_missing_94 (by decide) ?_
            refine zcVi (As := [.int (bI false), .int (nI 3)]) (rest := []) ⟨hx, hb, hml, hown, hts⟩ (c_X12_refuse_f l D ty A u C_2 ma t0 mi g n1 n2 nL n4 n5 (nI 0) rep bro hR_4 rfl (nI 3)) (cwV 2 hts gX12_missing_X12_refuse rfl rfl rfl (by decide +kernel) ⟨Nat.le_of_ble_eq_true rfl, Nat.le_of_ble_eq_true rfl⟩) mI_blind (mI_pre hM hK hMS hS) (va_recv hK (hM.Pa hR_4.o.1 rfl hR_4.o.2) (ci := 13) (q0 := 0) rfl rfl) rfl hl.1 rfl (Nat.le_of_ble_eq_true rfl) dX12_missing_95 ⟨Nat.le_of_ble_eq_true rfl, Nat.le_of_ble_eq_true rfl⟩ (fun r_19 hr_19 => ?_)
            subst hr_19
            refine lv_if_eq (tgt := 103) hx hb dX12_missing_98 (by decide) (fun c_20 => ?_) (fun c_20 => ?_)
            · have c_20 := bI_f c_20
              refine lv_aload hx hb dX12_missing_103 (lv_at hl 0 rfl) ?_
              refine va_get hx hb hts hinX7 hown hK (hM.Pa (hR_4.s9 (i := i) (by omega)).1 rfl (hR_4.s9 (i := i) (by omega)).2) 0 rfl rfl 3 (by decide) (hk4) (fun _ h9 => h9) rfl dX12_missing_105 ?_
              refine lv_aload hx hb dX12_missing_108 (lv_at hl 0 rfl) ?_
              refine zcVi (As := []) (rest := [.ref (ma 12 i)]) ⟨hx, hb, hml, hown, hts⟩ (c_X7_latest l D ty A u C_2 ma t0 mi g n1 n2 nL n4 n5 (nI 0) rep bro hR_4 i (by omega)) (cwV 0 hts gX12_missing_X7_latest rfl rfl rfl (by decide +kernel) ⟨Nat.le_of_ble_eq_true rfl, Nat.le_of_ble_eq_true rfl⟩) mI_blind (mI_pre hM hK hMS hS) (va_recv hK (hM.Pa (hR_4.s9 (i := i) (by omega)).1 rfl (hR_4.s9 (i := i) (by omega)).2) (ci := 8) (q0 := 0) rfl rfl) rfl hl.1 rfl (Nat.le_of_ble_eq_true rfl) dX12_missing_110 ⟨Nat.le_of_ble_eq_true rfl, Nat.le_of_ble_eq_true rfl⟩ (fun r_21 hr_21 => ?_)
              subst hr_21
              refine zeq (pk_sub (a := nV g i) (b := 1) (by omega)) ?_
              obtain ⟨huz_22, hnz_22, mz_22, bz_22, hCz_22⟩ := isL.hd (hR_4.s12 (i := i) (by omega))
              refine zcVr (x := .ref (ma 15 (i * 6 + (nV g i - 1)))) (As := [.int (nI (nV g i - 1))]) (rest := []) ⟨hx, hb, hml, hown, hts⟩ (c_get l D ty A u C_2 ma t0 mi 12 i (nV g i) (fun v => ma 15 (i * 6 + v)) (hR_4.s12 (i := i) (by omega)) (nV g i - 1) (by omega)) (cwV 1 hts gX12_missing_Jx4a65c_get_915e3 rfl rfl rfl (by decide +kernel) ⟨Nat.le_of_ble_eq_true rfl, Nat.le_of_ble_eq_true rfl⟩) mI_blind (mI_pre hM hK hMS hS) (va_recv hK (hM.Pa huz_22 rfl hCz_22) (ci := 0) (q0 := 0) rfl rfl) rfl hl.1 rfl (Nat.le_of_ble_eq_true rfl) dX12_missing_113 ⟨Nat.le_of_ble_eq_true rfl, Nat.le_of_ble_eq_true rfl⟩ ?_
              refine va_castS hx hb hown (hk5) ((hK.1 12 _ rfl).2) (va_recv hK (hM.Pa (hR_4.v15 (i := i) (v := nV g i - 1) (by omega) (by omega)).1 rfl (hR_4.v15 (i := i) (v := nV g i - 1) (by omega) (by omega)).2) (ci := 12) (q0 := 0) rfl rfl) dX12_missing_116 ?_
              refine lv_astore (lv' := [(5, .ref (ma 15 (i * 6 + (nV g i - 1)))), (4, .ref (ma 9 i)), (0, .ref (ma 0 0)), (1, .int (nI i)), (2, .int (nI f)), (3, .int x)]) hx hb dX12_missing_119 hl (by decide) rfl (fun ls hl => ?_)
              refine lv_aload hx hb dX12_missing_121 (lv_at hl 0 rfl) ?_
              refine va_get hx hb hts hinX11 hown hK (hM.Pa (hR_4.v15 (i := i) (v := nV g i - 1) (by omega) (by omega)).1 rfl (hR_4.v15 (i := i) (v := nV g i - 1) (by omega) (by omega)).2) 0 rfl rfl 3 (by decide) (hk7) (fun _ h9 => h9) rfl dX12_missing_123 ?_
              refine lv_iload_n hx hb dX12_missing_126 rfl (lv_at hl 4 rfl) ?_
              refine lv_iconst (v := nI 1) hx hb dX12_missing_127 (by decide) ?_
              refine mzast hx hb hK hM hS (hR_4.v18 (i := i) (v := nV g i - 1) (by omega) (by omega)).1 rfl 1 (hR_4.v18 (i := i) (v := nV g i - 1) (by omega) (by omega)).2 rfl (i := f) (by omega) (by omega) (by decide) dX12_missing_128 (fun H locs hM hS ho => ?_)
              obtain ⟨C_24, eC_24⟩ : ∃ z, z = up2 C_2 18 (i * 6 + (nV g i - 1)) (eI (ty 1) 6 (upd (row6 (g 20) ((i * 6 + (nV g i - 1)) * 6)) f (nI 1))) := ⟨_, rfl⟩
              have hM : mW D A u C_24 ma H := by rw [eC_24]; exact hM
              have hC_25 : C_24 9 i = eO 8 [.int (g 7 i), .ref (ma 10 i), .ref (ma 11 i), .ref (ma 12 i), .ref (ma 14 i)] := by rw [eC_24, up2_n _ _ (fun z => by omega)]; exact (hR_4.s9 (i := i) (by omega)).2
              have hC_26 : C_24 11 i = eI (ty 0) 6 (row6 (g 11) (i * 6)) := by rw [eC_24, up2_n _ _ (fun z => by omega)]; exact (hR_4.s11 (i := i) (by omega)).2
              have hC_27 : C_24 15 (i * 6 + (nV g i - 1)) = eO 12 [.int (g 9 (i * 6 + (nV g i - 1))), .ref (ma 16 (i * 6 + (nV g i - 1))), .ref (ma 17 (i * 6 + (nV g i - 1))), .ref (ma 18 (i * 6 + (nV g i - 1))), .ref (ma 19 (i * 6 + (nV g i - 1)))] := by rw [eC_24, up2_n _ _ (fun z => by omega)]; exact (hR_4.v15 (i := i) (v := nV g i - 1) (by omega) (by omega)).2
              have hC_28 : C_24 17 (i * 6 + (nV g i - 1)) = eI (ty 0) 6 (bro (i * 6 + (nV g i - 1))) := by rw [eC_24, up2_n _ _ (fun z => by omega)]; exact (hR_4.v17 (i := i) (v := nV g i - 1) (by omega) (by omega)).2
              have hC_29 : C_24 18 (i * 6 + (nV g i - 1)) = eI (ty 1) 6 (upd (row6 (g 20) ((i * 6 + (nV g i - 1)) * 6)) f (nI 1)) := by rw [eC_24]; exact up2_s _ _ _ _
              refine lv_aload hx hb dX12_missing_129 (lv_at hl 0 rfl) ?_
              refine va_get hx hb hts hinX11 hown hK (hM.Pa (hR_4.v15 (i := i) (v := nV g i - 1) (by omega) (by omega)).1 rfl hC_27) 0 rfl rfl 2 (by decide) (hk8) (fun _ h9 => h9) rfl dX12_missing_131 ?_
              refine lv_iload_n hx hb dX12_missing_134 rfl (lv_at hl 4 rfl) ?_
              refine lv_iconst (v := nI 0) hx hb dX12_missing_135 (by decide) ?_
              refine lv_iload_n hx hb dX12_missing_136 rfl (lv_at hl 5 rfl) ?_
              refine lv_aload hx hb dX12_missing_137 (lv_at hl 1 rfl) ?_
              refine va_get hx hb hts hinX7 hown hK (hM.Pa (hR_4.s9 (i := i) (by omega)).1 rfl hC_25) 0 rfl rfl 2 (by decide) (hk9) (fun _ h9 => h9) rfl dX12_missing_139 ?_
              refine lv_iload_n hx hb dX12_missing_142 rfl (lv_at hl 4 rfl) ?_
              refine zald hx hb hK (hM.Pa (hR_4.s11 (i := i) (by omega)).1 rfl hC_26) 0 0 rfl rfl (i := f) (by omega) (by omega) dX12_missing_143 ?_
              refine zeq (row6_at (by omega)) ?_
              refine lv_isub hx hb dX12_missing_144 ?_
              refine va_mmax hx hb (hml.trans hl.1.symm) hown (hts (.methodLink RX12 81 Lib.Math.max.name) (by decide +kernel)) (hts (.static Lib.Math.max.name) (by decide +kernel)) (hts (.initialized "java/lang/Math") (by decide +kernel)) (hts (.code Lib.Math.max.name Lib.Math.max.code 2 (some .int)) (by decide +kernel)) (Nat.le_of_ble_eq_true rfl) (Nat.le_of_ble_eq_true rfl) (Nat.le_of_ble_eq_true rfl) (Nat.le_of_ble_eq_true rfl) dX12_missing_145 ?_
              refine zeq (zmax_def (nI 0) (x - (g 11 (i * 6 + f)))).symm ?_
              refine lv_bipush (v := nI 10) hx hb dX12_missing_148 (by decide) ?_
              refine lv_idiv hx hb dX12_missing_150 (by decide) ?_
              refine zeq (ovr_eq _ _) ?_
              refine miast hx hb hK hM hS (hR_4.v17 (i := i) (v := nV g i - 1) (by omega) (by omega)).1 rfl 0 hC_28 rfl (i := f) (by omega) (by omega) dX12_missing_151 (fun H locs hM hS ho => ?_)
              obtain ⟨C_30, eC_30⟩ : ∃ z, z = up2 C_24 17 (i * 6 + (nV g i - 1)) (eI (ty 0) 6 (upd (bro (i * 6 + (nV g i - 1))) f (ovr x (g 11 (i * 6 + f))))) := ⟨_, rfl⟩
              have hM : mW D A u C_30 ma H := by rw [eC_30]; exact hM
              have hC_31 : C_30 9 i = eO 8 [.int (g 7 i), .ref (ma 10 i), .ref (ma 11 i), .ref (ma 12 i), .ref (ma 14 i)] := by rw [eC_30, up2_n _ _ (fun z => by omega)]; exact hC_25
              have hC_32 : C_30 11 i = eI (ty 0) 6 (row6 (g 11) (i * 6)) := by rw [eC_30, up2_n _ _ (fun z => by omega)]; exact hC_26
              have hC_33 : C_30 15 (i * 6 + (nV g i - 1)) = eO 12 [.int (g 9 (i * 6 + (nV g i - 1))), .ref (ma 16 (i * 6 + (nV g i - 1))), .ref (ma 17 (i * 6 + (nV g i - 1))), .ref (ma 18 (i * 6 + (nV g i - 1))), .ref (ma 19 (i * 6 + (nV g i - 1)))] := by rw [eC_30, up2_n _ _ (fun z => by omega)]; exact hC_27
              have hC_34 : C_30 17 (i * 6 + (nV g i - 1)) = eI (ty 0) 6 (upd (bro (i * 6 + (nV g i - 1))) f (ovr x (g 11 (i * 6 + f)))) := by rw [eC_30]; exact up2_s _ _ _ _
              have hC_35 : C_30 18 (i * 6 + (nV g i - 1)) = eI (ty 1) 6 (upd (row6 (g 20) ((i * 6 + (nV g i - 1)) * 6)) f (nI 1)) := by rw [eC_30, up2_n _ _ (fun z => by omega)]; exact hC_29
              have hR_36 : mR ty t0 (misG g nL ((i * 6 + (nV g i - 1)) * 6 + f) (ovr x (g 11 (i * 6 + f)))) n1 n2 nL n4 n5 (nI 0) rep (fun q => if q = i * 6 + (nV g i - 1) then upd (bro (i * 6 + (nV g i - 1))) f (ovr x (g 11 (i * 6 + f))) else bro q) u C_30 ma := by rw [eC_30, eC_24]; exact mR_mis hR_4 hi (by omega) (by omega) (ovr_pos _ _) ht0
              refine lv_aload_n hx hb dX12_missing_152 rfl (lv_at hl 2 rfl) ?_
              have hFc : ∀ q : Nat, H.size ≤ q → A q := fun q h => hM.2.2 q h
              refine va_callr (va_runV (As := []) (rest := []) ⟨hx, hb, hml, hown, hts⟩ (c_X12_harms l D ty A u C_30 ma t0 mi (misG g nL ((i * 6 + (nV g i - 1)) * 6 + f) (ovr x (g 11 (i * 6 + f)))) n1 n2 nL n4 n5 (nI 0) rep (fun q => if q = i * 6 + (nV g i - 1) then upd (bro (i * 6 + (nV g i - 1))) f (ovr x (g 11 (i * 6 + f))) else bro q) hR_36 H.size) (cwV 0 hts gX12_missing_X12_harms rfl rfl rfl (by decide +kernel) ⟨Nat.le_of_ble_eq_true rfl, Nat.le_of_ble_eq_true rfl⟩) ⟨zBl mIs_blind, (va_recv hK (hM.Pa hR_36.o.1 rfl hR_36.o.2) (ci := 13) (q0 := 0) rfl rfl), fun U h1 h2 => ⟨rfl, mI_pre hM hK hMS hS U h1 h2, by rw [h1]⟩⟩ rfl rfl hl.1 rfl (lv_room (Nat.le_of_ble_eq_true rfl)) dX12_missing_153 ⟨Nat.le_of_ble_eq_true rfl, Nat.le_of_ble_eq_true rfl⟩) hS (fun q _ h => hFc q h) hFc (fun u9 ah t H1 locs ht hvm hw hB9 hz1 hk1 hS => ?_)
              have ho9 : ∀ q : Nat, q < H.size → H1[q]? = H[q]? := fun q hq => hk1 q hq (Nat.not_le.mpr hq)
              have hM := hM.ext (fun q hq _ => ho9 q hq) hz1
              obtain ⟨hmb, hmd, hA, hAd⟩ := hB9
              rw [ht] at hA
              clear hk1 hz1 hvm ht ho9 hFc
              clear t
              generalize H1 = H at hM hS hA ⊢
              refine lv_iload_n hx hb dX12_missing_156 rfl (lv_at hl 3 rfl) ?_
              refine maldq hx hb hK (va_P1 hA.1) 0 4 rfl rfl (vp_in_nI (by omega) (by omega)) dX12_missing_157 ?_
              refine zeqv (y := .ref (hmb i)) (by rw [nI_clamp (by omega)]; rfl) ?_
              refine lv_aload hx hb dX12_missing_158 (lv_at hl 1 rfl) ?_
              refine zcVi (As := []) (rest := [.ref (hmb i)]) ⟨hx, hb, hml, hown, hts⟩ (c_X7_latest l D ty A u C_30 ma t0 mi (misG g nL ((i * 6 + (nV g i - 1)) * 6 + f) (ovr x (g 11 (i * 6 + f)))) n1 n2 nL n4 n5 (nI 0) rep (fun q => if q = i * 6 + (nV g i - 1) then upd (bro (i * 6 + (nV g i - 1))) f (ovr x (g 11 (i * 6 + f))) else bro q) hR_36 i (by omega)) (cwV 0 hts gX12_missing_X7_latest rfl rfl rfl (by decide +kernel) ⟨Nat.le_of_ble_eq_true rfl, Nat.le_of_ble_eq_true rfl⟩) mI_blind (mI_pre hM hK hMS hS) (va_recv hK (hM.Pa (hR_36.s9 (i := i) (by omega)).1 rfl (hR_36.s9 (i := i) (by omega)).2) (ci := 8) (q0 := 0) rfl rfl) rfl hl.1 rfl (Nat.le_of_ble_eq_true rfl) dX12_missing_160 ⟨Nat.le_of_ble_eq_true rfl, Nat.le_of_ble_eq_true rfl⟩ (fun r_38 hr_38 => ?_)
              subst hr_38
              refine zeq (show _ = nI (nV g i - 1) from pk_sub (a := nV g i) (b := 1) (by omega)) ?_
              refine maldq hx hb hK (va_P1 (hA.2.1 (i) (by omega))) 0 3 rfl rfl (vp_in_nI (by omega) (by omega)) dX12_missing_163 ?_
              refine zeqv (y := .ref (hmd (i * 6 + (nV g i - 1)))) (by rw [nI_clamp (by omega)]; rfl) ?_
              refine lv_iload_n hx hb dX12_missing_164 rfl (lv_at hl 4 rfl) ?_
              refine zald hx hb hK (va_P1 (hA.2.2 (i * 6 + (nV g i - 1)) (by omega))) 0 0 rfl rfl (i := f) (by omega) (by omega) dX12_missing_165 ?_
              refine zeq (row6_at (by omega)) ?_
              refine W.widen (k := 57) (n := 344) (by omega) (by omega) ?_
              exact W.iret (v := (misG g nL ((i * 6 + (nV g i - 1)) * 6 + f) (ovr x (g 11 (i * 6 + f)))) 21 ((i * 6 + (nV g i - 1)) * 6 + f)) hx hb hr (fun t ht hW => ⟨⟨_, C_30, rfl, ⟨rfl, hR_36⟩, mI_pre hM hK hMS hS t ht hW⟩, hS.F ht⟩) hS.2.2 dX12_missing_166
            · have c_20 := bI_t c_20
              cases c_20
          · exact absurd ht0 c_18
      · have c_9 := bI_t c_9
        cases c_9
    · have c_7 := bI_f c_7
      simp only [c_5, c_7, Bool.not_true, Bool.not_false, Bool.and_true, Bool.true_and, Bool.and_false, Bool.false_and, Bool.or_true, Bool.true_or, Bool.or_false, Bool.false_or, Bool.and_self, Bool.or_self, Bool.true_eq_false, Bool.false_eq_true] at h2
set_option maxHeartbeats 600000 in
set_option maxRecDepth 100000 in
theorem m_missing_x1 (l : Launch) (D : va_G) (ty : Nat → ClassId) (A : Nat → Prop) (u : Nat → Nat → Prop) (C : Nat → Nat → va_E) (ma : Nat → Nat → Nat) (t0 mi : Nat) (g : Nat → Nat → Int32) (n1 n2 nL n4 n5 : Nat) (th : Int32) (rep bro : Nat → Nat → Int32) (hR : mR ty t0 g n1 n2 nL n4 n5 th rep bro u C ma) (y f x : Int32) (h1 : bFld g n1 y f = true) : Met l yX12_missing wsX12_missing ({ frames := 7, cells := 0, slots := 0, locals := 192 }) (va_Pc [.ref (ma 0 0), .int y, .int f, .int x] (mI D ty A u C ma t0 mi)) (va_Qi (fun (v9 : Int32) (C2 : Nat → Nat → va_E) => v9 = nI 0 ∧ mR ty t0 g n1 n2 nL n4 n5 (nI 1) rep bro u C2 ma) (fun C2 t => mI D ty A u C2 ma t0 mi t) A) 0 0 A := by
  refine zMet (cc := cX12_missing) (maxL := 6) (ret := (some .int)) (by decide) rfl (Nat.le_of_ble_eq_true rfl) ?_
  intro p e s m below meth c hx hb hr hts hown hlocks hml hB ls hl
  obtain ⟨hM, hK, hMS⟩ := hB
  have hS : va_S A s.heap s.heap [] := va_S.rf
  have hbn := hR.I.b1
  have hbs := hR.I.b2
  have hbl := hR.I.bL
  have hbc := hR.I.b4
  have hbr := hR.I.b5
  have hl : lv_has ls 6 [(0, .ref (ma 0 0)), (1, .int y), (2, .int f), (3, .int x)] := hl
  refine lv_aload_n hx hb dX12_missing_0 rfl (lv_at hl 0 rfl) ?_
  refine lv_aload_n hx hb dX12_missing_1 rfl (lv_at hl 0 rfl) ?_
  refine lv_iload_n hx hb dX12_missing_2 rfl (lv_at hl 1 rfl) ?_
  refine lv_iload_n hx hb dX12_missing_3 rfl (lv_at hl 2 rfl) ?_
  refine zcVi (As := [.int y, .int f]) (rest := [.ref (ma 0 0)]) ⟨hx, hb, hml, hown, hts⟩ (c_X12_isNoField l D ty A u C ma t0 mi g n1 n2 nL n4 n5 th rep bro hR y f) (cwV 2 hts gX12_missing_X12_isNoField rfl rfl rfl (by decide +kernel) ⟨Nat.le_of_ble_eq_true rfl, Nat.le_of_ble_eq_true rfl⟩) mI_blind (mI_pre hM hK hMS hS) (va_recv hK (hM.Pa hR.o.1 rfl hR.o.2) (ci := 13) (q0 := 0) rfl rfl) rfl hl.1 rfl (Nat.le_of_ble_eq_true rfl) dX12_missing_4 ⟨Nat.le_of_ble_eq_true rfl, Nat.le_of_ble_eq_true rfl⟩ (fun r_1 hr_1 => ?_)
  subst hr_1
  refine zeq (show bI _ = bI true from by rw [h1]) ?_
  refine lv_iconst (v := nI 1) hx hb dX12_missing_7 (by decide) ?_
  refine va_calli (va_runV (As := [.int (bI true), .int (nI 1)]) (rest := []) ⟨hx, hb, hml, hown, hts⟩ (c_X12_start_t l D ty A u C ma t0 mi g n1 n2 nL n4 n5 th rep bro hR 1 (by omega) (by omega)) (cwV 2 hts gX12_missing_X12_start rfl rfl rfl (by decide +kernel) ⟨Nat.le_of_ble_eq_true rfl, Nat.le_of_ble_eq_true rfl⟩) ⟨zBl mI_blind, (va_recv hK (hM.Pa hR.o.1 rfl hR.o.2) (ci := 13) (q0 := 0) rfl rfl), fun U h1 h2 => ⟨rfl, mI_pre hM hK hMS hS U h1 h2⟩⟩ rfl rfl hl.1 rfl (lv_room (Nat.le_of_ble_eq_true rfl)) dX12_missing_8 ⟨Nat.le_of_ble_eq_true rfl, Nat.le_of_ble_eq_true rfl⟩) hS (fun _ _ h => h) (fun _ h => h) (fun r_3 C_2 t H1 locs ht hvm hw hB9 hz1 hk1 hS => ?_)
  obtain ⟨hr_3, hR_4⟩ := hw
  obtain ⟨hM, -, -⟩ := hB9
  rw [ht] at hM
  clear hk1 hz1 hvm ht
  clear t
  generalize H1 = H at hM hS ⊢
  subst hr_3
  refine lv_if_ne (tgt := 38) hx hb dX12_missing_11 (by decide) (fun c_5 => ?_) (fun c_5 => ?_)
  · have c_5 := bI_t c_5
    refine lv_iconst (v := nI 0) hx hb dX12_missing_38 (by decide) ?_
    exact W.iret (v := nI 0) hx hb hr (fun t ht hW => ⟨⟨_, C_2, rfl, ⟨rfl, hR_4⟩, mI_pre hM hK hMS hS t ht hW⟩, hS.F ht⟩) hS.2.2 dX12_missing_39
  · have c_5 := bI_f c_5
    cases c_5
set_option maxHeartbeats 600000 in
set_option maxRecDepth 100000 in
theorem m_missing_x2 (l : Launch) (D : va_G) (ty : Nat → ClassId) (A : Nat → Prop) (u : Nat → Nat → Prop) (C : Nat → Nat → va_E) (ma : Nat → Nat → Nat) (t0 mi : Nat) (g : Nat → Nat → Int32) (n1 n2 nL n4 n5 : Nat) (th : Int32) (rep bro : Nat → Nat → Int32) (hR : mR ty t0 g n1 n2 nL n4 n5 th rep bro u C ma) (y f x : Int32) (h1 : bFld g n1 y f = false) (h2 : (!inB x (nI 0) (nI 1000)) = true) : Met l yX12_missing wsX12_missing ({ frames := 7, cells := 0, slots := 0, locals := 192 }) (va_Pc [.ref (ma 0 0), .int y, .int f, .int x] (mI D ty A u C ma t0 mi)) (va_Qi (fun (v9 : Int32) (C2 : Nat → Nat → va_E) => v9 = nI 0 ∧ mR ty t0 g n1 n2 nL n4 n5 (nI 2) rep bro u C2 ma) (fun C2 t => mI D ty A u C2 ma t0 mi t) A) 0 0 A := by
  refine zMet (cc := cX12_missing) (maxL := 6) (ret := (some .int)) (by decide) rfl (Nat.le_of_ble_eq_true rfl) ?_
  intro p e s m below meth c hx hb hr hts hown hlocks hml hB ls hl
  obtain ⟨hM, hK, hMS⟩ := hB
  have hS : va_S A s.heap s.heap [] := va_S.rf
  have hbn := hR.I.b1
  have hbs := hR.I.b2
  have hbl := hR.I.bL
  have hbc := hR.I.b4
  have hbr := hR.I.b5
  have hl : lv_has ls 6 [(0, .ref (ma 0 0)), (1, .int y), (2, .int f), (3, .int x)] := hl
  refine lv_aload_n hx hb dX12_missing_0 rfl (lv_at hl 0 rfl) ?_
  refine lv_aload_n hx hb dX12_missing_1 rfl (lv_at hl 0 rfl) ?_
  refine lv_iload_n hx hb dX12_missing_2 rfl (lv_at hl 1 rfl) ?_
  refine lv_iload_n hx hb dX12_missing_3 rfl (lv_at hl 2 rfl) ?_
  refine zcVi (As := [.int y, .int f]) (rest := [.ref (ma 0 0)]) ⟨hx, hb, hml, hown, hts⟩ (c_X12_isNoField l D ty A u C ma t0 mi g n1 n2 nL n4 n5 th rep bro hR y f) (cwV 2 hts gX12_missing_X12_isNoField rfl rfl rfl (by decide +kernel) ⟨Nat.le_of_ble_eq_true rfl, Nat.le_of_ble_eq_true rfl⟩) mI_blind (mI_pre hM hK hMS hS) (va_recv hK (hM.Pa hR.o.1 rfl hR.o.2) (ci := 13) (q0 := 0) rfl rfl) rfl hl.1 rfl (Nat.le_of_ble_eq_true rfl) dX12_missing_4 ⟨Nat.le_of_ble_eq_true rfl, Nat.le_of_ble_eq_true rfl⟩ (fun r_1 hr_1 => ?_)
  subst hr_1
  refine zeq (show bI _ = bI false from by rw [h1]) ?_
  refine lv_iconst (v := nI 1) hx hb dX12_missing_7 (by decide) ?_
  refine va_calli (va_runV (As := [.int (bI false), .int (nI 1)]) (rest := []) ⟨hx, hb, hml, hown, hts⟩ (c_X12_start_f l D ty A u C ma t0 mi g n1 n2 nL n4 n5 th rep bro hR 1 (by omega) (by omega)) (cwV 2 hts gX12_missing_X12_start rfl rfl rfl (by decide +kernel) ⟨Nat.le_of_ble_eq_true rfl, Nat.le_of_ble_eq_true rfl⟩) ⟨zBl mI_blind, (va_recv hK (hM.Pa hR.o.1 rfl hR.o.2) (ci := 13) (q0 := 0) rfl rfl), fun U h1 h2 => ⟨rfl, mI_pre hM hK hMS hS U h1 h2⟩⟩ rfl rfl hl.1 rfl (lv_room (Nat.le_of_ble_eq_true rfl)) dX12_missing_8 ⟨Nat.le_of_ble_eq_true rfl, Nat.le_of_ble_eq_true rfl⟩) hS (fun _ _ h => h) (fun _ h => h) (fun r_3 C_2 t H1 locs ht hvm hw hB9 hz1 hk1 hS => ?_)
  obtain ⟨hr_3, hR_4⟩ := hw
  obtain ⟨hM, -, -⟩ := hB9
  rw [ht] at hM
  clear hk1 hz1 hvm ht
  clear t
  generalize H1 = H at hM hS ⊢
  subst hr_3
  refine lv_if_ne (tgt := 38) hx hb dX12_missing_11 (by decide) (fun c_5 => ?_) (fun c_5 => ?_)
  · have c_5 := bI_t c_5
    cases c_5
  · have c_5 := bI_f c_5
    refine lv_aload_n hx hb dX12_missing_14 rfl (lv_at hl 0 rfl) ?_
    refine lv_iload_n hx hb dX12_missing_15 rfl (lv_at hl 3 rfl) ?_
    refine lv_iconst (v := nI 0) hx hb dX12_missing_16 (by decide) ?_
    refine lv_sipush (v := nI 1000) hx hb dX12_missing_17 (by decide) ?_
    refine zcSi (As := [.int x, .int (nI 0), .int (nI 1000)]) (rest := [.ref (ma 0 0)]) ⟨hx, hb, hml, hown, hts⟩ (c_X12_isIn l _ x (nI 0) (nI 1000)) (cwS 3 hts gX12_missing_X12_isIn rfl rfl rfl (by decide +kernel) ⟨Nat.le_of_ble_eq_true rfl, Nat.le_of_ble_eq_true rfl⟩) (B := fun _ => True) (fun _ _ _ _ _ => trivial) (fun _ _ _ => trivial) rfl hl.1 rfl (Nat.le_of_ble_eq_true rfl) dX12_missing_20 ⟨Nat.le_of_ble_eq_true rfl, Nat.le_of_ble_eq_true rfl⟩ (fun r_6 hr_6 => ?_)
    subst hr_6
    refine lv_if_ne (tgt := 30) hx hb dX12_missing_23 (by decide) (fun c_7 => ?_) (fun c_7 => ?_)
    · have c_7 := bI_t c_7
      simp only [c_5, c_7, Bool.not_true, Bool.not_false, Bool.and_true, Bool.true_and, Bool.and_false, Bool.false_and, Bool.or_true, Bool.true_or, Bool.or_false, Bool.false_or, Bool.and_self, Bool.or_self, Bool.true_eq_false, Bool.false_eq_true] at h2
    · have c_7 := bI_f c_7
      refine lv_iconst (v := nI 1) hx hb dX12_missing_26 (by decide) ?_
      refine zeq (show nI 1 = bI true from rfl) ?_
      refine lv_goto (tgt := 31) hx hb dX12_missing_27 (by decide) ?_
      refine lv_iconst (v := nI 2) hx hb dX12_missing_31 (by decide) ?_
      refine va_calli (va_runV (As := [.int (bI true), .int (nI 2)]) (rest := []) ⟨hx, hb, hml, hown, hts⟩ (c_X12_refuse_t l D ty A u C_2 ma t0 mi g n1 n2 nL n4 n5 (nI 0) rep bro hR_4 rfl 2 (by omega) (by omega)) (cwV 2 hts gX12_missing_X12_refuse rfl rfl rfl (by decide +kernel) ⟨Nat.le_of_ble_eq_true rfl, Nat.le_of_ble_eq_true rfl⟩) ⟨zBl mI_blind, (va_recv hK (hM.Pa hR_4.o.1 rfl hR_4.o.2) (ci := 13) (q0 := 0) rfl rfl), fun U h1 h2 => ⟨rfl, mI_pre hM hK hMS hS U h1 h2⟩⟩ rfl rfl hl.1 rfl (lv_room (Nat.le_of_ble_eq_true rfl)) dX12_missing_32 ⟨Nat.le_of_ble_eq_true rfl, Nat.le_of_ble_eq_true rfl⟩) hS (fun _ _ h => h) (fun _ h => h) (fun r_9 C_8 t H1 locs ht hvm hw hB9 hz1 hk1 hS => ?_)
      obtain ⟨hr_9, hR_10⟩ := hw
      obtain ⟨hM, -, -⟩ := hB9
      rw [ht] at hM
      clear hk1 hz1 hvm ht
      clear t
      generalize H1 = H at hM hS ⊢
      subst hr_9
      refine lv_if_eq (tgt := 40) hx hb dX12_missing_35 (by decide) (fun c_11 => ?_) (fun c_11 => ?_)
      · have c_11 := bI_f c_11
        cases c_11
      · have c_11 := bI_t c_11
        refine lv_iconst (v := nI 0) hx hb dX12_missing_38 (by decide) ?_
        exact W.iret (v := nI 0) hx hb hr (fun t ht hW => ⟨⟨_, C_8, rfl, ⟨rfl, hR_10⟩, mI_pre hM hK hMS hS t ht hW⟩, hS.F ht⟩) hS.2.2 dX12_missing_39
set_option maxHeartbeats 600000 in
set_option maxRecDepth 100000 in
theorem m_missing_x3a (l : Launch) (D : va_G) (ty : Nat → ClassId) (A : Nat → Prop) (u : Nat → Nat → Prop) (C : Nat → Nat → va_E) (ma : Nat → Nat → Nat) (t0 mi : Nat) (g : Nat → Nat → Int32) (n1 n2 nL n4 n5 : Nat) (th : Int32) (rep bro : Nat → Nat → Int32) (hR : mR ty t0 g n1 n2 nL n4 n5 th rep bro u C ma) (i f : Nat) (hi : i < n1) (hf : f < nF g i) (x : Int32) (hx1 : ¬ x < nI 0) (hx2 : ¬ nI 1000 < x) (hv0 : nV g i = 0) : Met l yX12_missing wsX12_missing ({ frames := 7, cells := 0, slots := 0, locals := 192 }) (va_Pc [.ref (ma 0 0), .int (nI i), .int (nI f), .int x] (mI D ty A u C ma t0 mi)) (va_Qi (fun (v9 : Int32) (C2 : Nat → Nat → va_E) => v9 = nI 0 ∧ mR ty t0 g n1 n2 nL n4 n5 (nI 3) rep bro u C2 ma) (fun C2 t => mI D ty A u C2 ma t0 mi t) A) 0 0 A := by
  refine zMet (cc := cX12_missing) (maxL := 6) (ret := (some .int)) (by decide) rfl (Nat.le_of_ble_eq_true rfl) ?_
  intro p e s m below meth c hx hb hr hts hown hlocks hml hB ls hl
  obtain ⟨hM, hK, hMS⟩ := hB
  have hS : va_S A s.heap s.heap [] := va_S.rf
  have hbn := hR.I.b1
  have hbs := hR.I.b2
  have hbl := hR.I.bL
  have hbc := hR.I.b4
  have hbr := hR.I.b5
  have h1 := bFld_ok hR.I hi hf
  have hf7 := (hR.I.f7 hi).2.2
  have hv7 := (hR.I.v7 hi).2
  have h2 : (!inB x (nI 0) (nI 1000)) = false := by rw [inB_r hx1 hx2]; rfl
  have hl : lv_has ls 6 [(0, .ref (ma 0 0)), (1, .int (nI i)), (2, .int (nI f)), (3, .int x)] := hl
  have hinX12 : ∀ w ∈ wsX120, w ∈ wsX12_missing := by decide +kernel
  have hk1 := hts (.fieldLink RX12 10 "DatamarketDeskModel" "sets" "Ljava/util/ArrayList;") (by decide +kernel)
  have hk2 := hts (.classLink RX12 49 "DatamarketDeskModel$DataSet") (by decide +kernel)
  have hinX7 : ∀ w ∈ wsX70, w ∈ wsX12_missing := by decide +kernel
  have hk4 := hts (.fieldLink RX12 69 "DatamarketDeskModel$DataSet" "versions" "Ljava/util/ArrayList;") (by decide +kernel)
  refine lv_aload_n hx hb dX12_missing_0 rfl (lv_at hl 0 rfl) ?_
  refine lv_aload_n hx hb dX12_missing_1 rfl (lv_at hl 0 rfl) ?_
  refine lv_iload_n hx hb dX12_missing_2 rfl (lv_at hl 1 rfl) ?_
  refine lv_iload_n hx hb dX12_missing_3 rfl (lv_at hl 2 rfl) ?_
  refine zcVi (As := [.int (nI i), .int (nI f)]) (rest := [.ref (ma 0 0)]) ⟨hx, hb, hml, hown, hts⟩ (c_X12_isNoField l D ty A u C ma t0 mi g n1 n2 nL n4 n5 th rep bro hR (nI i) (nI f)) (cwV 2 hts gX12_missing_X12_isNoField rfl rfl rfl (by decide +kernel) ⟨Nat.le_of_ble_eq_true rfl, Nat.le_of_ble_eq_true rfl⟩) mI_blind (mI_pre hM hK hMS hS) (va_recv hK (hM.Pa hR.o.1 rfl hR.o.2) (ci := 13) (q0 := 0) rfl rfl) rfl hl.1 rfl (Nat.le_of_ble_eq_true rfl) dX12_missing_4 ⟨Nat.le_of_ble_eq_true rfl, Nat.le_of_ble_eq_true rfl⟩ (fun r_1 hr_1 => ?_)
  subst hr_1
  refine zeq (show bI _ = bI false from by rw [h1]) ?_
  refine lv_iconst (v := nI 1) hx hb dX12_missing_7 (by decide) ?_
  refine va_calli (va_runV (As := [.int (bI false), .int (nI 1)]) (rest := []) ⟨hx, hb, hml, hown, hts⟩ (c_X12_start_f l D ty A u C ma t0 mi g n1 n2 nL n4 n5 th rep bro hR 1 (by omega) (by omega)) (cwV 2 hts gX12_missing_X12_start rfl rfl rfl (by decide +kernel) ⟨Nat.le_of_ble_eq_true rfl, Nat.le_of_ble_eq_true rfl⟩) ⟨zBl mI_blind, (va_recv hK (hM.Pa hR.o.1 rfl hR.o.2) (ci := 13) (q0 := 0) rfl rfl), fun U h1 h2 => ⟨rfl, mI_pre hM hK hMS hS U h1 h2⟩⟩ rfl rfl hl.1 rfl (lv_room (Nat.le_of_ble_eq_true rfl)) dX12_missing_8 ⟨Nat.le_of_ble_eq_true rfl, Nat.le_of_ble_eq_true rfl⟩) hS (fun _ _ h => h) (fun _ h => h) (fun r_3 C_2 t H1 locs ht hvm hw hB9 hz1 hk1 hS => ?_)
  obtain ⟨hr_3, hR_4⟩ := hw
  obtain ⟨hM, -, -⟩ := hB9
  rw [ht] at hM
  clear hk1 hz1 hvm ht
  clear t
  generalize H1 = H at hM hS ⊢
  subst hr_3
  refine lv_if_ne (tgt := 38) hx hb dX12_missing_11 (by decide) (fun c_5 => ?_) (fun c_5 => ?_)
  · have c_5 := bI_t c_5
    cases c_5
  · have c_5 := bI_f c_5
    refine lv_aload_n hx hb dX12_missing_14 rfl (lv_at hl 0 rfl) ?_
    refine lv_iload_n hx hb dX12_missing_15 rfl (lv_at hl 3 rfl) ?_
    refine lv_iconst (v := nI 0) hx hb dX12_missing_16 (by decide) ?_
    refine lv_sipush (v := nI 1000) hx hb dX12_missing_17 (by decide) ?_
    refine zcSi (As := [.int x, .int (nI 0), .int (nI 1000)]) (rest := [.ref (ma 0 0)]) ⟨hx, hb, hml, hown, hts⟩ (c_X12_isIn l _ x (nI 0) (nI 1000)) (cwS 3 hts gX12_missing_X12_isIn rfl rfl rfl (by decide +kernel) ⟨Nat.le_of_ble_eq_true rfl, Nat.le_of_ble_eq_true rfl⟩) (B := fun _ => True) (fun _ _ _ _ _ => trivial) (fun _ _ _ => trivial) rfl hl.1 rfl (Nat.le_of_ble_eq_true rfl) dX12_missing_20 ⟨Nat.le_of_ble_eq_true rfl, Nat.le_of_ble_eq_true rfl⟩ (fun r_6 hr_6 => ?_)
    subst hr_6
    refine lv_if_ne (tgt := 30) hx hb dX12_missing_23 (by decide) (fun c_7 => ?_) (fun c_7 => ?_)
    · have c_7 := bI_t c_7
      refine lv_iconst (v := nI 0) hx hb dX12_missing_30 (by decide) ?_
      refine zeq (show nI 0 = bI false from rfl) ?_
      refine lv_iconst (v := nI 2) hx hb dX12_missing_31 (by decide) ?_
      refine zcVi (As := [.int (bI false), .int (nI 2)]) (rest := []) ⟨hx, hb, hml, hown, hts⟩ (c_X12_refuse_f l D ty A u C_2 ma t0 mi g n1 n2 nL n4 n5 (nI 0) rep bro hR_4 rfl (nI 2)) (cwV 2 hts gX12_missing_X12_refuse rfl rfl rfl (by decide +kernel) ⟨Nat.le_of_ble_eq_true rfl, Nat.le_of_ble_eq_true rfl⟩) mI_blind (mI_pre hM hK hMS hS) (va_recv hK (hM.Pa hR_4.o.1 rfl hR_4.o.2) (ci := 13) (q0 := 0) rfl rfl) rfl hl.1 rfl (Nat.le_of_ble_eq_true rfl) dX12_missing_32 ⟨Nat.le_of_ble_eq_true rfl, Nat.le_of_ble_eq_true rfl⟩ (fun r_8 hr_8 => ?_)
      subst hr_8
      refine lv_if_eq (tgt := 40) hx hb dX12_missing_35 (by decide) (fun c_9 => ?_) (fun c_9 => ?_)
      · have c_9 := bI_f c_9
        refine lv_aload_n hx hb dX12_missing_40 rfl (lv_at hl 0 rfl) ?_
        refine va_get hx hb hts hinX12 hown hK (hM.Pa hR_4.o.1 rfl hR_4.o.2) 0 rfl rfl 1 (by decide) (hk1) (fun _ h9 => h9) rfl dX12_missing_41 ?_
        refine lv_iload_n hx hb dX12_missing_44 rfl (lv_at hl 1 rfl) ?_
        obtain ⟨huz_10, hnz_10, mz_10, bz_10, hCz_10⟩ := isL.hd hR_4.l1
        refine zcVr (x := .ref (ma 9 i)) (As := [.int (nI i)]) (rest := []) ⟨hx, hb, hml, hown, hts⟩ (c_get l D ty A u C_2 ma t0 mi 1 0 n1 (ma 9) hR_4.l1 i (by omega)) (cwV 1 hts gX12_missing_Jx4a65c_get_915e3 rfl rfl rfl (by decide +kernel) ⟨Nat.le_of_ble_eq_true rfl, Nat.le_of_ble_eq_true rfl⟩) mI_blind (mI_pre hM hK hMS hS) (va_recv hK (hM.Pa huz_10 rfl hCz_10) (ci := 0) (q0 := 0) rfl rfl) rfl hl.1 rfl (Nat.le_of_ble_eq_true rfl) dX12_missing_45 ⟨Nat.le_of_ble_eq_true rfl, Nat.le_of_ble_eq_true rfl⟩ ?_
        refine va_castS hx hb hown (hk2) ((hK.1 8 _ rfl).2) (va_recv hK (hM.Pa (hR_4.s9 (i := i) (by omega)).1 rfl (hR_4.s9 (i := i) (by omega)).2) (ci := 8) (q0 := 0) rfl rfl) dX12_missing_48 ?_
        refine lv_astore (lv' := [(4, .ref (ma 9 i)), (0, .ref (ma 0 0)), (1, .int (nI i)), (2, .int (nI f)), (3, .int x)]) hx hb dX12_missing_51 hl (by decide) rfl (fun ls hl => ?_)
        refine lv_aload_n hx hb dX12_missing_53 rfl (lv_at hl 1 rfl) ?_
        refine lv_aload hx hb dX12_missing_54 (lv_at hl 0 rfl) ?_
        refine va_get hx hb hts hinX7 hown hK (hM.Pa (hR_4.s9 (i := i) (by omega)).1 rfl (hR_4.s9 (i := i) (by omega)).2) 0 rfl rfl 3 (by decide) (hk4) (fun _ h9 => h9) rfl dX12_missing_56 ?_
        obtain ⟨huz_12, hnz_12, mz_12, bz_12, hCz_12⟩ := isL.hd (hR_4.s12 (i := i) (by omega))
        refine zcVi (As := []) (rest := [.ref (ma 0 0)]) ⟨hx, hb, hml, hown, hts⟩ (c_isEmpty l D ty A u C_2 ma t0 mi 12 i (nV g i) (fun v => ma 15 (i * 6 + v)) (hR_4.s12 (i := i) (by omega))) (cwV 0 hts gX12_missing_Jx4a65c_isEmpty_aae02 rfl rfl rfl (by decide +kernel) ⟨Nat.le_of_ble_eq_true rfl, Nat.le_of_ble_eq_true rfl⟩) mI_blind (mI_pre hM hK hMS hS) (va_recv hK (hM.Pa huz_12 rfl hCz_12) (ci := 0) (q0 := 0) rfl rfl) rfl hl.1 rfl (Nat.le_of_ble_eq_true rfl) dX12_missing_59 ⟨Nat.le_of_ble_eq_true rfl, Nat.le_of_ble_eq_true rfl⟩ (fun r_13 hr_13 => ?_)
        subst hr_13
        refine lv_if_ne (tgt := 89) hx hb dX12_missing_62 (by decide) (fun c_14 => ?_) (fun c_14 => ?_)
        · have c_14 := bI_t c_14
          refine lv_iconst (v := nI 1) hx hb dX12_missing_89 (by decide) ?_
          refine zeq (show nI 1 = bI true from rfl) ?_
          refine lv_goto (tgt := 94) hx hb dX12_missing_90 (by decide) ?_
          refine lv_iconst (v := nI 3) hx hb dX12_missing_94 (by decide) ?_
          refine va_calli (va_runV (As := [.int (bI true), .int (nI 3)]) (rest := []) ⟨hx, hb, hml, hown, hts⟩ (c_X12_refuse_t l D ty A u C_2 ma t0 mi g n1 n2 nL n4 n5 (nI 0) rep bro hR_4 rfl 3 (by omega) (by omega)) (cwV 2 hts gX12_missing_X12_refuse rfl rfl rfl (by decide +kernel) ⟨Nat.le_of_ble_eq_true rfl, Nat.le_of_ble_eq_true rfl⟩) ⟨zBl mI_blind, (va_recv hK (hM.Pa hR_4.o.1 rfl hR_4.o.2) (ci := 13) (q0 := 0) rfl rfl), fun U h1 h2 => ⟨rfl, mI_pre hM hK hMS hS U h1 h2⟩⟩ rfl rfl hl.1 rfl (lv_room (Nat.le_of_ble_eq_true rfl)) dX12_missing_95 ⟨Nat.le_of_ble_eq_true rfl, Nat.le_of_ble_eq_true rfl⟩) hS (fun _ _ h => h) (fun _ h => h) (fun r_16 C_15 t H1 locs ht hvm hw hB9 hz1 hk1 hS => ?_)
          obtain ⟨hr_16, hR_17⟩ := hw
          obtain ⟨hM, -, -⟩ := hB9
          rw [ht] at hM
          clear hk1 hz1 hvm ht
          clear t
          generalize H1 = H at hM hS ⊢
          subst hr_16
          refine lv_if_eq (tgt := 103) hx hb dX12_missing_98 (by decide) (fun c_18 => ?_) (fun c_18 => ?_)
          · have c_18 := bI_f c_18
            cases c_18
          · have c_18 := bI_t c_18
            refine lv_iconst (v := nI 0) hx hb dX12_missing_101 (by decide) ?_
            exact W.iret (v := nI 0) hx hb hr (fun t ht hW => ⟨⟨_, C_15, rfl, ⟨rfl, hR_17⟩, mI_pre hM hK hMS hS t ht hW⟩, hS.F ht⟩) hS.2.2 dX12_missing_102
        · have c_14 := bI_f c_14
          exact absurd hv0 (of_decide_eq_false c_14)
      · have c_9 := bI_t c_9
        cases c_9
    · have c_7 := bI_f c_7
      simp only [c_5, c_7, Bool.not_true, Bool.not_false, Bool.and_true, Bool.true_and, Bool.and_false, Bool.false_and, Bool.or_true, Bool.true_or, Bool.or_false, Bool.false_or, Bool.and_self, Bool.or_self, Bool.true_eq_false, Bool.false_eq_true] at h2
set_option maxHeartbeats 600000 in
set_option maxRecDepth 100000 in
theorem m_missing_x3b (l : Launch) (D : va_G) (ty : Nat → ClassId) (A : Nat → Prop) (u : Nat → Nat → Prop) (C : Nat → Nat → va_E) (ma : Nat → Nat → Nat) (t0 mi : Nat) (g : Nat → Nat → Int32) (n1 n2 nL n4 n5 : Nat) (th : Int32) (rep bro : Nat → Nat → Int32) (hR : mR ty t0 g n1 n2 nL n4 n5 th rep bro u C ma) (i f : Nat) (hi : i < n1) (hf : f < nF g i) (x : Int32) (hx1 : ¬ x < nI 0) (hx2 : ¬ nI 1000 < x) (hv0 : 0 < nV g i) (ht0 : ¬ g 20 ((i * 6 + (nV g i - 1)) * 6 + f) = 0) : Met l yX12_missing wsX12_missing ({ frames := 7, cells := 0, slots := 0, locals := 192 }) (va_Pc [.ref (ma 0 0), .int (nI i), .int (nI f), .int x] (mI D ty A u C ma t0 mi)) (va_Qi (fun (v9 : Int32) (C2 : Nat → Nat → va_E) => v9 = nI 0 ∧ mR ty t0 g n1 n2 nL n4 n5 (nI 3) rep bro u C2 ma) (fun C2 t => mI D ty A u C2 ma t0 mi t) A) 0 0 A := by
  refine zMet (cc := cX12_missing) (maxL := 6) (ret := (some .int)) (by decide) rfl (Nat.le_of_ble_eq_true rfl) ?_
  intro p e s m below meth c hx hb hr hts hown hlocks hml hB ls hl
  obtain ⟨hM, hK, hMS⟩ := hB
  have hS : va_S A s.heap s.heap [] := va_S.rf
  have hbn := hR.I.b1
  have hbs := hR.I.b2
  have hbl := hR.I.bL
  have hbc := hR.I.b4
  have hbr := hR.I.b5
  have h1 := bFld_ok hR.I hi hf
  have hf7 := (hR.I.f7 hi).2.2
  have hv7 := (hR.I.v7 hi).2
  have h2 : (!inB x (nI 0) (nI 1000)) = false := by rw [inB_r hx1 hx2]; rfl
  have hl : lv_has ls 6 [(0, .ref (ma 0 0)), (1, .int (nI i)), (2, .int (nI f)), (3, .int x)] := hl
  have hinX12 : ∀ w ∈ wsX120, w ∈ wsX12_missing := by decide +kernel
  have hk1 := hts (.fieldLink RX12 10 "DatamarketDeskModel" "sets" "Ljava/util/ArrayList;") (by decide +kernel)
  have hk2 := hts (.classLink RX12 49 "DatamarketDeskModel$DataSet") (by decide +kernel)
  have hinX7 : ∀ w ∈ wsX70, w ∈ wsX12_missing := by decide +kernel
  have hk4 := hts (.fieldLink RX12 69 "DatamarketDeskModel$DataSet" "versions" "Ljava/util/ArrayList;") (by decide +kernel)
  have hk5 := hts (.classLink RX12 72 "DatamarketDeskModel$Version") (by decide +kernel)
  have hinX11 : ∀ w ∈ wsX110, w ∈ wsX12_missing := by decide +kernel
  have hk7 := hts (.fieldLink RX12 144 "DatamarketDeskModel$Version" "isTold" "[Z") (by decide +kernel)
  refine lv_aload_n hx hb dX12_missing_0 rfl (lv_at hl 0 rfl) ?_
  refine lv_aload_n hx hb dX12_missing_1 rfl (lv_at hl 0 rfl) ?_
  refine lv_iload_n hx hb dX12_missing_2 rfl (lv_at hl 1 rfl) ?_
  refine lv_iload_n hx hb dX12_missing_3 rfl (lv_at hl 2 rfl) ?_
  refine zcVi (As := [.int (nI i), .int (nI f)]) (rest := [.ref (ma 0 0)]) ⟨hx, hb, hml, hown, hts⟩ (c_X12_isNoField l D ty A u C ma t0 mi g n1 n2 nL n4 n5 th rep bro hR (nI i) (nI f)) (cwV 2 hts gX12_missing_X12_isNoField rfl rfl rfl (by decide +kernel) ⟨Nat.le_of_ble_eq_true rfl, Nat.le_of_ble_eq_true rfl⟩) mI_blind (mI_pre hM hK hMS hS) (va_recv hK (hM.Pa hR.o.1 rfl hR.o.2) (ci := 13) (q0 := 0) rfl rfl) rfl hl.1 rfl (Nat.le_of_ble_eq_true rfl) dX12_missing_4 ⟨Nat.le_of_ble_eq_true rfl, Nat.le_of_ble_eq_true rfl⟩ (fun r_1 hr_1 => ?_)
  subst hr_1
  refine zeq (show bI _ = bI false from by rw [h1]) ?_
  refine lv_iconst (v := nI 1) hx hb dX12_missing_7 (by decide) ?_
  refine va_calli (va_runV (As := [.int (bI false), .int (nI 1)]) (rest := []) ⟨hx, hb, hml, hown, hts⟩ (c_X12_start_f l D ty A u C ma t0 mi g n1 n2 nL n4 n5 th rep bro hR 1 (by omega) (by omega)) (cwV 2 hts gX12_missing_X12_start rfl rfl rfl (by decide +kernel) ⟨Nat.le_of_ble_eq_true rfl, Nat.le_of_ble_eq_true rfl⟩) ⟨zBl mI_blind, (va_recv hK (hM.Pa hR.o.1 rfl hR.o.2) (ci := 13) (q0 := 0) rfl rfl), fun U h1 h2 => ⟨rfl, mI_pre hM hK hMS hS U h1 h2⟩⟩ rfl rfl hl.1 rfl (lv_room (Nat.le_of_ble_eq_true rfl)) dX12_missing_8 ⟨Nat.le_of_ble_eq_true rfl, Nat.le_of_ble_eq_true rfl⟩) hS (fun _ _ h => h) (fun _ h => h) (fun r_3 C_2 t H1 locs ht hvm hw hB9 hz1 hk1 hS => ?_)
  obtain ⟨hr_3, hR_4⟩ := hw
  obtain ⟨hM, -, -⟩ := hB9
  rw [ht] at hM
  clear hk1 hz1 hvm ht
  clear t
  generalize H1 = H at hM hS ⊢
  subst hr_3
  refine lv_if_ne (tgt := 38) hx hb dX12_missing_11 (by decide) (fun c_5 => ?_) (fun c_5 => ?_)
  · have c_5 := bI_t c_5
    cases c_5
  · have c_5 := bI_f c_5
    refine lv_aload_n hx hb dX12_missing_14 rfl (lv_at hl 0 rfl) ?_
    refine lv_iload_n hx hb dX12_missing_15 rfl (lv_at hl 3 rfl) ?_
    refine lv_iconst (v := nI 0) hx hb dX12_missing_16 (by decide) ?_
    refine lv_sipush (v := nI 1000) hx hb dX12_missing_17 (by decide) ?_
    refine zcSi (As := [.int x, .int (nI 0), .int (nI 1000)]) (rest := [.ref (ma 0 0)]) ⟨hx, hb, hml, hown, hts⟩ (c_X12_isIn l _ x (nI 0) (nI 1000)) (cwS 3 hts gX12_missing_X12_isIn rfl rfl rfl (by decide +kernel) ⟨Nat.le_of_ble_eq_true rfl, Nat.le_of_ble_eq_true rfl⟩) (B := fun _ => True) (fun _ _ _ _ _ => trivial) (fun _ _ _ => trivial) rfl hl.1 rfl (Nat.le_of_ble_eq_true rfl) dX12_missing_20 ⟨Nat.le_of_ble_eq_true rfl, Nat.le_of_ble_eq_true rfl⟩ (fun r_6 hr_6 => ?_)
    subst hr_6
    refine lv_if_ne (tgt := 30) hx hb dX12_missing_23 (by decide) (fun c_7 => ?_) (fun c_7 => ?_)
    · have c_7 := bI_t c_7
      refine lv_iconst (v := nI 0) hx hb dX12_missing_30 (by decide) ?_
      refine zeq (show nI 0 = bI false from rfl) ?_
      refine lv_iconst (v := nI 2) hx hb dX12_missing_31 (by decide) ?_
      refine zcVi (As := [.int (bI false), .int (nI 2)]) (rest := []) ⟨hx, hb, hml, hown, hts⟩ (c_X12_refuse_f l D ty A u C_2 ma t0 mi g n1 n2 nL n4 n5 (nI 0) rep bro hR_4 rfl (nI 2)) (cwV 2 hts gX12_missing_X12_refuse rfl rfl rfl (by decide +kernel) ⟨Nat.le_of_ble_eq_true rfl, Nat.le_of_ble_eq_true rfl⟩) mI_blind (mI_pre hM hK hMS hS) (va_recv hK (hM.Pa hR_4.o.1 rfl hR_4.o.2) (ci := 13) (q0 := 0) rfl rfl) rfl hl.1 rfl (Nat.le_of_ble_eq_true rfl) dX12_missing_32 ⟨Nat.le_of_ble_eq_true rfl, Nat.le_of_ble_eq_true rfl⟩ (fun r_8 hr_8 => ?_)
      subst hr_8
      refine lv_if_eq (tgt := 40) hx hb dX12_missing_35 (by decide) (fun c_9 => ?_) (fun c_9 => ?_)
      · have c_9 := bI_f c_9
        refine lv_aload_n hx hb dX12_missing_40 rfl (lv_at hl 0 rfl) ?_
        refine va_get hx hb hts hinX12 hown hK (hM.Pa hR_4.o.1 rfl hR_4.o.2) 0 rfl rfl 1 (by decide) (hk1) (fun _ h9 => h9) rfl dX12_missing_41 ?_
        refine lv_iload_n hx hb dX12_missing_44 rfl (lv_at hl 1 rfl) ?_
        obtain ⟨huz_10, hnz_10, mz_10, bz_10, hCz_10⟩ := isL.hd hR_4.l1
        refine zcVr (x := .ref (ma 9 i)) (As := [.int (nI i)]) (rest := []) ⟨hx, hb, hml, hown, hts⟩ (c_get l D ty A u C_2 ma t0 mi 1 0 n1 (ma 9) hR_4.l1 i (by omega)) (cwV 1 hts gX12_missing_Jx4a65c_get_915e3 rfl rfl rfl (by decide +kernel) ⟨Nat.le_of_ble_eq_true rfl, Nat.le_of_ble_eq_true rfl⟩) mI_blind (mI_pre hM hK hMS hS) (va_recv hK (hM.Pa huz_10 rfl hCz_10) (ci := 0) (q0 := 0) rfl rfl) rfl hl.1 rfl (Nat.le_of_ble_eq_true rfl) dX12_missing_45 ⟨Nat.le_of_ble_eq_true rfl, Nat.le_of_ble_eq_true rfl⟩ ?_
        refine va_castS hx hb hown (hk2) ((hK.1 8 _ rfl).2) (va_recv hK (hM.Pa (hR_4.s9 (i := i) (by omega)).1 rfl (hR_4.s9 (i := i) (by omega)).2) (ci := 8) (q0 := 0) rfl rfl) dX12_missing_48 ?_
        refine lv_astore (lv' := [(4, .ref (ma 9 i)), (0, .ref (ma 0 0)), (1, .int (nI i)), (2, .int (nI f)), (3, .int x)]) hx hb dX12_missing_51 hl (by decide) rfl (fun ls hl => ?_)
        refine lv_aload_n hx hb dX12_missing_53 rfl (lv_at hl 1 rfl) ?_
        refine lv_aload hx hb dX12_missing_54 (lv_at hl 0 rfl) ?_
        refine va_get hx hb hts hinX7 hown hK (hM.Pa (hR_4.s9 (i := i) (by omega)).1 rfl (hR_4.s9 (i := i) (by omega)).2) 0 rfl rfl 3 (by decide) (hk4) (fun _ h9 => h9) rfl dX12_missing_56 ?_
        obtain ⟨huz_12, hnz_12, mz_12, bz_12, hCz_12⟩ := isL.hd (hR_4.s12 (i := i) (by omega))
        refine zcVi (As := []) (rest := [.ref (ma 0 0)]) ⟨hx, hb, hml, hown, hts⟩ (c_isEmpty l D ty A u C_2 ma t0 mi 12 i (nV g i) (fun v => ma 15 (i * 6 + v)) (hR_4.s12 (i := i) (by omega))) (cwV 0 hts gX12_missing_Jx4a65c_isEmpty_aae02 rfl rfl rfl (by decide +kernel) ⟨Nat.le_of_ble_eq_true rfl, Nat.le_of_ble_eq_true rfl⟩) mI_blind (mI_pre hM hK hMS hS) (va_recv hK (hM.Pa huz_12 rfl hCz_12) (ci := 0) (q0 := 0) rfl rfl) rfl hl.1 rfl (Nat.le_of_ble_eq_true rfl) dX12_missing_59 ⟨Nat.le_of_ble_eq_true rfl, Nat.le_of_ble_eq_true rfl⟩ (fun r_13 hr_13 => ?_)
        subst hr_13
        refine lv_if_ne (tgt := 89) hx hb dX12_missing_62 (by decide) (fun c_14 => ?_) (fun c_14 => ?_)
        · have c_14 := bI_t c_14
          exact absurd (of_decide_eq_true c_14) (by omega)
        · have c_14 := bI_f c_14
          refine lv_aload hx hb dX12_missing_65 (lv_at hl 0 rfl) ?_
          refine va_get hx hb hts hinX7 hown hK (hM.Pa (hR_4.s9 (i := i) (by omega)).1 rfl (hR_4.s9 (i := i) (by omega)).2) 0 rfl rfl 3 (by decide) (hk4) (fun _ h9 => h9) rfl dX12_missing_67 ?_
          refine lv_aload hx hb dX12_missing_70 (lv_at hl 0 rfl) ?_
          refine zcVi (As := []) (rest := [.ref (ma 12 i), .ref (ma 0 0)]) ⟨hx, hb, hml, hown, hts⟩ (c_X7_latest l D ty A u C_2 ma t0 mi g n1 n2 nL n4 n5 (nI 0) rep bro hR_4 i (by omega)) (cwV 0 hts gX12_missing_X7_latest rfl rfl rfl (by decide +kernel) ⟨Nat.le_of_ble_eq_true rfl, Nat.le_of_ble_eq_true rfl⟩) mI_blind (mI_pre hM hK hMS hS) (va_recv hK (hM.Pa (hR_4.s9 (i := i) (by omega)).1 rfl (hR_4.s9 (i := i) (by omega)).2) (ci := 8) (q0 := 0) rfl rfl) rfl hl.1 rfl (Nat.le_of_ble_eq_true rfl) dX12_missing_72 ⟨Nat.le_of_ble_eq_true rfl, Nat.le_of_ble_eq_true rfl⟩ (fun r_15 hr_15 => ?_)
          subst hr_15
          refine zeq (pk_sub (a := nV g i) (b := 1) (by omega)) ?_
          obtain ⟨huz_16, hnz_16, mz_16, bz_16, hCz_16⟩ := isL.hd (hR_4.s12 (i := i) (by omega))
          refine zcVr (x := .ref (ma 15 (i * 6 + (nV g i - 1)))) (As := [.int (nI (nV g i - 1))]) (rest := [.ref (ma 0 0)]) ⟨hx, hb, hml, hown, hts⟩ (c_get l D ty A u C_2 ma t0 mi 12 i (nV g i) (fun v => ma 15 (i * 6 + v)) (hR_4.s12 (i := i) (by omega)) (nV g i - 1) (by omega)) (cwV 1 hts gX12_missing_Jx4a65c_get_915e3 rfl rfl rfl (by decide +kernel) ⟨Nat.le_of_ble_eq_true rfl, Nat.le_of_ble_eq_true rfl⟩) mI_blind (mI_pre hM hK hMS hS) (va_recv hK (hM.Pa huz_16 rfl hCz_16) (ci := 0) (q0 := 0) rfl rfl) rfl hl.1 rfl (Nat.le_of_ble_eq_true rfl) dX12_missing_75 ⟨Nat.le_of_ble_eq_true rfl, Nat.le_of_ble_eq_true rfl⟩ ?_
          refine va_castS hx hb hown (hk5) ((hK.1 12 _ rfl).2) (va_recv hK (hM.Pa (hR_4.v15 (i := i) (v := nV g i - 1) (by omega) (by omega)).1 rfl (hR_4.v15 (i := i) (v := nV g i - 1) (by omega) (by omega)).2) (ci := 12) (q0 := 0) rfl rfl) dX12_missing_78 ?_
          refine va_get hx hb hts hinX11 hown hK (hM.Pa (hR_4.v15 (i := i) (v := nV g i - 1) (by omega) (by omega)).1 rfl (hR_4.v15 (i := i) (v := nV g i - 1) (by omega) (by omega)).2) 0 rfl rfl 3 (by decide) (hk7) (fun _ h9 => h9) rfl dX12_missing_81 ?_
          refine lv_iload_n hx hb dX12_missing_84 rfl (lv_at hl 3 rfl) ?_
          refine zaldz hx hb hK (hM.Pa (hR_4.v18 (i := i) (v := nV g i - 1) (by omega) (by omega)).1 rfl (hR_4.v18 (i := i) (v := nV g i - 1) (by omega) (by omega)).2) 0 1 rfl rfl (i := f) (by omega) (by omega) dX12_missing_85 ?_
          refine zeq (row6_at (by omega)) ?_
          refine lv_if_eq (tgt := 93) hx hb dX12_missing_86 (by decide) (fun c_18 => ?_) (fun c_18 => ?_)
          · exact absurd c_18 ht0
          · refine lv_iconst (v := nI 1) hx hb dX12_missing_89 (by decide) ?_
            refine zeq (show nI 1 = bI true from rfl) ?_
            refine lv_goto (tgt := 94) hx hb dX12_missing_90 (by decide) ?_
            refine lv_iconst (v := nI 3) hx hb dX12_missing_94 (by decide) ?_
            refine va_calli (va_runV (As := [.int (bI true), .int (nI 3)]) (rest := []) ⟨hx, hb, hml, hown, hts⟩ (c_X12_refuse_t l D ty A u C_2 ma t0 mi g n1 n2 nL n4 n5 (nI 0) rep bro hR_4 rfl 3 (by omega) (by omega)) (cwV 2 hts gX12_missing_X12_refuse rfl rfl rfl (by decide +kernel) ⟨Nat.le_of_ble_eq_true rfl, Nat.le_of_ble_eq_true rfl⟩) ⟨zBl mI_blind, (va_recv hK (hM.Pa hR_4.o.1 rfl hR_4.o.2) (ci := 13) (q0 := 0) rfl rfl), fun U h1 h2 => ⟨rfl, mI_pre hM hK hMS hS U h1 h2⟩⟩ rfl rfl hl.1 rfl (lv_room (Nat.le_of_ble_eq_true rfl)) dX12_missing_95 ⟨Nat.le_of_ble_eq_true rfl, Nat.le_of_ble_eq_true rfl⟩) hS (fun _ _ h => h) (fun _ h => h) (fun r_20 C_19 t H1 locs ht hvm hw hB9 hz1 hk1 hS => ?_)
            obtain ⟨hr_20, hR_21⟩ := hw
            obtain ⟨hM, -, -⟩ := hB9
            rw [ht] at hM
            clear hk1 hz1 hvm ht
            clear t
            generalize H1 = H at hM hS ⊢
            subst hr_20
            refine lv_if_eq (tgt := 103) hx hb dX12_missing_98 (by decide) (fun c_22 => ?_) (fun c_22 => ?_)
            · have c_22 := bI_f c_22
              cases c_22
            · have c_22 := bI_t c_22
              refine lv_iconst (v := nI 0) hx hb dX12_missing_101 (by decide) ?_
              exact W.iret (v := nI 0) hx hb hr (fun t ht hW => ⟨⟨_, C_19, rfl, ⟨rfl, hR_21⟩, mI_pre hM hK hMS hS t ht hW⟩, hS.F ht⟩) hS.2.2 dX12_missing_102
      · have c_9 := bI_t c_9
        cases c_9
    · have c_7 := bI_f c_7
      simp only [c_5, c_7, Bool.not_true, Bool.not_false, Bool.and_true, Bool.true_and, Bool.and_false, Bool.false_and, Bool.or_true, Bool.true_or, Bool.or_false, Bool.false_or, Bool.and_self, Bool.or_self, Bool.true_eq_false, Bool.false_eq_true] at h2
