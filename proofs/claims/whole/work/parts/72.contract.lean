set_option maxHeartbeats 600000 in
set_option maxRecDepth 100000 in
theorem m_contract_x1 (l : Launch) (D : va_G) (ty : Nat → ClassId) (A : Nat → Prop) (u : Nat → Nat → Prop) (C : Nat → Nat → va_E) (ma : Nat → Nat → Nat) (t0 mi : Nat) (g : Nat → Nat → Int32) (n1 n2 nL n4 n5 : Nat) (th : Int32) (rep bro : Nat → Nat → Int32) (hR : mR ty t0 g n1 n2 nL n4 n5 th rep bro u C ma) (y x F ps fr to : Int32) (h1 : (bRd y || bNo n1 x) = true) : Met l yX12_contract wsX12_contract ({ frames := 7, cells := 0, slots := 0, locals := 192 }) (va_Pc [.ref (ma 0 0), .int y, .int x, .int F, .int ps, .int fr, .int to] (mI D ty A u C ma t0 mi)) (va_Qi (fun (v9 : Int32) (C2 : Nat → Nat → va_E) => v9 = nI 0 ∧ mR ty t0 g n1 n2 nL n4 n5 (nI 1) rep bro u C2 ma) (fun C2 t => mI D ty A u C2 ma t0 mi t) A) 0 0 A := by
  refine zMet (cc := cX12_contract) (maxL := 7) (ret := (some .int)) (by decide) rfl (Nat.le_of_ble_eq_true rfl) ?_
  intro p e s m below meth c hx hb hr hts hown hlocks hml hB ls hl
  obtain ⟨hM, hK, hMS⟩ := hB
  have hS : va_S A s.heap s.heap [] := va_S.rf
  have hbn := hR.I.b1
  have hbs := hR.I.b2
  have hbl := hR.I.bL
  have hbc := hR.I.b4
  have hbr := hR.I.b5
  have hl : lv_has ls 7 [(0, .ref (ma 0 0)), (1, .int y), (2, .int x), (3, .int F), (4, .int ps), (5, .int fr), (6, .int to)] := hl
  refine lv_aload_n hx hb dX12_contract_0 rfl (lv_at hl 0 rfl) ?_
  refine lv_iload_n hx hb dX12_contract_1 rfl (lv_at hl 1 rfl) ?_
  refine zcSi (As := [.int y]) (rest := [.ref (ma 0 0)]) ⟨hx, hb, hml, hown, hts⟩ (c_X12_isNoReader l _ y) (cwS 1 hts gX12_contract_X12_isNoReader rfl rfl rfl (by decide +kernel) ⟨Nat.le_of_ble_eq_true rfl, Nat.le_of_ble_eq_true rfl⟩) (B := fun _ => True) (fun _ _ _ _ _ => trivial) (fun _ _ _ => trivial) rfl hl.1 rfl (Nat.le_of_ble_eq_true rfl) dX12_contract_2 ⟨Nat.le_of_ble_eq_true rfl, Nat.le_of_ble_eq_true rfl⟩ (fun r_1 hr_1 => ?_)
  subst hr_1
  refine lv_if_ne (tgt := 16) hx hb dX12_contract_5 (by decide) (fun c_2 => ?_) (fun c_2 => ?_)
  · have c_2 := bI_t c_2
    refine lv_iconst (v := nI 1) hx hb dX12_contract_16 (by decide) ?_
    refine zeq (show nI 1 = bI true from rfl) ?_
    refine lv_goto (tgt := 21) hx hb dX12_contract_17 (by decide) ?_
    refine lv_iconst (v := nI 1) hx hb dX12_contract_21 (by decide) ?_
    refine va_calli (va_runV (As := [.int (bI true), .int (nI 1)]) (rest := []) ⟨hx, hb, hml, hown, hts⟩ (c_X12_start_t l D ty A u C ma t0 mi g n1 n2 nL n4 n5 th rep bro hR 1 (by omega) (by omega)) (cwV 2 hts gX12_contract_X12_start rfl rfl rfl (by decide +kernel) ⟨Nat.le_of_ble_eq_true rfl, Nat.le_of_ble_eq_true rfl⟩) ⟨zBl mI_blind, (va_recv hK (hM.Pa hR.o.1 rfl hR.o.2) (ci := 13) (q0 := 0) rfl rfl), fun U h1 h2 => ⟨rfl, mI_pre hM hK hMS hS U h1 h2⟩⟩ rfl rfl hl.1 rfl (lv_room (Nat.le_of_ble_eq_true rfl)) dX12_contract_22 ⟨Nat.le_of_ble_eq_true rfl, Nat.le_of_ble_eq_true rfl⟩) hS (fun _ _ h => h) (fun _ h => h) (fun r_4 C_3 t H1 locs ht hvm hw hB9 hz1 hk1 hS => ?_)
    obtain ⟨hr_4, hR_5⟩ := hw
    obtain ⟨hM, -, -⟩ := hB9
    rw [ht] at hM
    clear hk1 hz1 hvm ht
    clear t
    generalize H1 = H at hM hS ⊢
    subst hr_4
    refine lv_if_ne (tgt := 110) hx hb dX12_contract_25 (by decide) (fun c_6 => ?_) (fun c_6 => ?_)
    · have c_6 := bI_t c_6
      refine lv_iconst (v := nI 0) hx hb dX12_contract_110 (by decide) ?_
      exact W.iret (v := nI 0) hx hb hr (fun t ht hW => ⟨⟨_, C_3, rfl, ⟨rfl, hR_5⟩, mI_pre hM hK hMS hS t ht hW⟩, hS.F ht⟩) hS.2.2 dX12_contract_111
    · have c_6 := bI_f c_6
      cases c_6
  · have c_2 := bI_f c_2
    refine lv_aload_n hx hb dX12_contract_8 rfl (lv_at hl 0 rfl) ?_
    refine lv_iload_n hx hb dX12_contract_9 rfl (lv_at hl 2 rfl) ?_
    refine zcVi (As := [.int x]) (rest := [.ref (ma 0 0)]) ⟨hx, hb, hml, hown, hts⟩ (c_X12_isNo l D ty A u C ma t0 mi g n1 n2 nL n4 n5 th rep bro hR x) (cwV 1 hts gX12_contract_X12_isNo rfl rfl rfl (by decide +kernel) ⟨Nat.le_of_ble_eq_true rfl, Nat.le_of_ble_eq_true rfl⟩) mI_blind (mI_pre hM hK hMS hS) (va_recv hK (hM.Pa hR.o.1 rfl hR.o.2) (ci := 13) (q0 := 0) rfl rfl) rfl hl.1 rfl (Nat.le_of_ble_eq_true rfl) dX12_contract_10 ⟨Nat.le_of_ble_eq_true rfl, Nat.le_of_ble_eq_true rfl⟩ (fun r_7 hr_7 => ?_)
    subst hr_7
    refine lv_if_eq (tgt := 20) hx hb dX12_contract_13 (by decide) (fun c_8 => ?_) (fun c_8 => ?_)
    · have c_8 := bI_f c_8
      simp only [c_2, c_8, Bool.not_true, Bool.not_false, Bool.and_true, Bool.true_and, Bool.and_false, Bool.false_and, Bool.or_true, Bool.true_or, Bool.or_false, Bool.false_or, Bool.and_self, Bool.or_self, Bool.true_eq_false, Bool.false_eq_true] at h1
    · have c_8 := bI_t c_8
      refine lv_iconst (v := nI 1) hx hb dX12_contract_16 (by decide) ?_
      refine zeq (show nI 1 = bI true from rfl) ?_
      refine lv_goto (tgt := 21) hx hb dX12_contract_17 (by decide) ?_
      refine lv_iconst (v := nI 1) hx hb dX12_contract_21 (by decide) ?_
      refine va_calli (va_runV (As := [.int (bI true), .int (nI 1)]) (rest := []) ⟨hx, hb, hml, hown, hts⟩ (c_X12_start_t l D ty A u C ma t0 mi g n1 n2 nL n4 n5 th rep bro hR 1 (by omega) (by omega)) (cwV 2 hts gX12_contract_X12_start rfl rfl rfl (by decide +kernel) ⟨Nat.le_of_ble_eq_true rfl, Nat.le_of_ble_eq_true rfl⟩) ⟨zBl mI_blind, (va_recv hK (hM.Pa hR.o.1 rfl hR.o.2) (ci := 13) (q0 := 0) rfl rfl), fun U h1 h2 => ⟨rfl, mI_pre hM hK hMS hS U h1 h2⟩⟩ rfl rfl hl.1 rfl (lv_room (Nat.le_of_ble_eq_true rfl)) dX12_contract_22 ⟨Nat.le_of_ble_eq_true rfl, Nat.le_of_ble_eq_true rfl⟩) hS (fun _ _ h => h) (fun _ h => h) (fun r_10 C_9 t H1 locs ht hvm hw hB9 hz1 hk1 hS => ?_)
      obtain ⟨hr_10, hR_11⟩ := hw
      obtain ⟨hM, -, -⟩ := hB9
      rw [ht] at hM
      clear hk1 hz1 hvm ht
      clear t
      generalize H1 = H at hM hS ⊢
      subst hr_10
      refine lv_if_ne (tgt := 110) hx hb dX12_contract_25 (by decide) (fun c_12 => ?_) (fun c_12 => ?_)
      · have c_12 := bI_t c_12
        refine lv_iconst (v := nI 0) hx hb dX12_contract_110 (by decide) ?_
        exact W.iret (v := nI 0) hx hb hr (fun t ht hW => ⟨⟨_, C_9, rfl, ⟨rfl, hR_11⟩, mI_pre hM hK hMS hS t ht hW⟩, hS.F ht⟩) hS.2.2 dX12_contract_111
      · have c_12 := bI_f c_12
        cases c_12
set_option maxHeartbeats 600000 in
set_option maxRecDepth 100000 in
theorem m_contract_x2 (l : Launch) (D : va_G) (ty : Nat → ClassId) (A : Nat → Prop) (u : Nat → Nat → Prop) (C : Nat → Nat → va_E) (ma : Nat → Nat → Nat) (t0 mi : Nat) (g : Nat → Nat → Int32) (n1 n2 nL n4 n5 : Nat) (th : Int32) (rep bro : Nat → Nat → Int32) (hR : mR ty t0 g n1 n2 nL n4 n5 th rep bro u C ma) (R i : Nat) (hr6 : R < 6) (hi : i < n1) (F ps fr to : Int32) (h2 : (bFds g i F || !inB ps (nI 1) (nI 15) || decide (fr < g 0 0) || decide (to < fr) || decide (nI 359 < to)) = true) : Met l yX12_contract wsX12_contract ({ frames := 7, cells := 0, slots := 0, locals := 192 }) (va_Pc [.ref (ma 0 0), .int (nI R), .int (nI i), .int F, .int ps, .int fr, .int to] (mI D ty A u C ma t0 mi)) (va_Qi (fun (v9 : Int32) (C2 : Nat → Nat → va_E) => v9 = nI 0 ∧ mR ty t0 g n1 n2 nL n4 n5 (nI 2) rep bro u C2 ma) (fun C2 t => mI D ty A u C2 ma t0 mi t) A) 0 0 A := by
  refine zMet (cc := cX12_contract) (maxL := 7) (ret := (some .int)) (by decide) rfl (Nat.le_of_ble_eq_true rfl) ?_
  intro p e s m below meth c hx hb hr hts hown hlocks hml hB ls hl
  obtain ⟨hM, hK, hMS⟩ := hB
  have hS : va_S A s.heap s.heap [] := va_S.rf
  have hbn := hR.I.b1
  have hbs := hR.I.b2
  have hbl := hR.I.bL
  have hbc := hR.I.b4
  have hbr := hR.I.b5
  have h1 : (bRd (nI R) || bNo n1 (nI i)) = false := by rw [bRd_ok hr6, bNo_ok hR.I.b1 hi]; rfl
  have hl : lv_has ls 7 [(0, .ref (ma 0 0)), (1, .int (nI R)), (2, .int (nI i)), (3, .int F), (4, .int ps), (5, .int fr), (6, .int to)] := hl
  have hinX12 : ∀ w ∈ wsX120, w ∈ wsX12_contract := by decide +kernel
  have hk1 := hts (.fieldLink RX12 193 "DatamarketDeskModel" "today" "I") (by decide +kernel)
  refine lv_aload_n hx hb dX12_contract_0 rfl (lv_at hl 0 rfl) ?_
  refine lv_iload_n hx hb dX12_contract_1 rfl (lv_at hl 1 rfl) ?_
  refine zcSi (As := [.int (nI R)]) (rest := [.ref (ma 0 0)]) ⟨hx, hb, hml, hown, hts⟩ (c_X12_isNoReader l _ (nI R)) (cwS 1 hts gX12_contract_X12_isNoReader rfl rfl rfl (by decide +kernel) ⟨Nat.le_of_ble_eq_true rfl, Nat.le_of_ble_eq_true rfl⟩) (B := fun _ => True) (fun _ _ _ _ _ => trivial) (fun _ _ _ => trivial) rfl hl.1 rfl (Nat.le_of_ble_eq_true rfl) dX12_contract_2 ⟨Nat.le_of_ble_eq_true rfl, Nat.le_of_ble_eq_true rfl⟩ (fun r_1 hr_1 => ?_)
  subst hr_1
  refine lv_if_ne (tgt := 16) hx hb dX12_contract_5 (by decide) (fun c_2 => ?_) (fun c_2 => ?_)
  · have c_2 := bI_t c_2
    simp only [c_2, Bool.not_true, Bool.not_false, Bool.and_true, Bool.true_and, Bool.and_false, Bool.false_and, Bool.or_true, Bool.true_or, Bool.or_false, Bool.false_or, Bool.and_self, Bool.or_self, Bool.true_eq_false, Bool.false_eq_true] at h1
  · have c_2 := bI_f c_2
    refine lv_aload_n hx hb dX12_contract_8 rfl (lv_at hl 0 rfl) ?_
    refine lv_iload_n hx hb dX12_contract_9 rfl (lv_at hl 2 rfl) ?_
    refine zcVi (As := [.int (nI i)]) (rest := [.ref (ma 0 0)]) ⟨hx, hb, hml, hown, hts⟩ (c_X12_isNo l D ty A u C ma t0 mi g n1 n2 nL n4 n5 th rep bro hR (nI i)) (cwV 1 hts gX12_contract_X12_isNo rfl rfl rfl (by decide +kernel) ⟨Nat.le_of_ble_eq_true rfl, Nat.le_of_ble_eq_true rfl⟩) mI_blind (mI_pre hM hK hMS hS) (va_recv hK (hM.Pa hR.o.1 rfl hR.o.2) (ci := 13) (q0 := 0) rfl rfl) rfl hl.1 rfl (Nat.le_of_ble_eq_true rfl) dX12_contract_10 ⟨Nat.le_of_ble_eq_true rfl, Nat.le_of_ble_eq_true rfl⟩ (fun r_3 hr_3 => ?_)
    subst hr_3
    refine lv_if_eq (tgt := 20) hx hb dX12_contract_13 (by decide) (fun c_4 => ?_) (fun c_4 => ?_)
    · have c_4 := bI_f c_4
      refine lv_iconst (v := nI 0) hx hb dX12_contract_20 (by decide) ?_
      refine zeq (show nI 0 = bI false from rfl) ?_
      refine lv_iconst (v := nI 1) hx hb dX12_contract_21 (by decide) ?_
      refine va_calli (va_runV (As := [.int (bI false), .int (nI 1)]) (rest := []) ⟨hx, hb, hml, hown, hts⟩ (c_X12_start_f l D ty A u C ma t0 mi g n1 n2 nL n4 n5 th rep bro hR 1 (by omega) (by omega)) (cwV 2 hts gX12_contract_X12_start rfl rfl rfl (by decide +kernel) ⟨Nat.le_of_ble_eq_true rfl, Nat.le_of_ble_eq_true rfl⟩) ⟨zBl mI_blind, (va_recv hK (hM.Pa hR.o.1 rfl hR.o.2) (ci := 13) (q0 := 0) rfl rfl), fun U h1 h2 => ⟨rfl, mI_pre hM hK hMS hS U h1 h2⟩⟩ rfl rfl hl.1 rfl (lv_room (Nat.le_of_ble_eq_true rfl)) dX12_contract_22 ⟨Nat.le_of_ble_eq_true rfl, Nat.le_of_ble_eq_true rfl⟩) hS (fun _ _ h => h) (fun _ h => h) (fun r_6 C_5 t H1 locs ht hvm hw hB9 hz1 hk1 hS => ?_)
      obtain ⟨hr_6, hR_7⟩ := hw
      obtain ⟨hM, -, -⟩ := hB9
      rw [ht] at hM
      clear hk1 hz1 hvm ht
      clear t
      generalize H1 = H at hM hS ⊢
      subst hr_6
      refine lv_if_ne (tgt := 110) hx hb dX12_contract_25 (by decide) (fun c_8 => ?_) (fun c_8 => ?_)
      · have c_8 := bI_t c_8
        cases c_8
      · have c_8 := bI_f c_8
        refine lv_aload_n hx hb dX12_contract_28 rfl (lv_at hl 0 rfl) ?_
        refine lv_aload_n hx hb dX12_contract_29 rfl (lv_at hl 0 rfl) ?_
        refine lv_iload_n hx hb dX12_contract_30 rfl (lv_at hl 2 rfl) ?_
        refine lv_iload_n hx hb dX12_contract_31 rfl (lv_at hl 3 rfl) ?_
        refine zcVi (As := [.int (nI i), .int F]) (rest := [.ref (ma 0 0)]) ⟨hx, hb, hml, hown, hts⟩ (c_X12_isNoFields l D ty A u C_5 ma t0 mi g n1 n2 nL n4 n5 (nI 0) rep bro hR_7 i (by omega) F) (cwV 2 hts gX12_contract_X12_isNoFields rfl rfl rfl (by decide +kernel) ⟨Nat.le_of_ble_eq_true rfl, Nat.le_of_ble_eq_true rfl⟩) mI_blind (mI_pre hM hK hMS hS) (va_recv hK (hM.Pa hR_7.o.1 rfl hR_7.o.2) (ci := 13) (q0 := 0) rfl rfl) rfl hl.1 rfl (Nat.le_of_ble_eq_true rfl) dX12_contract_32 ⟨Nat.le_of_ble_eq_true rfl, Nat.le_of_ble_eq_true rfl⟩ (fun r_9 hr_9 => ?_)
        subst hr_9
        refine lv_if_ne (tgt := 73) hx hb dX12_contract_35 (by decide) (fun c_10 => ?_) (fun c_10 => ?_)
        · have c_10 := bI_t c_10
          refine lv_iconst (v := nI 1) hx hb dX12_contract_73 (by decide) ?_
          refine zeq (show nI 1 = bI true from rfl) ?_
          refine lv_goto (tgt := 78) hx hb dX12_contract_74 (by decide) ?_
          refine lv_iconst (v := nI 2) hx hb dX12_contract_78 (by decide) ?_
          refine va_calli (va_runV (As := [.int (bI true), .int (nI 2)]) (rest := []) ⟨hx, hb, hml, hown, hts⟩ (c_X12_refuse_t l D ty A u C_5 ma t0 mi g n1 n2 nL n4 n5 (nI 0) rep bro hR_7 rfl 2 (by omega) (by omega)) (cwV 2 hts gX12_contract_X12_refuse rfl rfl rfl (by decide +kernel) ⟨Nat.le_of_ble_eq_true rfl, Nat.le_of_ble_eq_true rfl⟩) ⟨zBl mI_blind, (va_recv hK (hM.Pa hR_7.o.1 rfl hR_7.o.2) (ci := 13) (q0 := 0) rfl rfl), fun U h1 h2 => ⟨rfl, mI_pre hM hK hMS hS U h1 h2⟩⟩ rfl rfl hl.1 rfl (lv_room (Nat.le_of_ble_eq_true rfl)) dX12_contract_79 ⟨Nat.le_of_ble_eq_true rfl, Nat.le_of_ble_eq_true rfl⟩) hS (fun _ _ h => h) (fun _ h => h) (fun r_12 C_11 t H1 locs ht hvm hw hB9 hz1 hk1 hS => ?_)
          obtain ⟨hr_12, hR_13⟩ := hw
          obtain ⟨hM, -, -⟩ := hB9
          rw [ht] at hM
          clear hk1 hz1 hvm ht
          clear t
          generalize H1 = H at hM hS ⊢
          subst hr_12
          refine lv_if_ne (tgt := 110) hx hb dX12_contract_82 (by decide) (fun c_14 => ?_) (fun c_14 => ?_)
          · have c_14 := bI_t c_14
            refine lv_iconst (v := nI 0) hx hb dX12_contract_110 (by decide) ?_
            exact W.iret (v := nI 0) hx hb hr (fun t ht hW => ⟨⟨_, C_11, rfl, ⟨rfl, hR_13⟩, mI_pre hM hK hMS hS t ht hW⟩, hS.F ht⟩) hS.2.2 dX12_contract_111
          · have c_14 := bI_f c_14
            cases c_14
        · have c_10 := bI_f c_10
          refine lv_iload hx hb dX12_contract_38 (lv_at hl 4 rfl) ?_
          refine lv_iconst (v := nI 1) hx hb dX12_contract_40 (by decide) ?_
          refine lv_bipush (v := nI 15) hx hb dX12_contract_41 (by decide) ?_
          refine zcSi (As := [.int ps, .int (nI 1), .int (nI 15)]) (rest := [.ref (ma 0 0)]) ⟨hx, hb, hml, hown, hts⟩ (c_X12_isIn l _ ps (nI 1) (nI 15)) (cwS 3 hts gX12_contract_X12_isIn rfl rfl rfl (by decide +kernel) ⟨Nat.le_of_ble_eq_true rfl, Nat.le_of_ble_eq_true rfl⟩) (B := fun _ => True) (fun _ _ _ _ _ => trivial) (fun _ _ _ => trivial) rfl hl.1 rfl (Nat.le_of_ble_eq_true rfl) dX12_contract_43 ⟨Nat.le_of_ble_eq_true rfl, Nat.le_of_ble_eq_true rfl⟩ (fun r_15 hr_15 => ?_)
          subst hr_15
          refine lv_if_eq (tgt := 73) hx hb dX12_contract_46 (by decide) (fun c_16 => ?_) (fun c_16 => ?_)
          · have c_16 := bI_f c_16
            refine lv_iconst (v := nI 1) hx hb dX12_contract_73 (by decide) ?_
            refine zeq (show nI 1 = bI true from rfl) ?_
            refine lv_goto (tgt := 78) hx hb dX12_contract_74 (by decide) ?_
            refine lv_iconst (v := nI 2) hx hb dX12_contract_78 (by decide) ?_
            refine va_calli (va_runV (As := [.int (bI true), .int (nI 2)]) (rest := []) ⟨hx, hb, hml, hown, hts⟩ (c_X12_refuse_t l D ty A u C_5 ma t0 mi g n1 n2 nL n4 n5 (nI 0) rep bro hR_7 rfl 2 (by omega) (by omega)) (cwV 2 hts gX12_contract_X12_refuse rfl rfl rfl (by decide +kernel) ⟨Nat.le_of_ble_eq_true rfl, Nat.le_of_ble_eq_true rfl⟩) ⟨zBl mI_blind, (va_recv hK (hM.Pa hR_7.o.1 rfl hR_7.o.2) (ci := 13) (q0 := 0) rfl rfl), fun U h1 h2 => ⟨rfl, mI_pre hM hK hMS hS U h1 h2⟩⟩ rfl rfl hl.1 rfl (lv_room (Nat.le_of_ble_eq_true rfl)) dX12_contract_79 ⟨Nat.le_of_ble_eq_true rfl, Nat.le_of_ble_eq_true rfl⟩) hS (fun _ _ h => h) (fun _ h => h) (fun r_18 C_17 t H1 locs ht hvm hw hB9 hz1 hk1 hS => ?_)
            obtain ⟨hr_18, hR_19⟩ := hw
            obtain ⟨hM, -, -⟩ := hB9
            rw [ht] at hM
            clear hk1 hz1 hvm ht
            clear t
            generalize H1 = H at hM hS ⊢
            subst hr_18
            refine lv_if_ne (tgt := 110) hx hb dX12_contract_82 (by decide) (fun c_20 => ?_) (fun c_20 => ?_)
            · have c_20 := bI_t c_20
              refine lv_iconst (v := nI 0) hx hb dX12_contract_110 (by decide) ?_
              exact W.iret (v := nI 0) hx hb hr (fun t ht hW => ⟨⟨_, C_17, rfl, ⟨rfl, hR_19⟩, mI_pre hM hK hMS hS t ht hW⟩, hS.F ht⟩) hS.2.2 dX12_contract_111
            · have c_20 := bI_f c_20
              cases c_20
          · have c_16 := bI_t c_16
            refine lv_iload hx hb dX12_contract_49 (lv_at hl 5 rfl) ?_
            refine lv_aload_n hx hb dX12_contract_51 rfl (lv_at hl 0 rfl) ?_
            refine va_get hx hb hts hinX12 hown hK (hM.Pa hR_7.o.1 rfl hR_7.o.2) 0 rfl rfl 5 (by decide) (hk1) (fun _ h9 => h9) rfl dX12_contract_52 ?_
            refine lv_icmp_lt (tgt := 73) hx hb dX12_contract_55 (by decide) (fun c_21 => ?_) (fun c_21 => ?_)
            · refine lv_iconst (v := nI 1) hx hb dX12_contract_73 (by decide) ?_
              refine zeq (show nI 1 = bI true from rfl) ?_
              refine lv_goto (tgt := 78) hx hb dX12_contract_74 (by decide) ?_
              refine lv_iconst (v := nI 2) hx hb dX12_contract_78 (by decide) ?_
              refine va_calli (va_runV (As := [.int (bI true), .int (nI 2)]) (rest := []) ⟨hx, hb, hml, hown, hts⟩ (c_X12_refuse_t l D ty A u C_5 ma t0 mi g n1 n2 nL n4 n5 (nI 0) rep bro hR_7 rfl 2 (by omega) (by omega)) (cwV 2 hts gX12_contract_X12_refuse rfl rfl rfl (by decide +kernel) ⟨Nat.le_of_ble_eq_true rfl, Nat.le_of_ble_eq_true rfl⟩) ⟨zBl mI_blind, (va_recv hK (hM.Pa hR_7.o.1 rfl hR_7.o.2) (ci := 13) (q0 := 0) rfl rfl), fun U h1 h2 => ⟨rfl, mI_pre hM hK hMS hS U h1 h2⟩⟩ rfl rfl hl.1 rfl (lv_room (Nat.le_of_ble_eq_true rfl)) dX12_contract_79 ⟨Nat.le_of_ble_eq_true rfl, Nat.le_of_ble_eq_true rfl⟩) hS (fun _ _ h => h) (fun _ h => h) (fun r_23 C_22 t H1 locs ht hvm hw hB9 hz1 hk1 hS => ?_)
              obtain ⟨hr_23, hR_24⟩ := hw
              obtain ⟨hM, -, -⟩ := hB9
              rw [ht] at hM
              clear hk1 hz1 hvm ht
              clear t
              generalize H1 = H at hM hS ⊢
              subst hr_23
              refine lv_if_ne (tgt := 110) hx hb dX12_contract_82 (by decide) (fun c_25 => ?_) (fun c_25 => ?_)
              · have c_25 := bI_t c_25
                refine lv_iconst (v := nI 0) hx hb dX12_contract_110 (by decide) ?_
                exact W.iret (v := nI 0) hx hb hr (fun t ht hW => ⟨⟨_, C_22, rfl, ⟨rfl, hR_24⟩, mI_pre hM hK hMS hS t ht hW⟩, hS.F ht⟩) hS.2.2 dX12_contract_111
              · have c_25 := bI_f c_25
                cases c_25
            · refine lv_iload hx hb dX12_contract_58 (lv_at hl 6 rfl) ?_
              refine lv_iload hx hb dX12_contract_60 (lv_at hl 5 rfl) ?_
              refine lv_icmp_lt (tgt := 73) hx hb dX12_contract_62 (by decide) (fun c_26 => ?_) (fun c_26 => ?_)
              · refine lv_iconst (v := nI 1) hx hb dX12_contract_73 (by decide) ?_
                refine zeq (show nI 1 = bI true from rfl) ?_
                refine lv_goto (tgt := 78) hx hb dX12_contract_74 (by decide) ?_
                refine lv_iconst (v := nI 2) hx hb dX12_contract_78 (by decide) ?_
                refine va_calli (va_runV (As := [.int (bI true), .int (nI 2)]) (rest := []) ⟨hx, hb, hml, hown, hts⟩ (c_X12_refuse_t l D ty A u C_5 ma t0 mi g n1 n2 nL n4 n5 (nI 0) rep bro hR_7 rfl 2 (by omega) (by omega)) (cwV 2 hts gX12_contract_X12_refuse rfl rfl rfl (by decide +kernel) ⟨Nat.le_of_ble_eq_true rfl, Nat.le_of_ble_eq_true rfl⟩) ⟨zBl mI_blind, (va_recv hK (hM.Pa hR_7.o.1 rfl hR_7.o.2) (ci := 13) (q0 := 0) rfl rfl), fun U h1 h2 => ⟨rfl, mI_pre hM hK hMS hS U h1 h2⟩⟩ rfl rfl hl.1 rfl (lv_room (Nat.le_of_ble_eq_true rfl)) dX12_contract_79 ⟨Nat.le_of_ble_eq_true rfl, Nat.le_of_ble_eq_true rfl⟩) hS (fun _ _ h => h) (fun _ h => h) (fun r_28 C_27 t H1 locs ht hvm hw hB9 hz1 hk1 hS => ?_)
                obtain ⟨hr_28, hR_29⟩ := hw
                obtain ⟨hM, -, -⟩ := hB9
                rw [ht] at hM
                clear hk1 hz1 hvm ht
                clear t
                generalize H1 = H at hM hS ⊢
                subst hr_28
                refine lv_if_ne (tgt := 110) hx hb dX12_contract_82 (by decide) (fun c_30 => ?_) (fun c_30 => ?_)
                · have c_30 := bI_t c_30
                  refine lv_iconst (v := nI 0) hx hb dX12_contract_110 (by decide) ?_
                  exact W.iret (v := nI 0) hx hb hr (fun t ht hW => ⟨⟨_, C_27, rfl, ⟨rfl, hR_29⟩, mI_pre hM hK hMS hS t ht hW⟩, hS.F ht⟩) hS.2.2 dX12_contract_111
                · have c_30 := bI_f c_30
                  cases c_30
              · refine lv_iload hx hb dX12_contract_65 (lv_at hl 6 rfl) ?_
                refine lv_sipush (v := nI 359) hx hb dX12_contract_67 (by decide) ?_
                refine lv_icmp_le (tgt := 77) hx hb dX12_contract_70 (by decide) (fun c_31 => ?_) (fun c_31 => ?_)
                · have c_31 : ¬ nI 359 < to := Int32.not_lt.mpr c_31
                  simp only [c_2, c_4, c_8, c_10, c_16, decide_eq_false c_21, decide_eq_false c_26, decide_eq_false c_31, Bool.not_true, Bool.not_false, Bool.and_true, Bool.true_and, Bool.and_false, Bool.false_and, Bool.or_true, Bool.true_or, Bool.or_false, Bool.false_or, Bool.and_self, Bool.or_self, Bool.true_eq_false, Bool.false_eq_true] at h2
                · have c_31 : nI 359 < to := Int32.not_le.mp c_31
                  refine lv_iconst (v := nI 1) hx hb dX12_contract_73 (by decide) ?_
                  refine zeq (show nI 1 = bI true from rfl) ?_
                  refine lv_goto (tgt := 78) hx hb dX12_contract_74 (by decide) ?_
                  refine lv_iconst (v := nI 2) hx hb dX12_contract_78 (by decide) ?_
                  refine va_calli (va_runV (As := [.int (bI true), .int (nI 2)]) (rest := []) ⟨hx, hb, hml, hown, hts⟩ (c_X12_refuse_t l D ty A u C_5 ma t0 mi g n1 n2 nL n4 n5 (nI 0) rep bro hR_7 rfl 2 (by omega) (by omega)) (cwV 2 hts gX12_contract_X12_refuse rfl rfl rfl (by decide +kernel) ⟨Nat.le_of_ble_eq_true rfl, Nat.le_of_ble_eq_true rfl⟩) ⟨zBl mI_blind, (va_recv hK (hM.Pa hR_7.o.1 rfl hR_7.o.2) (ci := 13) (q0 := 0) rfl rfl), fun U h1 h2 => ⟨rfl, mI_pre hM hK hMS hS U h1 h2⟩⟩ rfl rfl hl.1 rfl (lv_room (Nat.le_of_ble_eq_true rfl)) dX12_contract_79 ⟨Nat.le_of_ble_eq_true rfl, Nat.le_of_ble_eq_true rfl⟩) hS (fun _ _ h => h) (fun _ h => h) (fun r_33 C_32 t H1 locs ht hvm hw hB9 hz1 hk1 hS => ?_)
                  obtain ⟨hr_33, hR_34⟩ := hw
                  obtain ⟨hM, -, -⟩ := hB9
                  rw [ht] at hM
                  clear hk1 hz1 hvm ht
                  clear t
                  generalize H1 = H at hM hS ⊢
                  subst hr_33
                  refine lv_if_ne (tgt := 110) hx hb dX12_contract_82 (by decide) (fun c_35 => ?_) (fun c_35 => ?_)
                  · have c_35 := bI_t c_35
                    refine lv_iconst (v := nI 0) hx hb dX12_contract_110 (by decide) ?_
                    exact W.iret (v := nI 0) hx hb hr (fun t ht hW => ⟨⟨_, C_32, rfl, ⟨rfl, hR_34⟩, mI_pre hM hK hMS hS t ht hW⟩, hS.F ht⟩) hS.2.2 dX12_contract_111
                  · have c_35 := bI_f c_35
                    cases c_35
    · have c_4 := bI_t c_4
      simp only [c_2, c_4, Bool.not_true, Bool.not_false, Bool.and_true, Bool.true_and, Bool.and_false, Bool.false_and, Bool.or_true, Bool.true_or, Bool.or_false, Bool.false_or, Bool.and_self, Bool.or_self, Bool.true_eq_false, Bool.false_eq_true] at h1
set_option maxHeartbeats 600000 in
set_option maxRecDepth 100000 in
theorem m_contract_x3 (l : Launch) (D : va_G) (ty : Nat → ClassId) (A : Nat → Prop) (u : Nat → Nat → Prop) (C : Nat → Nat → va_E) (ma : Nat → Nat → Nat) (t0 mi : Nat) (g : Nat → Nat → Int32) (n1 n2 nL n4 n5 : Nat) (th : Int32) (rep bro : Nat → Nat → Int32) (hR : mR ty t0 g n1 n2 nL n4 n5 th rep bro u C ma) (R i : Nat) (hr6 : R < 6) (hi : i < n1) (F ps fr to : Int32) (h2 : (bFds g i F || !inB ps (nI 1) (nI 15) || decide (fr < g 0 0) || decide (to < fr) || decide (nI 359 < to)) = false) (hn16 : n4 = 16) : Met l yX12_contract wsX12_contract ({ frames := 7, cells := 0, slots := 0, locals := 192 }) (va_Pc [.ref (ma 0 0), .int (nI R), .int (nI i), .int F, .int ps, .int fr, .int to] (mI D ty A u C ma t0 mi)) (va_Qi (fun (v9 : Int32) (C2 : Nat → Nat → va_E) => v9 = nI 0 ∧ mR ty t0 g n1 n2 nL n4 n5 (nI 3) rep bro u C2 ma) (fun C2 t => mI D ty A u C2 ma t0 mi t) A) 0 0 A := by
  refine zMet (cc := cX12_contract) (maxL := 7) (ret := (some .int)) (by decide) rfl (Nat.le_of_ble_eq_true rfl) ?_
  intro p e s m below meth c hx hb hr hts hown hlocks hml hB ls hl
  obtain ⟨hM, hK, hMS⟩ := hB
  have hS : va_S A s.heap s.heap [] := va_S.rf
  have hbn := hR.I.b1
  have hbs := hR.I.b2
  have hbl := hR.I.bL
  have hbc := hR.I.b4
  have hbr := hR.I.b5
  have h1 : (bRd (nI R) || bNo n1 (nI i)) = false := by rw [bRd_ok hr6, bNo_ok hR.I.b1 hi]; rfl
  have hl : lv_has ls 7 [(0, .ref (ma 0 0)), (1, .int (nI R)), (2, .int (nI i)), (3, .int F), (4, .int ps), (5, .int fr), (6, .int to)] := hl
  have hinX12 : ∀ w ∈ wsX120, w ∈ wsX12_contract := by decide +kernel
  have hk1 := hts (.fieldLink RX12 193 "DatamarketDeskModel" "today" "I") (by decide +kernel)
  have hk2 := hts (.fieldLink RX12 19 "DatamarketDeskModel" "contracts" "Ljava/util/ArrayList;") (by decide +kernel)
  refine lv_aload_n hx hb dX12_contract_0 rfl (lv_at hl 0 rfl) ?_
  refine lv_iload_n hx hb dX12_contract_1 rfl (lv_at hl 1 rfl) ?_
  refine zcSi (As := [.int (nI R)]) (rest := [.ref (ma 0 0)]) ⟨hx, hb, hml, hown, hts⟩ (c_X12_isNoReader l _ (nI R)) (cwS 1 hts gX12_contract_X12_isNoReader rfl rfl rfl (by decide +kernel) ⟨Nat.le_of_ble_eq_true rfl, Nat.le_of_ble_eq_true rfl⟩) (B := fun _ => True) (fun _ _ _ _ _ => trivial) (fun _ _ _ => trivial) rfl hl.1 rfl (Nat.le_of_ble_eq_true rfl) dX12_contract_2 ⟨Nat.le_of_ble_eq_true rfl, Nat.le_of_ble_eq_true rfl⟩ (fun r_1 hr_1 => ?_)
  subst hr_1
  refine lv_if_ne (tgt := 16) hx hb dX12_contract_5 (by decide) (fun c_2 => ?_) (fun c_2 => ?_)
  · have c_2 := bI_t c_2
    simp only [c_2, Bool.not_true, Bool.not_false, Bool.and_true, Bool.true_and, Bool.and_false, Bool.false_and, Bool.or_true, Bool.true_or, Bool.or_false, Bool.false_or, Bool.and_self, Bool.or_self, Bool.true_eq_false, Bool.false_eq_true] at h1
  · have c_2 := bI_f c_2
    refine lv_aload_n hx hb dX12_contract_8 rfl (lv_at hl 0 rfl) ?_
    refine lv_iload_n hx hb dX12_contract_9 rfl (lv_at hl 2 rfl) ?_
    refine zcVi (As := [.int (nI i)]) (rest := [.ref (ma 0 0)]) ⟨hx, hb, hml, hown, hts⟩ (c_X12_isNo l D ty A u C ma t0 mi g n1 n2 nL n4 n5 th rep bro hR (nI i)) (cwV 1 hts gX12_contract_X12_isNo rfl rfl rfl (by decide +kernel) ⟨Nat.le_of_ble_eq_true rfl, Nat.le_of_ble_eq_true rfl⟩) mI_blind (mI_pre hM hK hMS hS) (va_recv hK (hM.Pa hR.o.1 rfl hR.o.2) (ci := 13) (q0 := 0) rfl rfl) rfl hl.1 rfl (Nat.le_of_ble_eq_true rfl) dX12_contract_10 ⟨Nat.le_of_ble_eq_true rfl, Nat.le_of_ble_eq_true rfl⟩ (fun r_3 hr_3 => ?_)
    subst hr_3
    refine lv_if_eq (tgt := 20) hx hb dX12_contract_13 (by decide) (fun c_4 => ?_) (fun c_4 => ?_)
    · have c_4 := bI_f c_4
      refine lv_iconst (v := nI 0) hx hb dX12_contract_20 (by decide) ?_
      refine zeq (show nI 0 = bI false from rfl) ?_
      refine lv_iconst (v := nI 1) hx hb dX12_contract_21 (by decide) ?_
      refine va_calli (va_runV (As := [.int (bI false), .int (nI 1)]) (rest := []) ⟨hx, hb, hml, hown, hts⟩ (c_X12_start_f l D ty A u C ma t0 mi g n1 n2 nL n4 n5 th rep bro hR 1 (by omega) (by omega)) (cwV 2 hts gX12_contract_X12_start rfl rfl rfl (by decide +kernel) ⟨Nat.le_of_ble_eq_true rfl, Nat.le_of_ble_eq_true rfl⟩) ⟨zBl mI_blind, (va_recv hK (hM.Pa hR.o.1 rfl hR.o.2) (ci := 13) (q0 := 0) rfl rfl), fun U h1 h2 => ⟨rfl, mI_pre hM hK hMS hS U h1 h2⟩⟩ rfl rfl hl.1 rfl (lv_room (Nat.le_of_ble_eq_true rfl)) dX12_contract_22 ⟨Nat.le_of_ble_eq_true rfl, Nat.le_of_ble_eq_true rfl⟩) hS (fun _ _ h => h) (fun _ h => h) (fun r_6 C_5 t H1 locs ht hvm hw hB9 hz1 hk1 hS => ?_)
      obtain ⟨hr_6, hR_7⟩ := hw
      obtain ⟨hM, -, -⟩ := hB9
      rw [ht] at hM
      clear hk1 hz1 hvm ht
      clear t
      generalize H1 = H at hM hS ⊢
      subst hr_6
      refine lv_if_ne (tgt := 110) hx hb dX12_contract_25 (by decide) (fun c_8 => ?_) (fun c_8 => ?_)
      · have c_8 := bI_t c_8
        cases c_8
      · have c_8 := bI_f c_8
        refine lv_aload_n hx hb dX12_contract_28 rfl (lv_at hl 0 rfl) ?_
        refine lv_aload_n hx hb dX12_contract_29 rfl (lv_at hl 0 rfl) ?_
        refine lv_iload_n hx hb dX12_contract_30 rfl (lv_at hl 2 rfl) ?_
        refine lv_iload_n hx hb dX12_contract_31 rfl (lv_at hl 3 rfl) ?_
        refine zcVi (As := [.int (nI i), .int F]) (rest := [.ref (ma 0 0)]) ⟨hx, hb, hml, hown, hts⟩ (c_X12_isNoFields l D ty A u C_5 ma t0 mi g n1 n2 nL n4 n5 (nI 0) rep bro hR_7 i (by omega) F) (cwV 2 hts gX12_contract_X12_isNoFields rfl rfl rfl (by decide +kernel) ⟨Nat.le_of_ble_eq_true rfl, Nat.le_of_ble_eq_true rfl⟩) mI_blind (mI_pre hM hK hMS hS) (va_recv hK (hM.Pa hR_7.o.1 rfl hR_7.o.2) (ci := 13) (q0 := 0) rfl rfl) rfl hl.1 rfl (Nat.le_of_ble_eq_true rfl) dX12_contract_32 ⟨Nat.le_of_ble_eq_true rfl, Nat.le_of_ble_eq_true rfl⟩ (fun r_9 hr_9 => ?_)
        subst hr_9
        refine lv_if_ne (tgt := 73) hx hb dX12_contract_35 (by decide) (fun c_10 => ?_) (fun c_10 => ?_)
        · have c_10 := bI_t c_10
          simp only [c_2, c_4, c_8, c_10, Bool.not_true, Bool.not_false, Bool.and_true, Bool.true_and, Bool.and_false, Bool.false_and, Bool.or_true, Bool.true_or, Bool.or_false, Bool.false_or, Bool.and_self, Bool.or_self, Bool.true_eq_false, Bool.false_eq_true] at h2
        · have c_10 := bI_f c_10
          refine lv_iload hx hb dX12_contract_38 (lv_at hl 4 rfl) ?_
          refine lv_iconst (v := nI 1) hx hb dX12_contract_40 (by decide) ?_
          refine lv_bipush (v := nI 15) hx hb dX12_contract_41 (by decide) ?_
          refine zcSi (As := [.int ps, .int (nI 1), .int (nI 15)]) (rest := [.ref (ma 0 0)]) ⟨hx, hb, hml, hown, hts⟩ (c_X12_isIn l _ ps (nI 1) (nI 15)) (cwS 3 hts gX12_contract_X12_isIn rfl rfl rfl (by decide +kernel) ⟨Nat.le_of_ble_eq_true rfl, Nat.le_of_ble_eq_true rfl⟩) (B := fun _ => True) (fun _ _ _ _ _ => trivial) (fun _ _ _ => trivial) rfl hl.1 rfl (Nat.le_of_ble_eq_true rfl) dX12_contract_43 ⟨Nat.le_of_ble_eq_true rfl, Nat.le_of_ble_eq_true rfl⟩ (fun r_11 hr_11 => ?_)
          subst hr_11
          refine lv_if_eq (tgt := 73) hx hb dX12_contract_46 (by decide) (fun c_12 => ?_) (fun c_12 => ?_)
          · have c_12 := bI_f c_12
            simp only [c_2, c_4, c_8, c_10, c_12, Bool.not_true, Bool.not_false, Bool.and_true, Bool.true_and, Bool.and_false, Bool.false_and, Bool.or_true, Bool.true_or, Bool.or_false, Bool.false_or, Bool.and_self, Bool.or_self, Bool.true_eq_false, Bool.false_eq_true] at h2
          · have c_12 := bI_t c_12
            refine lv_iload hx hb dX12_contract_49 (lv_at hl 5 rfl) ?_
            refine lv_aload_n hx hb dX12_contract_51 rfl (lv_at hl 0 rfl) ?_
            refine va_get hx hb hts hinX12 hown hK (hM.Pa hR_7.o.1 rfl hR_7.o.2) 0 rfl rfl 5 (by decide) (hk1) (fun _ h9 => h9) rfl dX12_contract_52 ?_
            refine lv_icmp_lt (tgt := 73) hx hb dX12_contract_55 (by decide) (fun c_13 => ?_) (fun c_13 => ?_)
            · simp only [c_2, c_4, c_8, c_10, c_12, decide_eq_true c_13, Bool.not_true, Bool.not_false, Bool.and_true, Bool.true_and, Bool.and_false, Bool.false_and, Bool.or_true, Bool.true_or, Bool.or_false, Bool.false_or, Bool.and_self, Bool.or_self, Bool.true_eq_false, Bool.false_eq_true] at h2
            · refine lv_iload hx hb dX12_contract_58 (lv_at hl 6 rfl) ?_
              refine lv_iload hx hb dX12_contract_60 (lv_at hl 5 rfl) ?_
              refine lv_icmp_lt (tgt := 73) hx hb dX12_contract_62 (by decide) (fun c_14 => ?_) (fun c_14 => ?_)
              · simp only [c_2, c_4, c_8, c_10, c_12, decide_eq_false c_13, decide_eq_true c_14, Bool.not_true, Bool.not_false, Bool.and_true, Bool.true_and, Bool.and_false, Bool.false_and, Bool.or_true, Bool.true_or, Bool.or_false, Bool.false_or, Bool.and_self, Bool.or_self, Bool.true_eq_false, Bool.false_eq_true] at h2
              · refine lv_iload hx hb dX12_contract_65 (lv_at hl 6 rfl) ?_
                refine lv_sipush (v := nI 359) hx hb dX12_contract_67 (by decide) ?_
                refine lv_icmp_le (tgt := 77) hx hb dX12_contract_70 (by decide) (fun c_15 => ?_) (fun c_15 => ?_)
                · have c_15 : ¬ nI 359 < to := Int32.not_lt.mpr c_15
                  refine lv_iconst (v := nI 0) hx hb dX12_contract_77 (by decide) ?_
                  refine zeq (show nI 0 = bI false from rfl) ?_
                  refine lv_iconst (v := nI 2) hx hb dX12_contract_78 (by decide) ?_
                  refine zcVi (As := [.int (bI false), .int (nI 2)]) (rest := []) ⟨hx, hb, hml, hown, hts⟩ (c_X12_refuse_f l D ty A u C_5 ma t0 mi g n1 n2 nL n4 n5 (nI 0) rep bro hR_7 rfl (nI 2)) (cwV 2 hts gX12_contract_X12_refuse rfl rfl rfl (by decide +kernel) ⟨Nat.le_of_ble_eq_true rfl, Nat.le_of_ble_eq_true rfl⟩) mI_blind (mI_pre hM hK hMS hS) (va_recv hK (hM.Pa hR_7.o.1 rfl hR_7.o.2) (ci := 13) (q0 := 0) rfl rfl) rfl hl.1 rfl (Nat.le_of_ble_eq_true rfl) dX12_contract_79 ⟨Nat.le_of_ble_eq_true rfl, Nat.le_of_ble_eq_true rfl⟩ (fun r_16 hr_16 => ?_)
                  subst hr_16
                  refine lv_if_ne (tgt := 110) hx hb dX12_contract_82 (by decide) (fun c_17 => ?_) (fun c_17 => ?_)
                  · have c_17 := bI_t c_17
                    cases c_17
                  · have c_17 := bI_f c_17
                    refine lv_aload_n hx hb dX12_contract_85 rfl (lv_at hl 0 rfl) ?_
                    refine lv_aload_n hx hb dX12_contract_86 rfl (lv_at hl 0 rfl) ?_
                    refine va_get hx hb hts hinX12 hown hK (hM.Pa hR_7.o.1 rfl hR_7.o.2) 0 rfl rfl 3 (by decide) (hk2) (fun _ h9 => h9) rfl dX12_contract_87 ?_
                    obtain ⟨huz_18, hnz_18, mz_18, bz_18, hCz_18⟩ := isL.hd hR_7.l5
                    refine zcVi (As := []) (rest := [.ref (ma 0 0)]) ⟨hx, hb, hml, hown, hts⟩ (c_size l D ty A u C_5 ma t0 mi 5 0 n4 (ma 25) hR_7.l5) (cwV 0 hts gX12_contract_Jx4a65c_size_8abf5 rfl rfl rfl (by decide +kernel) ⟨Nat.le_of_ble_eq_true rfl, Nat.le_of_ble_eq_true rfl⟩) mI_blind (mI_pre hM hK hMS hS) (va_recv hK (hM.Pa huz_18 rfl hCz_18) (ci := 0) (q0 := 0) rfl rfl) rfl hl.1 rfl (Nat.le_of_ble_eq_true rfl) dX12_contract_90 ⟨Nat.le_of_ble_eq_true rfl, Nat.le_of_ble_eq_true rfl⟩ (fun r_19 hr_19 => ?_)
                    subst hr_19
                    refine lv_bipush (v := nI 16) hx hb dX12_contract_93 (by decide) ?_
                    refine lv_icmp_ne (tgt := 102) hx hb dX12_contract_95 (by decide) (fun c_20 => ?_) (fun c_20 => ?_)
                    · have c_20 := zn_neT (a := n4) (b := 16) (by omega) (by omega) c_20
                      omega
                    · have c_20 := zn_neF (a := n4) (b := 16) (by omega) (by omega) c_20
                      refine lv_iconst (v := nI 1) hx hb dX12_contract_98 (by decide) ?_
                      refine zeq (show nI 1 = bI true from rfl) ?_
                      refine lv_goto (tgt := 103) hx hb dX12_contract_99 (by decide) ?_
                      refine lv_iconst (v := nI 3) hx hb dX12_contract_103 (by decide) ?_
                      refine va_calli (va_runV (As := [.int (bI true), .int (nI 3)]) (rest := []) ⟨hx, hb, hml, hown, hts⟩ (c_X12_refuse_t l D ty A u C_5 ma t0 mi g n1 n2 nL n4 n5 (nI 0) rep bro hR_7 rfl 3 (by omega) (by omega)) (cwV 2 hts gX12_contract_X12_refuse rfl rfl rfl (by decide +kernel) ⟨Nat.le_of_ble_eq_true rfl, Nat.le_of_ble_eq_true rfl⟩) ⟨zBl mI_blind, (va_recv hK (hM.Pa hR_7.o.1 rfl hR_7.o.2) (ci := 13) (q0 := 0) rfl rfl), fun U h1 h2 => ⟨rfl, mI_pre hM hK hMS hS U h1 h2⟩⟩ rfl rfl hl.1 rfl (lv_room (Nat.le_of_ble_eq_true rfl)) dX12_contract_104 ⟨Nat.le_of_ble_eq_true rfl, Nat.le_of_ble_eq_true rfl⟩) hS (fun _ _ h => h) (fun _ h => h) (fun r_22 C_21 t H1 locs ht hvm hw hB9 hz1 hk1 hS => ?_)
                      obtain ⟨hr_22, hR_23⟩ := hw
                      obtain ⟨hM, -, -⟩ := hB9
                      rw [ht] at hM
                      clear hk1 hz1 hvm ht
                      clear t
                      generalize H1 = H at hM hS ⊢
                      subst hr_22
                      refine lv_if_eq (tgt := 112) hx hb dX12_contract_107 (by decide) (fun c_24 => ?_) (fun c_24 => ?_)
                      · have c_24 := bI_f c_24
                        cases c_24
                      · have c_24 := bI_t c_24
                        refine lv_iconst (v := nI 0) hx hb dX12_contract_110 (by decide) ?_
                        exact W.iret (v := nI 0) hx hb hr (fun t ht hW => ⟨⟨_, C_21, rfl, ⟨rfl, hR_23⟩, mI_pre hM hK hMS hS t ht hW⟩, hS.F ht⟩) hS.2.2 dX12_contract_111
                · have c_15 : nI 359 < to := Int32.not_le.mp c_15
                  simp only [c_2, c_4, c_8, c_10, c_12, decide_eq_false c_13, decide_eq_false c_14, decide_eq_true c_15, Bool.not_true, Bool.not_false, Bool.and_true, Bool.true_and, Bool.and_false, Bool.false_and, Bool.or_true, Bool.true_or, Bool.or_false, Bool.false_or, Bool.and_self, Bool.or_self, Bool.true_eq_false, Bool.false_eq_true] at h2
    · have c_4 := bI_t c_4
      simp only [c_2, c_4, Bool.not_true, Bool.not_false, Bool.and_true, Bool.true_and, Bool.and_false, Bool.false_and, Bool.or_true, Bool.true_or, Bool.or_false, Bool.false_or, Bool.and_self, Bool.or_self, Bool.true_eq_false, Bool.false_eq_true] at h1
set_option maxHeartbeats 1000000 in
set_option maxRecDepth 100000 in
theorem m_contract (l : Launch) (D : va_G) (ty : Nat → ClassId) (A : Nat → Prop) (u : Nat → Nat → Prop) (C : Nat → Nat → va_E) (ma : Nat → Nat → Nat) (t0 mi : Nat) (g : Nat → Nat → Int32) (n1 n2 nL n4 n5 : Nat) (th : Int32) (rep bro : Nat → Nat → Int32) (hR : mR ty t0 g n1 n2 nL n4 n5 th rep bro u C ma) (R i : Nat) (hr6 : R < 6) (hi : i < n1) (F ps fr to : Int32) (h2 : (bFds g i F || !inB ps (nI 1) (nI 15) || decide (fr < g 0 0) || decide (to < fr) || decide (nI 359 < to)) = false) (hn16 : n4 < 16) : Met l yX12_contract wsX12_contract ({ frames := 7, cells := 2, slots := 66, locals := 215 }) (va_Pc [.ref (ma 0 0), .int (nI R), .int (nI i), .int F, .int ps, .int fr, .int to] (mI D ty A u C ma t0 mi)) (va_Qi (fun (v9 : Int32) (S : mSt) => v9 = nI n4 ∧ S.2.2 0 0 = ma 0 0 ∧ mR ty t0 (conG g n4 (nI R) (nI i) F ps fr to) n1 n2 nL (n4 + 1) n5 (nI 0) rep bro S.1 S.2.1 S.2.2) (fun S t => mI D ty A S.1 S.2.1 S.2.2 t0 mi t) A) 2 66 A := by
  refine zMet (cc := cX12_contract) (maxL := 7) (ret := (some .int)) (by decide) rfl (Nat.le_of_ble_eq_true rfl) ?_
  intro p e s m below meth c hx hb hr hts hown hlocks hml hB ls hl
  obtain ⟨hM, hK, hMS⟩ := hB
  have hS : va_S A s.heap s.heap [] := va_S.rf
  have hbn := hR.I.b1
  have hbs := hR.I.b2
  have hbl := hR.I.bL
  have hbc := hR.I.b4
  have hbr := hR.I.b5
  have h1 : (bRd (nI R) || bNo n1 (nI i)) = false := by rw [bRd_ok hr6, bNo_ok hR.I.b1 hi]; rfl
  have hl : lv_has ls 7 [(0, .ref (ma 0 0)), (1, .int (nI R)), (2, .int (nI i)), (3, .int F), (4, .int ps), (5, .int fr), (6, .int to)] := hl
  have hinX12 : ∀ w ∈ wsX120, w ∈ wsX12_contract := by decide +kernel
  have hk1 := hts (.fieldLink RX12 193 "DatamarketDeskModel" "today" "I") (by decide +kernel)
  have hk2 := hts (.fieldLink RX12 19 "DatamarketDeskModel" "contracts" "Ljava/util/ArrayList;") (by decide +kernel)
  have hinX6 : ∀ w ∈ wsX60, w ∈ wsX12_contract := by decide +kernel
  refine lv_aload_n hx hb dX12_contract_0 rfl (lv_at hl 0 rfl) ?_
  refine lv_iload_n hx hb dX12_contract_1 rfl (lv_at hl 1 rfl) ?_
  refine zcSi (As := [.int (nI R)]) (rest := [.ref (ma 0 0)]) ⟨hx, hb, hml, hown, hts⟩ (c_X12_isNoReader l _ (nI R)) (cwS 1 hts gX12_contract_X12_isNoReader rfl rfl rfl (by decide +kernel) ⟨Nat.le_of_ble_eq_true rfl, Nat.le_of_ble_eq_true rfl⟩) (B := fun _ => True) (fun _ _ _ _ _ => trivial) (fun _ _ _ => trivial) rfl hl.1 rfl (Nat.le_of_ble_eq_true rfl) dX12_contract_2 ⟨Nat.le_of_ble_eq_true rfl, Nat.le_of_ble_eq_true rfl⟩ (fun r_1 hr_1 => ?_)
  subst hr_1
  refine lv_if_ne (tgt := 16) hx hb dX12_contract_5 (by decide) (fun c_2 => ?_) (fun c_2 => ?_)
  · have c_2 := bI_t c_2
    simp only [c_2, Bool.not_true, Bool.not_false, Bool.and_true, Bool.true_and, Bool.and_false, Bool.false_and, Bool.or_true, Bool.true_or, Bool.or_false, Bool.false_or, Bool.and_self, Bool.or_self, Bool.true_eq_false, Bool.false_eq_true] at h1
  · have c_2 := bI_f c_2
    refine lv_aload_n hx hb dX12_contract_8 rfl (lv_at hl 0 rfl) ?_
    refine lv_iload_n hx hb dX12_contract_9 rfl (lv_at hl 2 rfl) ?_
    refine zcVi (As := [.int (nI i)]) (rest := [.ref (ma 0 0)]) ⟨hx, hb, hml, hown, hts⟩ (c_X12_isNo l D ty A u C ma t0 mi g n1 n2 nL n4 n5 th rep bro hR (nI i)) (cwV 1 hts gX12_contract_X12_isNo rfl rfl rfl (by decide +kernel) ⟨Nat.le_of_ble_eq_true rfl, Nat.le_of_ble_eq_true rfl⟩) mI_blind (mI_pre hM hK hMS hS) (va_recv hK (hM.Pa hR.o.1 rfl hR.o.2) (ci := 13) (q0 := 0) rfl rfl) rfl hl.1 rfl (Nat.le_of_ble_eq_true rfl) dX12_contract_10 ⟨Nat.le_of_ble_eq_true rfl, Nat.le_of_ble_eq_true rfl⟩ (fun r_3 hr_3 => ?_)
    subst hr_3
    refine lv_if_eq (tgt := 20) hx hb dX12_contract_13 (by decide) (fun c_4 => ?_) (fun c_4 => ?_)
    · have c_4 := bI_f c_4
      refine lv_iconst (v := nI 0) hx hb dX12_contract_20 (by decide) ?_
      refine zeq (show nI 0 = bI false from rfl) ?_
      refine lv_iconst (v := nI 1) hx hb dX12_contract_21 (by decide) ?_
      refine va_calli (va_runV (As := [.int (bI false), .int (nI 1)]) (rest := []) ⟨hx, hb, hml, hown, hts⟩ (c_X12_start_f l D ty A u C ma t0 mi g n1 n2 nL n4 n5 th rep bro hR 1 (by omega) (by omega)) (cwV 2 hts gX12_contract_X12_start rfl rfl rfl (by decide +kernel) ⟨Nat.le_of_ble_eq_true rfl, Nat.le_of_ble_eq_true rfl⟩) ⟨zBl mI_blind, (va_recv hK (hM.Pa hR.o.1 rfl hR.o.2) (ci := 13) (q0 := 0) rfl rfl), fun U h1 h2 => ⟨rfl, mI_pre hM hK hMS hS U h1 h2⟩⟩ rfl rfl hl.1 rfl (lv_room (Nat.le_of_ble_eq_true rfl)) dX12_contract_22 ⟨Nat.le_of_ble_eq_true rfl, Nat.le_of_ble_eq_true rfl⟩) hS (fun _ _ h => h) (fun _ h => h) (fun r_6 C_5 t H1 locs ht hvm hw hB9 hz1 hk1 hS => ?_)
      obtain ⟨hr_6, hR_7⟩ := hw
      obtain ⟨hM, -, -⟩ := hB9
      rw [ht] at hM
      clear hk1 hz1 hvm ht
      clear t
      generalize H1 = H at hM hS ⊢
      subst hr_6
      refine lv_if_ne (tgt := 110) hx hb dX12_contract_25 (by decide) (fun c_8 => ?_) (fun c_8 => ?_)
      · have c_8 := bI_t c_8
        cases c_8
      · have c_8 := bI_f c_8
        refine lv_aload_n hx hb dX12_contract_28 rfl (lv_at hl 0 rfl) ?_
        refine lv_aload_n hx hb dX12_contract_29 rfl (lv_at hl 0 rfl) ?_
        refine lv_iload_n hx hb dX12_contract_30 rfl (lv_at hl 2 rfl) ?_
        refine lv_iload_n hx hb dX12_contract_31 rfl (lv_at hl 3 rfl) ?_
        refine zcVi (As := [.int (nI i), .int F]) (rest := [.ref (ma 0 0)]) ⟨hx, hb, hml, hown, hts⟩ (c_X12_isNoFields l D ty A u C_5 ma t0 mi g n1 n2 nL n4 n5 (nI 0) rep bro hR_7 i (by omega) F) (cwV 2 hts gX12_contract_X12_isNoFields rfl rfl rfl (by decide +kernel) ⟨Nat.le_of_ble_eq_true rfl, Nat.le_of_ble_eq_true rfl⟩) mI_blind (mI_pre hM hK hMS hS) (va_recv hK (hM.Pa hR_7.o.1 rfl hR_7.o.2) (ci := 13) (q0 := 0) rfl rfl) rfl hl.1 rfl (Nat.le_of_ble_eq_true rfl) dX12_contract_32 ⟨Nat.le_of_ble_eq_true rfl, Nat.le_of_ble_eq_true rfl⟩ (fun r_9 hr_9 => ?_)
        subst hr_9
        refine lv_if_ne (tgt := 73) hx hb dX12_contract_35 (by decide) (fun c_10 => ?_) (fun c_10 => ?_)
        · have c_10 := bI_t c_10
          simp only [c_2, c_4, c_8, c_10, Bool.not_true, Bool.not_false, Bool.and_true, Bool.true_and, Bool.and_false, Bool.false_and, Bool.or_true, Bool.true_or, Bool.or_false, Bool.false_or, Bool.and_self, Bool.or_self, Bool.true_eq_false, Bool.false_eq_true] at h2
        · have c_10 := bI_f c_10
          refine lv_iload hx hb dX12_contract_38 (lv_at hl 4 rfl) ?_
          refine lv_iconst (v := nI 1) hx hb dX12_contract_40 (by decide) ?_
          refine lv_bipush (v := nI 15) hx hb dX12_contract_41 (by decide) ?_
          refine zcSi (As := [.int ps, .int (nI 1), .int (nI 15)]) (rest := [.ref (ma 0 0)]) ⟨hx, hb, hml, hown, hts⟩ (c_X12_isIn l _ ps (nI 1) (nI 15)) (cwS 3 hts gX12_contract_X12_isIn rfl rfl rfl (by decide +kernel) ⟨Nat.le_of_ble_eq_true rfl, Nat.le_of_ble_eq_true rfl⟩) (B := fun _ => True) (fun _ _ _ _ _ => trivial) (fun _ _ _ => trivial) rfl hl.1 rfl (Nat.le_of_ble_eq_true rfl) dX12_contract_43 ⟨Nat.le_of_ble_eq_true rfl, Nat.le_of_ble_eq_true rfl⟩ (fun r_11 hr_11 => ?_)
          subst hr_11
          refine lv_if_eq (tgt := 73) hx hb dX12_contract_46 (by decide) (fun c_12 => ?_) (fun c_12 => ?_)
          · have c_12 := bI_f c_12
            simp only [c_2, c_4, c_8, c_10, c_12, Bool.not_true, Bool.not_false, Bool.and_true, Bool.true_and, Bool.and_false, Bool.false_and, Bool.or_true, Bool.true_or, Bool.or_false, Bool.false_or, Bool.and_self, Bool.or_self, Bool.true_eq_false, Bool.false_eq_true] at h2
          · have c_12 := bI_t c_12
            refine lv_iload hx hb dX12_contract_49 (lv_at hl 5 rfl) ?_
            refine lv_aload_n hx hb dX12_contract_51 rfl (lv_at hl 0 rfl) ?_
            refine va_get hx hb hts hinX12 hown hK (hM.Pa hR_7.o.1 rfl hR_7.o.2) 0 rfl rfl 5 (by decide) (hk1) (fun _ h9 => h9) rfl dX12_contract_52 ?_
            refine lv_icmp_lt (tgt := 73) hx hb dX12_contract_55 (by decide) (fun c_13 => ?_) (fun c_13 => ?_)
            · simp only [c_2, c_4, c_8, c_10, c_12, decide_eq_true c_13, Bool.not_true, Bool.not_false, Bool.and_true, Bool.true_and, Bool.and_false, Bool.false_and, Bool.or_true, Bool.true_or, Bool.or_false, Bool.false_or, Bool.and_self, Bool.or_self, Bool.true_eq_false, Bool.false_eq_true] at h2
            · refine lv_iload hx hb dX12_contract_58 (lv_at hl 6 rfl) ?_
              refine lv_iload hx hb dX12_contract_60 (lv_at hl 5 rfl) ?_
              refine lv_icmp_lt (tgt := 73) hx hb dX12_contract_62 (by decide) (fun c_14 => ?_) (fun c_14 => ?_)
              · simp only [c_2, c_4, c_8, c_10, c_12, decide_eq_false c_13, decide_eq_true c_14, Bool.not_true, Bool.not_false, Bool.and_true, Bool.true_and, Bool.and_false, Bool.false_and, Bool.or_true, Bool.true_or, Bool.or_false, Bool.false_or, Bool.and_self, Bool.or_self, Bool.true_eq_false, Bool.false_eq_true] at h2
              · refine lv_iload hx hb dX12_contract_65 (lv_at hl 6 rfl) ?_
                refine lv_sipush (v := nI 359) hx hb dX12_contract_67 (by decide) ?_
                refine lv_icmp_le (tgt := 77) hx hb dX12_contract_70 (by decide) (fun c_15 => ?_) (fun c_15 => ?_)
                · have c_15 : ¬ nI 359 < to := Int32.not_lt.mpr c_15
                  refine lv_iconst (v := nI 0) hx hb dX12_contract_77 (by decide) ?_
                  refine zeq (show nI 0 = bI false from rfl) ?_
                  refine lv_iconst (v := nI 2) hx hb dX12_contract_78 (by decide) ?_
                  refine zcVi (As := [.int (bI false), .int (nI 2)]) (rest := []) ⟨hx, hb, hml, hown, hts⟩ (c_X12_refuse_f l D ty A u C_5 ma t0 mi g n1 n2 nL n4 n5 (nI 0) rep bro hR_7 rfl (nI 2)) (cwV 2 hts gX12_contract_X12_refuse rfl rfl rfl (by decide +kernel) ⟨Nat.le_of_ble_eq_true rfl, Nat.le_of_ble_eq_true rfl⟩) mI_blind (mI_pre hM hK hMS hS) (va_recv hK (hM.Pa hR_7.o.1 rfl hR_7.o.2) (ci := 13) (q0 := 0) rfl rfl) rfl hl.1 rfl (Nat.le_of_ble_eq_true rfl) dX12_contract_79 ⟨Nat.le_of_ble_eq_true rfl, Nat.le_of_ble_eq_true rfl⟩ (fun r_16 hr_16 => ?_)
                  subst hr_16
                  refine lv_if_ne (tgt := 110) hx hb dX12_contract_82 (by decide) (fun c_17 => ?_) (fun c_17 => ?_)
                  · have c_17 := bI_t c_17
                    cases c_17
                  · have c_17 := bI_f c_17
                    refine lv_aload_n hx hb dX12_contract_85 rfl (lv_at hl 0 rfl) ?_
                    refine lv_aload_n hx hb dX12_contract_86 rfl (lv_at hl 0 rfl) ?_
                    refine va_get hx hb hts hinX12 hown hK (hM.Pa hR_7.o.1 rfl hR_7.o.2) 0 rfl rfl 3 (by decide) (hk2) (fun _ h9 => h9) rfl dX12_contract_87 ?_
                    obtain ⟨huz_18, hnz_18, mz_18, bz_18, hCz_18⟩ := isL.hd hR_7.l5
                    refine zcVi (As := []) (rest := [.ref (ma 0 0)]) ⟨hx, hb, hml, hown, hts⟩ (c_size l D ty A u C_5 ma t0 mi 5 0 n4 (ma 25) hR_7.l5) (cwV 0 hts gX12_contract_Jx4a65c_size_8abf5 rfl rfl rfl (by decide +kernel) ⟨Nat.le_of_ble_eq_true rfl, Nat.le_of_ble_eq_true rfl⟩) mI_blind (mI_pre hM hK hMS hS) (va_recv hK (hM.Pa huz_18 rfl hCz_18) (ci := 0) (q0 := 0) rfl rfl) rfl hl.1 rfl (Nat.le_of_ble_eq_true rfl) dX12_contract_90 ⟨Nat.le_of_ble_eq_true rfl, Nat.le_of_ble_eq_true rfl⟩ (fun r_19 hr_19 => ?_)
                    subst hr_19
                    refine lv_bipush (v := nI 16) hx hb dX12_contract_93 (by decide) ?_
                    refine lv_icmp_ne (tgt := 102) hx hb dX12_contract_95 (by decide) (fun c_20 => ?_) (fun c_20 => ?_)
                    · have c_20 := zn_neT (a := n4) (b := 16) (by omega) (by omega) c_20
                      refine lv_iconst (v := nI 0) hx hb dX12_contract_102 (by decide) ?_
                      refine zeq (show nI 0 = bI false from rfl) ?_
                      refine lv_iconst (v := nI 3) hx hb dX12_contract_103 (by decide) ?_
                      refine zcVi (As := [.int (bI false), .int (nI 3)]) (rest := []) ⟨hx, hb, hml, hown, hts⟩ (c_X12_refuse_f l D ty A u C_5 ma t0 mi g n1 n2 nL n4 n5 (nI 0) rep bro hR_7 rfl (nI 3)) (cwV 2 hts gX12_contract_X12_refuse rfl rfl rfl (by decide +kernel) ⟨Nat.le_of_ble_eq_true rfl, Nat.le_of_ble_eq_true rfl⟩) mI_blind (mI_pre hM hK hMS hS) (va_recv hK (hM.Pa hR_7.o.1 rfl hR_7.o.2) (ci := 13) (q0 := 0) rfl rfl) rfl hl.1 rfl (Nat.le_of_ble_eq_true rfl) dX12_contract_104 ⟨Nat.le_of_ble_eq_true rfl, Nat.le_of_ble_eq_true rfl⟩ (fun r_21 hr_21 => ?_)
                      subst hr_21
                      refine lv_if_eq (tgt := 112) hx hb dX12_contract_107 (by decide) (fun c_22 => ?_) (fun c_22 => ?_)
                      · have c_22 := bI_f c_22
                        refine lv_aload_n hx hb dX12_contract_112 rfl (lv_at hl 0 rfl) ?_
                        refine va_get hx hb hts hinX12 hown hK (hM.Pa hR_7.o.1 rfl hR_7.o.2) 0 rfl rfl 3 (by decide) (hk2) (fun _ h9 => h9) rfl dX12_contract_113 ?_
                        refine mnew (Cn := RX6) (T := TX6) (N := 6) (ci := 7) (fs := [.int 0, .int 0, .int 0, .int 0, .int 0, .int 0]) hx hb hts hinX6 tyX6 tyX6_ok hown (hts (.classLink RX12 196 RX6) (by decide +kernel)) (hts (.instantiable RX6 6) (by decide +kernel)) (hts (.initialized RX6) (by decide +kernel)) hK hM hS 25 n4 rfl (fun j hj => by rcases (show j = 0 ∨ j = 1 ∨ j = 2 ∨ j = 3 ∨ j = 4 ∨ j = 5 by omega) with rfl | rfl | rfl | rfl | rfl | rfl <;> rfl) (Nat.le_of_ble_eq_true rfl) (Nat.le_of_ble_eq_true rfl) dX12_contract_116 (fun H1 hM hS _ _ => ?_)
                        generalize hq9 : Array.size H = q_23 at hM ⊢
                        clear hq9
                        generalize H1 = H at hM hS ⊢
                        obtain ⟨u_24, eu_24⟩ : ∃ z, z = upU u 25 n4 := ⟨_, rfl⟩
                        obtain ⟨C_25, eC_25⟩ : ∃ z, z = up2 C_5 25 n4 (eO 7 [.int 0, .int 0, .int 0, .int 0, .int 0, .int 0]) := ⟨_, rfl⟩
                        obtain ⟨ma_26, ema_26⟩ : ∃ z, z = up2 ma 25 n4 q_23 := ⟨_, rfl⟩
                        have hM : mW D A u_24 C_25 ma_26 H := by rw [eu_24, eC_25, ema_26]; exact hM
                        have hu_27 : u_24 25 n4 := by rw [eu_24]; exact upU_s
                        have hC_28 : C_25 25 n4 = eO 7 [.int 0, .int 0, .int 0, .int 0, .int 0, .int 0] := by rw [eC_25]; exact up2_s _ _ _ _
                        have ha_29 : ma_26 25 n4 = q_23 := by rw [ema_26]; exact up2_s _ _ _ _
                        have hR_30 : mR ty t0 g n1 n2 nL n4 n5 (nI 0) rep bro u_24 C_25 ma_26 := hR_7.ext (fun k9 x9 hm hu => ⟨by rw [eu_24]; exact upU_o hu, by rw [eC_25]; exact up2_n _ _ (fun z => by unfold mU at hm; omega), by rw [ema_26]; exact up2_n _ _ (fun z => by unfold mU at hm; omega)⟩)
                        have hg_32 : ∀ k9 x9, mU g n1 n2 nL n4 n5 k9 x9 → (k9 ≠ 2 ∧ k9 ≠ 4 ∧ k9 ≠ 6 ∧ k9 ≠ 8) → ma_26 k9 x9 = ma k9 x9 := fun k9 x9 hm hn => by rw [ema_26, up2_n _ _ (fun z => by unfold mU at hm; omega)]
                        refine lv_dup hx hb dX12_contract_119 rfl ?_
                        refine lv_iload_n hx hb dX12_contract_120 rfl (lv_at hl 1 rfl) ?_
                        refine lv_iload_n hx hb dX12_contract_121 rfl (lv_at hl 2 rfl) ?_
                        refine lv_iload_n hx hb dX12_contract_122 rfl (lv_at hl 3 rfl) ?_
                        refine lv_iload hx hb dX12_contract_123 (lv_at hl 4 rfl) ?_
                        refine lv_iload hx hb dX12_contract_125 (lv_at hl 5 rfl) ?_
                        refine lv_iload hx hb dX12_contract_127 (lv_at hl 6 rfl) ?_
                        have h_34 := c_X6_init l D ty A u_24 C_25 ma_26 t0 mi 25 n4 hu_27 hC_28 (nI R) (nI i) F ps fr to
                        first | dsimp only at h_34 | skip
                        rw [(show ma_26 25 n4 = q_23 from ha_29)] at h_34
                        refine va_callv (va_runI (As := [.int (nI R), .int (nI i), .int F, .int ps, .int fr, .int to]) (rest := [.ref q_23, .ref (ma 5 0)]) ⟨hx, hb, hml, hown, hts⟩ (h_34) (cwI 6 hts gX12_contract_X6_init rfl rfl rfl (hts (.initialized RX6) (by decide +kernel)) (hts (.methodLink RX12 198 yX6_init) (by decide +kernel)) (hts (.instanceMethod yX6_init) (by decide +kernel)) rfl (by decide +kernel) ⟨Nat.le_of_ble_eq_true rfl, Nat.le_of_ble_eq_true rfl⟩) ⟨zBl mI_blind, fun U h1 h2 => ⟨rfl, mI_pre hM hK hMS hS U h1 h2⟩⟩ rfl rfl hl.1 rfl (lv_room (Nat.le_of_ble_eq_true rfl)) dX12_contract_129 ⟨Nat.le_of_ble_eq_true rfl, Nat.le_of_ble_eq_true rfl⟩) hS (fun _ _ h => h) (fun _ h => h) (fun Z_33 t H1 locs ht hvm hw hB9 hz1 hk1 hS => ?_)
                        obtain ⟨hM, -, -⟩ := hB9
                        rw [ht] at hM
                        clear hk1 hz1 hvm ht
                        clear t
                        generalize H1 = H at hM hS ⊢
                        rw [hw] at hM
                        clear hw
                        obtain ⟨C_35, eC_35⟩ : ∃ z, z = up2 C_25 25 n4 (eO 7 [.int (nI R), .int (nI i), .int F, .int ps, .int fr, .int to]) := ⟨_, rfl⟩
                        have hM : mW D A u_24 C_35 ma_26 H := by rw [eC_35]; exact hM
                        have hC_36 : C_35 25 n4 = eO 7 [.int (nI R), .int (nI i), .int F, .int ps, .int fr, .int to] := by rw [eC_35]; exact up2_s _ _ _ _
                        have hR_37 : mR ty t0 g n1 n2 nL n4 n5 (nI 0) rep bro u_24 C_35 ma_26 := hR_30.ext (fun k9 x9 hm hu => ⟨hu, by rw [eC_35]; exact up2_n _ _ (fun z => by unfold mU at hm; omega), rfl⟩)
                        obtain ⟨huz_41, hnz_41, mz_41, bz_41, hCz_41⟩ := isL.hd hR_37.l5
                        have h_42 := c_add l D ty A u_24 C_35 ma_26 t0 mi 5 0 n4 (ma_26 25) hR_37.l5 25 n4 7 _ _ hu_27 hC_36 rfl (by decide +kernel) (by omega) (by omega) (fun j hj => hR_37.e5 hj) (by omega)
                        first | dsimp only at h_42 | skip
                        rw [(show ma_26 5 0 = ma 5 0 from (hg_32 5 0 (by unfold mU; omega) (by decide))), (show ma_26 25 n4 = q_23 from ha_29)] at h_42
                        refine va_calli (va_runV (As := [.ref q_23]) (rest := []) ⟨hx, hb, hml, hown, hts⟩ (h_42) (cwV 1 hts gX12_contract_Jx4a65c_add_9ea2d rfl rfl rfl (by decide +kernel) ⟨Nat.le_of_ble_eq_true rfl, Nat.le_of_ble_eq_true rfl⟩) ⟨zBl mI_blind, (va_recv hK (hM.Pa huz_41 (hg_32 5 0 (by unfold mU; omega) (by decide)) hCz_41) (ci := 0) (q0 := 0) rfl rfl), fun U h1 h2 => ⟨rfl, mI_pre hM hK hMS hS U h1 h2⟩⟩ rfl rfl hl.1 rfl (lv_room (Nat.le_of_ble_eq_true rfl)) dX12_contract_132 ⟨Nat.le_of_ble_eq_true rfl, Nat.le_of_ble_eq_true rfl⟩) hS (fun _ _ h => h) (fun _ h => h) (fun r_40 S_39 t H1 locs ht hvm hw hB9 hz1 hk1 hS => ?_)
                        obtain ⟨hr_40, hchg, hL9⟩ := hw
                        subst hr_40
                        obtain ⟨hM, -, -⟩ := hB9
                        rw [ht] at hM
                        clear hk1 hz1 hvm ht
                        clear t
                        generalize H1 = H at hM hS ⊢
                        have hR_46 := mR_con hR_37 hn16 hchg (by rw [ha_29]; exact hL9) hu_27 hC_36
                        have hg_47 : ∀ k9 x9, mU g n1 n2 nL n4 n5 k9 x9 → (k9 ≠ 2 ∧ k9 ≠ 4 ∧ k9 ≠ 6 ∧ k9 ≠ 8) → S_39.2.2 k9 x9 = ma k9 x9 := fun k9 x9 hm hn => (hchg.2.2 k9 x9 (fun z => by omega)).trans (hg_32 k9 x9 hm hn)
                        have he_48 : S_39.2.2 25 n4 = q_23 := (hchg.2.2 25 n4 (by omega)).trans ha_29
                        clear hchg hL9
                        obtain ⟨u_43, C_44, ma_45⟩ := S_39
                        have hM : mW D A u_43 C_44 ma_45 H := hM
                        have hR_46 : mR ty t0 (conG g n4 (nI R) (nI i) F ps fr to) n1 n2 nL (n4 + 1) n5 (nI 0) rep bro u_43 C_44 ma_45 := hR_46
                        have hg_47 : ∀ k9 x9, mU g n1 n2 nL n4 n5 k9 x9 → (k9 ≠ 2 ∧ k9 ≠ 4 ∧ k9 ≠ 6 ∧ k9 ≠ 8) → ma_45 k9 x9 = ma k9 x9 := fun k9 x9 hm hn => by
                          exact hg_47 k9 x9 hm hn
                        refine lv_pop hx hb dX12_contract_135 rfl ?_
                        refine lv_aload_n hx hb dX12_contract_136 rfl (lv_at hl 0 rfl) ?_
                        refine va_get hx hb hts hinX12 hown hK (hM.Pa hR_46.o.1 (hg_47 0 0 (by unfold mU; omega) (by decide)) hR_46.o.2) 0 rfl rfl 3 (by decide) (hk2) (fun _ h9 => h9) rfl dX12_contract_137 ?_
                        refine zeqv (y := .ref (ma 5 0)) (congrArg Value.ref (hg_47 5 0 (by unfold mU; omega) (by decide))) ?_
                        have h_49 := c_size l D ty A u_43 C_44 ma_45 t0 mi 5 0 (n4 + 1) (ma_45 25) hR_46.l5
                        first | dsimp only at h_49 | skip
                        rw [(show ma_45 5 0 = ma 5 0 from (hg_47 5 0 (by unfold mU; omega) (by decide)))] at h_49
                        obtain ⟨huz_50, hnz_50, mz_50, bz_50, hCz_50⟩ := isL.hd hR_46.l5
                        refine zcVi (As := []) (rest := []) ⟨hx, hb, hml, hown, hts⟩ (h_49) (cwV 0 hts gX12_contract_Jx4a65c_size_8abf5 rfl rfl rfl (by decide +kernel) ⟨Nat.le_of_ble_eq_true rfl, Nat.le_of_ble_eq_true rfl⟩) mI_blind (mI_pre hM hK hMS hS) (va_recv hK (hM.Pa huz_50 (hg_47 5 0 (by unfold mU; omega) (by decide)) hCz_50) (ci := 0) (q0 := 0) rfl rfl) rfl hl.1 rfl (Nat.le_of_ble_eq_true rfl) dX12_contract_140 ⟨Nat.le_of_ble_eq_true rfl, Nat.le_of_ble_eq_true rfl⟩ (fun r_51 hr_51 => ?_)
                        subst hr_51
                        refine lv_iconst (v := nI 1) hx hb dX12_contract_143 (by decide) ?_
                        refine lv_isub hx hb dX12_contract_144 ?_
                        refine zeq (pk_sub (a := (n4 + 1)) (b := 1) (by omega)) ?_
                        refine W.widen (k := 2) (n := 66) (by omega) (by omega) ?_
                        exact W.iret (v := nI ((n4 + 1) - 1)) hx hb hr (fun t ht hW => ⟨⟨_, (u_43, C_44, ma_45), rfl, ⟨(congrArg nI (by omega)), (hg_47 0 0 (by unfold mU; omega) (by decide)), hR_46⟩, mI_pre hM hK hMS hS t ht hW⟩, hS.F ht⟩) hS.2.2 dX12_contract_145
                      · have c_22 := bI_t c_22
                        cases c_22
                    · have c_20 := zn_neF (a := n4) (b := 16) (by omega) (by omega) c_20
                      omega
                · have c_15 : nI 359 < to := Int32.not_le.mp c_15
                  simp only [c_2, c_4, c_8, c_10, c_12, decide_eq_false c_13, decide_eq_false c_14, decide_eq_true c_15, Bool.not_true, Bool.not_false, Bool.and_true, Bool.true_and, Bool.and_false, Bool.false_and, Bool.or_true, Bool.true_or, Bool.or_false, Bool.false_or, Bool.and_self, Bool.or_self, Bool.true_eq_false, Bool.false_eq_true] at h2
    · have c_4 := bI_t c_4
      simp only [c_2, c_4, Bool.not_true, Bool.not_false, Bool.and_true, Bool.true_and, Bool.and_false, Bool.false_and, Bool.or_true, Bool.true_or, Bool.or_false, Bool.false_or, Bool.and_self, Bool.or_self, Bool.true_eq_false, Bool.false_eq_true] at h1
