set_option maxHeartbeats 600000 in
set_option maxRecDepth 100000 in
theorem m_source_x1 (l : Launch) (D : va_G) (ty : Nat → ClassId) (A : Nat → Prop) (u : Nat → Nat → Prop) (C : Nat → Nat → va_E) (ma : Nat → Nat → Nat) (t0 mi : Nat) (g : Nat → Nat → Int32) (n1 n2 nL n4 n5 : Nat) (th : Int32) (rep bro : Nat → Nat → Int32) (hR : mR ty t0 g n1 n2 nL n4 n5 th rep bro u C ma) (x f x2 f2 sh : Int32) (h1 : (bFld g n1 x f || bFld g n1 x2 f2) = true) : Met l yX12_source wsX12_source ({ frames := 7, cells := 0, slots := 0, locals := 192 }) (va_Pc [.ref (ma 0 0), .int x, .int f, .int x2, .int f2, .int sh] (mI D ty A u C ma t0 mi)) (va_Qi (fun (v9 : Int32) (C2 : Nat → Nat → va_E) => v9 = nI 0 ∧ mR ty t0 g n1 n2 nL n4 n5 (nI 1) rep bro u C2 ma) (fun C2 t => mI D ty A u C2 ma t0 mi t) A) 0 0 A := by
  refine zMet (cc := cX12_source) (maxL := 9) (ret := (some .int)) (by decide) rfl (Nat.le_of_ble_eq_true rfl) ?_
  intro p e s m below meth c hx hb hr hts hown hlocks hml hB ls hl
  obtain ⟨hM, hK, hMS⟩ := hB
  have hS : va_S A s.heap s.heap [] := va_S.rf
  have hbn := hR.I.b1
  have hbs := hR.I.b2
  have hbl := hR.I.bL
  have hbc := hR.I.b4
  have hbr := hR.I.b5
  have hl : lv_has ls 9 [(0, .ref (ma 0 0)), (1, .int x), (2, .int f), (3, .int x2), (4, .int f2), (5, .int sh)] := hl
  refine lv_aload_n hx hb dX12_source_0 rfl (lv_at hl 0 rfl) ?_
  refine lv_aload_n hx hb dX12_source_1 rfl (lv_at hl 0 rfl) ?_
  refine lv_iload_n hx hb dX12_source_2 rfl (lv_at hl 1 rfl) ?_
  refine lv_iload_n hx hb dX12_source_3 rfl (lv_at hl 2 rfl) ?_
  refine zcVi (As := [.int x, .int f]) (rest := [.ref (ma 0 0)]) ⟨hx, hb, hml, hown, hts⟩ (c_X12_isNoField l D ty A u C ma t0 mi g n1 n2 nL n4 n5 th rep bro hR x f) (cwV 2 hts gX12_source_X12_isNoField rfl rfl rfl (by decide +kernel) ⟨Nat.le_of_ble_eq_true rfl, Nat.le_of_ble_eq_true rfl⟩) mI_blind (mI_pre hM hK hMS hS) (va_recv hK (hM.Pa hR.o.1 rfl hR.o.2) (ci := 13) (q0 := 0) rfl rfl) rfl hl.1 rfl (Nat.le_of_ble_eq_true rfl) dX12_source_4 ⟨Nat.le_of_ble_eq_true rfl, Nat.le_of_ble_eq_true rfl⟩ (fun r_1 hr_1 => ?_)
  subst hr_1
  refine lv_if_ne (tgt := 20) hx hb dX12_source_7 (by decide) (fun c_2 => ?_) (fun c_2 => ?_)
  · have c_2 := bI_t c_2
    refine lv_iconst (v := nI 1) hx hb dX12_source_20 (by decide) ?_
    refine zeq (show nI 1 = bI true from rfl) ?_
    refine lv_goto (tgt := 25) hx hb dX12_source_21 (by decide) ?_
    refine lv_iconst (v := nI 1) hx hb dX12_source_25 (by decide) ?_
    refine va_calli (va_runV (As := [.int (bI true), .int (nI 1)]) (rest := []) ⟨hx, hb, hml, hown, hts⟩ (c_X12_start_t l D ty A u C ma t0 mi g n1 n2 nL n4 n5 th rep bro hR 1 (by omega) (by omega)) (cwV 2 hts gX12_source_X12_start rfl rfl rfl (by decide +kernel) ⟨Nat.le_of_ble_eq_true rfl, Nat.le_of_ble_eq_true rfl⟩) ⟨zBl mI_blind, (va_recv hK (hM.Pa hR.o.1 rfl hR.o.2) (ci := 13) (q0 := 0) rfl rfl), fun U h1 h2 => ⟨rfl, mI_pre hM hK hMS hS U h1 h2⟩⟩ rfl rfl hl.1 rfl (lv_room (Nat.le_of_ble_eq_true rfl)) dX12_source_26 ⟨Nat.le_of_ble_eq_true rfl, Nat.le_of_ble_eq_true rfl⟩) hS (fun _ _ h => h) (fun _ h => h) (fun r_4 C_3 t H1 locs ht hvm hw hB9 hz1 hk1 hS => ?_)
    obtain ⟨hr_4, hR_5⟩ := hw
    obtain ⟨hM, -, -⟩ := hB9
    rw [ht] at hM
    clear hk1 hz1 hvm ht
    clear t
    generalize H1 = H at hM hS ⊢
    subst hr_4
    refine lv_if_ne (tgt := 61) hx hb dX12_source_29 (by decide) (fun c_6 => ?_) (fun c_6 => ?_)
    · have c_6 := bI_t c_6
      refine lv_iconst (v := nI 0) hx hb dX12_source_61 (by decide) ?_
      exact W.iret (v := nI 0) hx hb hr (fun t ht hW => ⟨⟨_, C_3, rfl, ⟨rfl, hR_5⟩, mI_pre hM hK hMS hS t ht hW⟩, hS.F ht⟩) hS.2.2 dX12_source_62
    · have c_6 := bI_f c_6
      cases c_6
  · have c_2 := bI_f c_2
    refine lv_aload_n hx hb dX12_source_10 rfl (lv_at hl 0 rfl) ?_
    refine lv_iload_n hx hb dX12_source_11 rfl (lv_at hl 3 rfl) ?_
    refine lv_iload hx hb dX12_source_12 (lv_at hl 4 rfl) ?_
    refine zcVi (As := [.int x2, .int f2]) (rest := [.ref (ma 0 0)]) ⟨hx, hb, hml, hown, hts⟩ (c_X12_isNoField l D ty A u C ma t0 mi g n1 n2 nL n4 n5 th rep bro hR x2 f2) (cwV 2 hts gX12_source_X12_isNoField rfl rfl rfl (by decide +kernel) ⟨Nat.le_of_ble_eq_true rfl, Nat.le_of_ble_eq_true rfl⟩) mI_blind (mI_pre hM hK hMS hS) (va_recv hK (hM.Pa hR.o.1 rfl hR.o.2) (ci := 13) (q0 := 0) rfl rfl) rfl hl.1 rfl (Nat.le_of_ble_eq_true rfl) dX12_source_14 ⟨Nat.le_of_ble_eq_true rfl, Nat.le_of_ble_eq_true rfl⟩ (fun r_7 hr_7 => ?_)
    subst hr_7
    refine lv_if_eq (tgt := 24) hx hb dX12_source_17 (by decide) (fun c_8 => ?_) (fun c_8 => ?_)
    · have c_8 := bI_f c_8
      simp only [c_2, c_8, Bool.not_true, Bool.not_false, Bool.and_true, Bool.true_and, Bool.and_false, Bool.false_and, Bool.or_true, Bool.true_or, Bool.or_false, Bool.false_or, Bool.and_self, Bool.or_self, Bool.true_eq_false, Bool.false_eq_true] at h1
    · have c_8 := bI_t c_8
      refine lv_iconst (v := nI 1) hx hb dX12_source_20 (by decide) ?_
      refine zeq (show nI 1 = bI true from rfl) ?_
      refine lv_goto (tgt := 25) hx hb dX12_source_21 (by decide) ?_
      refine lv_iconst (v := nI 1) hx hb dX12_source_25 (by decide) ?_
      refine va_calli (va_runV (As := [.int (bI true), .int (nI 1)]) (rest := []) ⟨hx, hb, hml, hown, hts⟩ (c_X12_start_t l D ty A u C ma t0 mi g n1 n2 nL n4 n5 th rep bro hR 1 (by omega) (by omega)) (cwV 2 hts gX12_source_X12_start rfl rfl rfl (by decide +kernel) ⟨Nat.le_of_ble_eq_true rfl, Nat.le_of_ble_eq_true rfl⟩) ⟨zBl mI_blind, (va_recv hK (hM.Pa hR.o.1 rfl hR.o.2) (ci := 13) (q0 := 0) rfl rfl), fun U h1 h2 => ⟨rfl, mI_pre hM hK hMS hS U h1 h2⟩⟩ rfl rfl hl.1 rfl (lv_room (Nat.le_of_ble_eq_true rfl)) dX12_source_26 ⟨Nat.le_of_ble_eq_true rfl, Nat.le_of_ble_eq_true rfl⟩) hS (fun _ _ h => h) (fun _ h => h) (fun r_10 C_9 t H1 locs ht hvm hw hB9 hz1 hk1 hS => ?_)
      obtain ⟨hr_10, hR_11⟩ := hw
      obtain ⟨hM, -, -⟩ := hB9
      rw [ht] at hM
      clear hk1 hz1 hvm ht
      clear t
      generalize H1 = H at hM hS ⊢
      subst hr_10
      refine lv_if_ne (tgt := 61) hx hb dX12_source_29 (by decide) (fun c_12 => ?_) (fun c_12 => ?_)
      · have c_12 := bI_t c_12
        refine lv_iconst (v := nI 0) hx hb dX12_source_61 (by decide) ?_
        exact W.iret (v := nI 0) hx hb hr (fun t ht hW => ⟨⟨_, C_9, rfl, ⟨rfl, hR_11⟩, mI_pre hM hK hMS hS t ht hW⟩, hS.F ht⟩) hS.2.2 dX12_source_62
      · have c_12 := bI_f c_12
        cases c_12
set_option maxHeartbeats 600000 in
set_option maxRecDepth 100000 in
theorem m_source_x2 (l : Launch) (D : va_G) (ty : Nat → ClassId) (A : Nat → Prop) (u : Nat → Nat → Prop) (C : Nat → Nat → va_E) (ma : Nat → Nat → Nat) (t0 mi : Nat) (g : Nat → Nat → Int32) (n1 n2 nL n4 n5 : Nat) (th : Int32) (rep bro : Nat → Nat → Int32) (hR : mR ty t0 g n1 n2 nL n4 n5 th rep bro u C ma) (x f x2 f2 sh : Int32) (h1 : (bFld g n1 x f || bFld g n1 x2 f2) = false) (h2 : (!decide (x2 < x) || !inB sh (nI 1) (nI 100)) = true) : Met l yX12_source wsX12_source ({ frames := 7, cells := 0, slots := 0, locals := 192 }) (va_Pc [.ref (ma 0 0), .int x, .int f, .int x2, .int f2, .int sh] (mI D ty A u C ma t0 mi)) (va_Qi (fun (v9 : Int32) (C2 : Nat → Nat → va_E) => v9 = nI 0 ∧ mR ty t0 g n1 n2 nL n4 n5 (nI 2) rep bro u C2 ma) (fun C2 t => mI D ty A u C2 ma t0 mi t) A) 0 0 A := by
  refine zMet (cc := cX12_source) (maxL := 9) (ret := (some .int)) (by decide) rfl (Nat.le_of_ble_eq_true rfl) ?_
  intro p e s m below meth c hx hb hr hts hown hlocks hml hB ls hl
  obtain ⟨hM, hK, hMS⟩ := hB
  have hS : va_S A s.heap s.heap [] := va_S.rf
  have hbn := hR.I.b1
  have hbs := hR.I.b2
  have hbl := hR.I.bL
  have hbc := hR.I.b4
  have hbr := hR.I.b5
  have hl : lv_has ls 9 [(0, .ref (ma 0 0)), (1, .int x), (2, .int f), (3, .int x2), (4, .int f2), (5, .int sh)] := hl
  refine lv_aload_n hx hb dX12_source_0 rfl (lv_at hl 0 rfl) ?_
  refine lv_aload_n hx hb dX12_source_1 rfl (lv_at hl 0 rfl) ?_
  refine lv_iload_n hx hb dX12_source_2 rfl (lv_at hl 1 rfl) ?_
  refine lv_iload_n hx hb dX12_source_3 rfl (lv_at hl 2 rfl) ?_
  refine zcVi (As := [.int x, .int f]) (rest := [.ref (ma 0 0)]) ⟨hx, hb, hml, hown, hts⟩ (c_X12_isNoField l D ty A u C ma t0 mi g n1 n2 nL n4 n5 th rep bro hR x f) (cwV 2 hts gX12_source_X12_isNoField rfl rfl rfl (by decide +kernel) ⟨Nat.le_of_ble_eq_true rfl, Nat.le_of_ble_eq_true rfl⟩) mI_blind (mI_pre hM hK hMS hS) (va_recv hK (hM.Pa hR.o.1 rfl hR.o.2) (ci := 13) (q0 := 0) rfl rfl) rfl hl.1 rfl (Nat.le_of_ble_eq_true rfl) dX12_source_4 ⟨Nat.le_of_ble_eq_true rfl, Nat.le_of_ble_eq_true rfl⟩ (fun r_1 hr_1 => ?_)
  subst hr_1
  refine lv_if_ne (tgt := 20) hx hb dX12_source_7 (by decide) (fun c_2 => ?_) (fun c_2 => ?_)
  · have c_2 := bI_t c_2
    simp only [c_2, Bool.not_true, Bool.not_false, Bool.and_true, Bool.true_and, Bool.and_false, Bool.false_and, Bool.or_true, Bool.true_or, Bool.or_false, Bool.false_or, Bool.and_self, Bool.or_self, Bool.true_eq_false, Bool.false_eq_true] at h1
  · have c_2 := bI_f c_2
    refine lv_aload_n hx hb dX12_source_10 rfl (lv_at hl 0 rfl) ?_
    refine lv_iload_n hx hb dX12_source_11 rfl (lv_at hl 3 rfl) ?_
    refine lv_iload hx hb dX12_source_12 (lv_at hl 4 rfl) ?_
    refine zcVi (As := [.int x2, .int f2]) (rest := [.ref (ma 0 0)]) ⟨hx, hb, hml, hown, hts⟩ (c_X12_isNoField l D ty A u C ma t0 mi g n1 n2 nL n4 n5 th rep bro hR x2 f2) (cwV 2 hts gX12_source_X12_isNoField rfl rfl rfl (by decide +kernel) ⟨Nat.le_of_ble_eq_true rfl, Nat.le_of_ble_eq_true rfl⟩) mI_blind (mI_pre hM hK hMS hS) (va_recv hK (hM.Pa hR.o.1 rfl hR.o.2) (ci := 13) (q0 := 0) rfl rfl) rfl hl.1 rfl (Nat.le_of_ble_eq_true rfl) dX12_source_14 ⟨Nat.le_of_ble_eq_true rfl, Nat.le_of_ble_eq_true rfl⟩ (fun r_3 hr_3 => ?_)
    subst hr_3
    refine lv_if_eq (tgt := 24) hx hb dX12_source_17 (by decide) (fun c_4 => ?_) (fun c_4 => ?_)
    · have c_4 := bI_f c_4
      refine lv_iconst (v := nI 0) hx hb dX12_source_24 (by decide) ?_
      refine zeq (show nI 0 = bI false from rfl) ?_
      refine lv_iconst (v := nI 1) hx hb dX12_source_25 (by decide) ?_
      refine va_calli (va_runV (As := [.int (bI false), .int (nI 1)]) (rest := []) ⟨hx, hb, hml, hown, hts⟩ (c_X12_start_f l D ty A u C ma t0 mi g n1 n2 nL n4 n5 th rep bro hR 1 (by omega) (by omega)) (cwV 2 hts gX12_source_X12_start rfl rfl rfl (by decide +kernel) ⟨Nat.le_of_ble_eq_true rfl, Nat.le_of_ble_eq_true rfl⟩) ⟨zBl mI_blind, (va_recv hK (hM.Pa hR.o.1 rfl hR.o.2) (ci := 13) (q0 := 0) rfl rfl), fun U h1 h2 => ⟨rfl, mI_pre hM hK hMS hS U h1 h2⟩⟩ rfl rfl hl.1 rfl (lv_room (Nat.le_of_ble_eq_true rfl)) dX12_source_26 ⟨Nat.le_of_ble_eq_true rfl, Nat.le_of_ble_eq_true rfl⟩) hS (fun _ _ h => h) (fun _ h => h) (fun r_6 C_5 t H1 locs ht hvm hw hB9 hz1 hk1 hS => ?_)
      obtain ⟨hr_6, hR_7⟩ := hw
      obtain ⟨hM, -, -⟩ := hB9
      rw [ht] at hM
      clear hk1 hz1 hvm ht
      clear t
      generalize H1 = H at hM hS ⊢
      subst hr_6
      refine lv_if_ne (tgt := 61) hx hb dX12_source_29 (by decide) (fun c_8 => ?_) (fun c_8 => ?_)
      · have c_8 := bI_t c_8
        cases c_8
      · have c_8 := bI_f c_8
        refine lv_aload_n hx hb dX12_source_32 rfl (lv_at hl 0 rfl) ?_
        refine lv_iload_n hx hb dX12_source_33 rfl (lv_at hl 3 rfl) ?_
        refine lv_iload_n hx hb dX12_source_34 rfl (lv_at hl 1 rfl) ?_
        refine lv_icmp_ge (tgt := 49) hx hb dX12_source_35 (by decide) (fun c_9 => ?_) (fun c_9 => ?_)
        · have c_9 : ¬ x2 < x := Int32.not_lt.mpr c_9
          refine lv_iconst (v := nI 1) hx hb dX12_source_49 (by decide) ?_
          refine zeq (show nI 1 = bI true from rfl) ?_
          refine lv_goto (tgt := 54) hx hb dX12_source_50 (by decide) ?_
          refine lv_iconst (v := nI 2) hx hb dX12_source_54 (by decide) ?_
          refine va_calli (va_runV (As := [.int (bI true), .int (nI 2)]) (rest := []) ⟨hx, hb, hml, hown, hts⟩ (c_X12_refuse_t l D ty A u C_5 ma t0 mi g n1 n2 nL n4 n5 (nI 0) rep bro hR_7 rfl 2 (by omega) (by omega)) (cwV 2 hts gX12_source_X12_refuse rfl rfl rfl (by decide +kernel) ⟨Nat.le_of_ble_eq_true rfl, Nat.le_of_ble_eq_true rfl⟩) ⟨zBl mI_blind, (va_recv hK (hM.Pa hR_7.o.1 rfl hR_7.o.2) (ci := 13) (q0 := 0) rfl rfl), fun U h1 h2 => ⟨rfl, mI_pre hM hK hMS hS U h1 h2⟩⟩ rfl rfl hl.1 rfl (lv_room (Nat.le_of_ble_eq_true rfl)) dX12_source_55 ⟨Nat.le_of_ble_eq_true rfl, Nat.le_of_ble_eq_true rfl⟩) hS (fun _ _ h => h) (fun _ h => h) (fun r_11 C_10 t H1 locs ht hvm hw hB9 hz1 hk1 hS => ?_)
          obtain ⟨hr_11, hR_12⟩ := hw
          obtain ⟨hM, -, -⟩ := hB9
          rw [ht] at hM
          clear hk1 hz1 hvm ht
          clear t
          generalize H1 = H at hM hS ⊢
          subst hr_11
          refine lv_if_eq (tgt := 63) hx hb dX12_source_58 (by decide) (fun c_13 => ?_) (fun c_13 => ?_)
          · have c_13 := bI_f c_13
            cases c_13
          · have c_13 := bI_t c_13
            refine lv_iconst (v := nI 0) hx hb dX12_source_61 (by decide) ?_
            exact W.iret (v := nI 0) hx hb hr (fun t ht hW => ⟨⟨_, C_10, rfl, ⟨rfl, hR_12⟩, mI_pre hM hK hMS hS t ht hW⟩, hS.F ht⟩) hS.2.2 dX12_source_62
        · have c_9 : x2 < x := Int32.not_le.mp c_9
          refine lv_iload hx hb dX12_source_38 (lv_at hl 5 rfl) ?_
          refine lv_iconst (v := nI 1) hx hb dX12_source_40 (by decide) ?_
          refine lv_bipush (v := nI 100) hx hb dX12_source_41 (by decide) ?_
          refine zcSi (As := [.int sh, .int (nI 1), .int (nI 100)]) (rest := [.ref (ma 0 0)]) ⟨hx, hb, hml, hown, hts⟩ (c_X12_isIn l _ sh (nI 1) (nI 100)) (cwS 3 hts gX12_source_X12_isIn rfl rfl rfl (by decide +kernel) ⟨Nat.le_of_ble_eq_true rfl, Nat.le_of_ble_eq_true rfl⟩) (B := fun _ => True) (fun _ _ _ _ _ => trivial) (fun _ _ _ => trivial) rfl hl.1 rfl (Nat.le_of_ble_eq_true rfl) dX12_source_43 ⟨Nat.le_of_ble_eq_true rfl, Nat.le_of_ble_eq_true rfl⟩ (fun r_14 hr_14 => ?_)
          subst hr_14
          refine lv_if_ne (tgt := 53) hx hb dX12_source_46 (by decide) (fun c_15 => ?_) (fun c_15 => ?_)
          · have c_15 := bI_t c_15
            simp only [c_2, c_4, c_8, decide_eq_true c_9, c_15, Bool.not_true, Bool.not_false, Bool.and_true, Bool.true_and, Bool.and_false, Bool.false_and, Bool.or_true, Bool.true_or, Bool.or_false, Bool.false_or, Bool.and_self, Bool.or_self, Bool.true_eq_false, Bool.false_eq_true] at h2
          · have c_15 := bI_f c_15
            refine lv_iconst (v := nI 1) hx hb dX12_source_49 (by decide) ?_
            refine zeq (show nI 1 = bI true from rfl) ?_
            refine lv_goto (tgt := 54) hx hb dX12_source_50 (by decide) ?_
            refine lv_iconst (v := nI 2) hx hb dX12_source_54 (by decide) ?_
            refine va_calli (va_runV (As := [.int (bI true), .int (nI 2)]) (rest := []) ⟨hx, hb, hml, hown, hts⟩ (c_X12_refuse_t l D ty A u C_5 ma t0 mi g n1 n2 nL n4 n5 (nI 0) rep bro hR_7 rfl 2 (by omega) (by omega)) (cwV 2 hts gX12_source_X12_refuse rfl rfl rfl (by decide +kernel) ⟨Nat.le_of_ble_eq_true rfl, Nat.le_of_ble_eq_true rfl⟩) ⟨zBl mI_blind, (va_recv hK (hM.Pa hR_7.o.1 rfl hR_7.o.2) (ci := 13) (q0 := 0) rfl rfl), fun U h1 h2 => ⟨rfl, mI_pre hM hK hMS hS U h1 h2⟩⟩ rfl rfl hl.1 rfl (lv_room (Nat.le_of_ble_eq_true rfl)) dX12_source_55 ⟨Nat.le_of_ble_eq_true rfl, Nat.le_of_ble_eq_true rfl⟩) hS (fun _ _ h => h) (fun _ h => h) (fun r_17 C_16 t H1 locs ht hvm hw hB9 hz1 hk1 hS => ?_)
            obtain ⟨hr_17, hR_18⟩ := hw
            obtain ⟨hM, -, -⟩ := hB9
            rw [ht] at hM
            clear hk1 hz1 hvm ht
            clear t
            generalize H1 = H at hM hS ⊢
            subst hr_17
            refine lv_if_eq (tgt := 63) hx hb dX12_source_58 (by decide) (fun c_19 => ?_) (fun c_19 => ?_)
            · have c_19 := bI_f c_19
              cases c_19
            · have c_19 := bI_t c_19
              refine lv_iconst (v := nI 0) hx hb dX12_source_61 (by decide) ?_
              exact W.iret (v := nI 0) hx hb hr (fun t ht hW => ⟨⟨_, C_16, rfl, ⟨rfl, hR_18⟩, mI_pre hM hK hMS hS t ht hW⟩, hS.F ht⟩) hS.2.2 dX12_source_62
    · have c_4 := bI_t c_4
      simp only [c_2, c_4, Bool.not_true, Bool.not_false, Bool.and_true, Bool.true_and, Bool.and_false, Bool.false_and, Bool.or_true, Bool.true_or, Bool.or_false, Bool.false_or, Bool.and_self, Bool.or_self, Bool.true_eq_false, Bool.false_eq_true] at h1
set_option maxHeartbeats 1000000 in
set_option maxRecDepth 100000 in
theorem m_source_k (l : Launch) (D : va_G) (ty : Nat → ClassId) (A : Nat → Prop) (u : Nat → Nat → Prop) (C : Nat → Nat → va_E) (ma : Nat → Nat → Nat) (t0 mi : Nat) (g : Nat → Nat → Int32) (n1 n2 nL n4 n5 : Nat) (th : Int32) (rep bro : Nat → Nat → Int32) (hR : mR ty t0 g n1 n2 nL n4 n5 th rep bro u C ma) (i f i2 f2 : Nat) (hi : i < n1) (hf : f < nF g i) (hii : i2 < i) (hf2 : f2 < nF g i2) (sh : Int32) (hs1 : ¬ sh < nI 1) (hs2 : ¬ nI 100 < sh) (j0 : Nat) (hj0 : j0 < n2) (hj1 : g 12 j0 = nI (i * 6 + f) ∧ g 13 j0 = nI (i2 * 6 + f2)) (hj2 : ∀ j, j < j0 → ¬ (g 12 j = nI (i * 6 + f) ∧ g 13 j = nI (i2 * 6 + f2))) : Met l yX12_source wsX12_source ({ frames := 7, cells := 0, slots := 0, locals := 192 }) (va_Pc [.ref (ma 0 0), .int (nI i), .int (nI f), .int (nI i2), .int (nI f2), .int sh] (mI D ty A u C ma t0 mi)) (va_Qi (fun (v9 : Int32) (S : mSt) => v9 = sumN (fSrc (va_up g 14 (upd (g 14) j0 sh)) (i * 6 + f)) n2 ∧ S.2.2 0 0 = ma 0 0 ∧ mR ty t0 (va_up g 14 (upd (g 14) j0 sh)) n1 n2 nL n4 n5 (nI 0) rep bro S.1 S.2.1 S.2.2) (fun S t => mI D ty A S.1 S.2.1 S.2.2 t0 mi t) A) 0 0 A := by
  refine zMet (cc := cX12_source) (maxL := 9) (ret := (some .int)) (by decide) rfl (Nat.le_of_ble_eq_true rfl) ?_
  intro p e s m below meth c hx hb hr hts hown hlocks hml hB ls hl
  obtain ⟨hM, hK, hMS⟩ := hB
  have hS : va_S A s.heap s.heap [] := va_S.rf
  have hbn := hR.I.b1
  have hbs := hR.I.b2
  have hbl := hR.I.bL
  have hbc := hR.I.b4
  have hbr := hR.I.b5
  have hf7 := (hR.I.f7 hi).2.2
  have hf72 := (hR.I.f7 (show i2 < n1 by omega)).2.2
  have h1 : (bFld g n1 (nI i) (nI f) || bFld g n1 (nI i2) (nI f2)) = false := by rw [bFld_ok hR.I hi hf, bFld_ok hR.I (by omega) hf2]; rfl
  have h2 : (!inB sh (nI 1) (nI 100)) = false := by rw [inB_r hs1 hs2]; rfl
  have hl : lv_has ls 9 [(0, .ref (ma 0 0)), (1, .int (nI i)), (2, .int (nI f)), (3, .int (nI i2)), (4, .int (nI f2)), (5, .int sh)] := hl
  have hinX10 : ∀ w ∈ wsX100, w ∈ wsX12_source := by decide +kernel
  have hk1 := hts (.fieldLink RX12 137 "DatamarketDeskModel$Source" "share" "I") (by decide +kernel)
  have hinX12 : ∀ w ∈ wsX120, w ∈ wsX12_source := by decide +kernel
  have hk3 := hts (.fieldLink RX12 16 "DatamarketDeskModel" "sources" "Ljava/util/ArrayList;") (by decide +kernel)
  have hk4 := hts (.classLink RX12 120 "DatamarketDeskModel$Source") (by decide +kernel)
  have hk5 := hts (.fieldLink RX12 122 "DatamarketDeskModel$Source" "set" "I") (by decide +kernel)
  have hk6 := hts (.fieldLink RX12 123 "DatamarketDeskModel$Source" "field" "I") (by decide +kernel)
  refine lv_aload_n hx hb dX12_source_0 rfl (lv_at hl 0 rfl) ?_
  refine lv_aload_n hx hb dX12_source_1 rfl (lv_at hl 0 rfl) ?_
  refine lv_iload_n hx hb dX12_source_2 rfl (lv_at hl 1 rfl) ?_
  refine lv_iload_n hx hb dX12_source_3 rfl (lv_at hl 2 rfl) ?_
  refine zcVi (As := [.int (nI i), .int (nI f)]) (rest := [.ref (ma 0 0)]) ⟨hx, hb, hml, hown, hts⟩ (c_X12_isNoField l D ty A u C ma t0 mi g n1 n2 nL n4 n5 th rep bro hR (nI i) (nI f)) (cwV 2 hts gX12_source_X12_isNoField rfl rfl rfl (by decide +kernel) ⟨Nat.le_of_ble_eq_true rfl, Nat.le_of_ble_eq_true rfl⟩) mI_blind (mI_pre hM hK hMS hS) (va_recv hK (hM.Pa hR.o.1 rfl hR.o.2) (ci := 13) (q0 := 0) rfl rfl) rfl hl.1 rfl (Nat.le_of_ble_eq_true rfl) dX12_source_4 ⟨Nat.le_of_ble_eq_true rfl, Nat.le_of_ble_eq_true rfl⟩ (fun r_1 hr_1 => ?_)
  subst hr_1
  refine lv_if_ne (tgt := 20) hx hb dX12_source_7 (by decide) (fun c_2 => ?_) (fun c_2 => ?_)
  · have c_2 := bI_t c_2
    simp only [c_2, Bool.not_true, Bool.not_false, Bool.and_true, Bool.true_and, Bool.and_false, Bool.false_and, Bool.or_true, Bool.true_or, Bool.or_false, Bool.false_or, Bool.and_self, Bool.or_self, Bool.true_eq_false, Bool.false_eq_true] at h1
  · have c_2 := bI_f c_2
    refine lv_aload_n hx hb dX12_source_10 rfl (lv_at hl 0 rfl) ?_
    refine lv_iload_n hx hb dX12_source_11 rfl (lv_at hl 3 rfl) ?_
    refine lv_iload hx hb dX12_source_12 (lv_at hl 4 rfl) ?_
    refine zcVi (As := [.int (nI i2), .int (nI f2)]) (rest := [.ref (ma 0 0)]) ⟨hx, hb, hml, hown, hts⟩ (c_X12_isNoField l D ty A u C ma t0 mi g n1 n2 nL n4 n5 th rep bro hR (nI i2) (nI f2)) (cwV 2 hts gX12_source_X12_isNoField rfl rfl rfl (by decide +kernel) ⟨Nat.le_of_ble_eq_true rfl, Nat.le_of_ble_eq_true rfl⟩) mI_blind (mI_pre hM hK hMS hS) (va_recv hK (hM.Pa hR.o.1 rfl hR.o.2) (ci := 13) (q0 := 0) rfl rfl) rfl hl.1 rfl (Nat.le_of_ble_eq_true rfl) dX12_source_14 ⟨Nat.le_of_ble_eq_true rfl, Nat.le_of_ble_eq_true rfl⟩ (fun r_3 hr_3 => ?_)
    subst hr_3
    refine lv_if_eq (tgt := 24) hx hb dX12_source_17 (by decide) (fun c_4 => ?_) (fun c_4 => ?_)
    · have c_4 := bI_f c_4
      refine lv_iconst (v := nI 0) hx hb dX12_source_24 (by decide) ?_
      refine zeq (show nI 0 = bI false from rfl) ?_
      refine lv_iconst (v := nI 1) hx hb dX12_source_25 (by decide) ?_
      refine va_calli (va_runV (As := [.int (bI false), .int (nI 1)]) (rest := []) ⟨hx, hb, hml, hown, hts⟩ (c_X12_start_f l D ty A u C ma t0 mi g n1 n2 nL n4 n5 th rep bro hR 1 (by omega) (by omega)) (cwV 2 hts gX12_source_X12_start rfl rfl rfl (by decide +kernel) ⟨Nat.le_of_ble_eq_true rfl, Nat.le_of_ble_eq_true rfl⟩) ⟨zBl mI_blind, (va_recv hK (hM.Pa hR.o.1 rfl hR.o.2) (ci := 13) (q0 := 0) rfl rfl), fun U h1 h2 => ⟨rfl, mI_pre hM hK hMS hS U h1 h2⟩⟩ rfl rfl hl.1 rfl (lv_room (Nat.le_of_ble_eq_true rfl)) dX12_source_26 ⟨Nat.le_of_ble_eq_true rfl, Nat.le_of_ble_eq_true rfl⟩) hS (fun _ _ h => h) (fun _ h => h) (fun r_6 C_5 t H1 locs ht hvm hw hB9 hz1 hk1 hS => ?_)
      obtain ⟨hr_6, hR_7⟩ := hw
      obtain ⟨hM, -, -⟩ := hB9
      rw [ht] at hM
      clear hk1 hz1 hvm ht
      clear t
      generalize H1 = H at hM hS ⊢
      subst hr_6
      refine lv_if_ne (tgt := 61) hx hb dX12_source_29 (by decide) (fun c_8 => ?_) (fun c_8 => ?_)
      · have c_8 := bI_t c_8
        cases c_8
      · have c_8 := bI_f c_8
        refine lv_aload_n hx hb dX12_source_32 rfl (lv_at hl 0 rfl) ?_
        refine lv_iload_n hx hb dX12_source_33 rfl (lv_at hl 3 rfl) ?_
        refine lv_iload_n hx hb dX12_source_34 rfl (lv_at hl 1 rfl) ?_
        refine lv_icmp_ge (tgt := 49) hx hb dX12_source_35 (by decide) (fun c_9 => ?_) (fun c_9 => ?_)
        · have c_9 := zn_geT (a := i2) (b := i) (by omega) (by omega) c_9
          omega
        · have c_9 := zn_geF (a := i2) (b := i) (by omega) (by omega) c_9
          refine lv_iload hx hb dX12_source_38 (lv_at hl 5 rfl) ?_
          refine lv_iconst (v := nI 1) hx hb dX12_source_40 (by decide) ?_
          refine lv_bipush (v := nI 100) hx hb dX12_source_41 (by decide) ?_
          refine zcSi (As := [.int sh, .int (nI 1), .int (nI 100)]) (rest := [.ref (ma 0 0)]) ⟨hx, hb, hml, hown, hts⟩ (c_X12_isIn l _ sh (nI 1) (nI 100)) (cwS 3 hts gX12_source_X12_isIn rfl rfl rfl (by decide +kernel) ⟨Nat.le_of_ble_eq_true rfl, Nat.le_of_ble_eq_true rfl⟩) (B := fun _ => True) (fun _ _ _ _ _ => trivial) (fun _ _ _ => trivial) rfl hl.1 rfl (Nat.le_of_ble_eq_true rfl) dX12_source_43 ⟨Nat.le_of_ble_eq_true rfl, Nat.le_of_ble_eq_true rfl⟩ (fun r_10 hr_10 => ?_)
          subst hr_10
          refine lv_if_ne (tgt := 53) hx hb dX12_source_46 (by decide) (fun c_11 => ?_) (fun c_11 => ?_)
          · have c_11 := bI_t c_11
            refine lv_iconst (v := nI 0) hx hb dX12_source_53 (by decide) ?_
            refine zeq (show nI 0 = bI false from rfl) ?_
            refine lv_iconst (v := nI 2) hx hb dX12_source_54 (by decide) ?_
            refine zcVi (As := [.int (bI false), .int (nI 2)]) (rest := []) ⟨hx, hb, hml, hown, hts⟩ (c_X12_refuse_f l D ty A u C_5 ma t0 mi g n1 n2 nL n4 n5 (nI 0) rep bro hR_7 rfl (nI 2)) (cwV 2 hts gX12_source_X12_refuse rfl rfl rfl (by decide +kernel) ⟨Nat.le_of_ble_eq_true rfl, Nat.le_of_ble_eq_true rfl⟩) mI_blind (mI_pre hM hK hMS hS) (va_recv hK (hM.Pa hR_7.o.1 rfl hR_7.o.2) (ci := 13) (q0 := 0) rfl rfl) rfl hl.1 rfl (Nat.le_of_ble_eq_true rfl) dX12_source_55 ⟨Nat.le_of_ble_eq_true rfl, Nat.le_of_ble_eq_true rfl⟩ (fun r_12 hr_12 => ?_)
            subst hr_12
            refine lv_if_eq (tgt := 63) hx hb dX12_source_58 (by decide) (fun c_13 => ?_) (fun c_13 => ?_)
            · have c_13 := bI_f c_13
              refine lv_aload_n hx hb dX12_source_63 rfl (lv_at hl 0 rfl) ?_
              refine lv_iload_n hx hb dX12_source_64 rfl (lv_at hl 1 rfl) ?_
              refine lv_iload_n hx hb dX12_source_65 rfl (lv_at hl 2 rfl) ?_
              refine lv_iload_n hx hb dX12_source_66 rfl (lv_at hl 3 rfl) ?_
              refine lv_iload hx hb dX12_source_67 (lv_at hl 4 rfl) ?_
              refine zcVr (x := .ref (ma 24 j0)) (As := [.int (nI i), .int (nI f), .int (nI i2), .int (nI f2)]) (rest := []) ⟨hx, hb, hml, hown, hts⟩ (c_X12_sourceOf_k l D ty A u C_5 ma t0 mi g n1 n2 nL n4 n5 (nI 0) rep bro hR_7 i f i2 f2 (by omega) (by omega) (by omega) (by omega) j0 hj0 hj1 hj2) (cwV 4 hts gX12_source_X12_sourceOf rfl rfl rfl (by decide +kernel) ⟨Nat.le_of_ble_eq_true rfl, Nat.le_of_ble_eq_true rfl⟩) mI_blind (mI_pre hM hK hMS hS) (va_recv hK (hM.Pa hR_7.o.1 rfl hR_7.o.2) (ci := 13) (q0 := 0) rfl rfl) rfl hl.1 rfl (Nat.le_of_ble_eq_true rfl) dX12_source_69 ⟨Nat.le_of_ble_eq_true rfl, Nat.le_of_ble_eq_true rfl⟩ ?_
              refine lv_astore (lv' := [(6, .ref (ma 24 j0)), (0, .ref (ma 0 0)), (1, .int (nI i)), (2, .int (nI f)), (3, .int (nI i2)), (4, .int (nI f2)), (5, .int sh)]) hx hb dX12_source_72 hl (by decide) rfl (fun ls hl => ?_)
              refine lv_aload_n hx hb dX12_source_74 rfl (lv_at hl 1 rfl) ?_
              refine lv_aload hx hb dX12_source_75 (lv_at hl 0 rfl) ?_
              refine lv_ifnonnull (tgt := 96) hx hb dX12_source_77 (by decide) ?_
              refine lv_iconst (v := nI 0) hx hb dX12_source_96 (by decide) ?_
              refine zeq (show nI 0 = bI false from rfl) ?_
              refine lv_iconst (v := nI 3) hx hb dX12_source_97 (by decide) ?_
              refine zcVi (As := [.int (bI false), .int (nI 3)]) (rest := []) ⟨hx, hb, hml, hown, hts⟩ (c_X12_refuse_f l D ty A u C_5 ma t0 mi g n1 n2 nL n4 n5 (nI 0) rep bro hR_7 rfl (nI 3)) (cwV 2 hts gX12_source_X12_refuse rfl rfl rfl (by decide +kernel) ⟨Nat.le_of_ble_eq_true rfl, Nat.le_of_ble_eq_true rfl⟩) mI_blind (mI_pre hM hK hMS hS) (va_recv hK (hM.Pa hR_7.o.1 rfl hR_7.o.2) (ci := 13) (q0 := 0) rfl rfl) rfl hl.1 rfl (Nat.le_of_ble_eq_true rfl) dX12_source_98 ⟨Nat.le_of_ble_eq_true rfl, Nat.le_of_ble_eq_true rfl⟩ (fun r_15 hr_15 => ?_)
              subst hr_15
              refine lv_if_eq (tgt := 106) hx hb dX12_source_101 (by decide) (fun c_16 => ?_) (fun c_16 => ?_)
              · have c_16 := bI_f c_16
                refine lv_aload hx hb dX12_source_106 (lv_at hl 0 rfl) ?_
                refine lv_ifnonnull (tgt := 135) hx hb dX12_source_108 (by decide) ?_
                refine lv_aload hx hb dX12_source_135 (lv_at hl 0 rfl) ?_
                refine lv_iload hx hb dX12_source_137 (lv_at hl 6 rfl) ?_
                refine mput (v := .int sh) (ty := .int) hx hb hts hinX10 tyX10 tyX10_ok nmX10 hown hK hM hS (hR_7.q24 (j := j0) (by omega)).1 rfl (hR_7.q24 (j := j0) (by omega)).2 rfl 4 (by decide) (hk1) (fun _ h9 => h9) rfl (by decide +kernel) rfl rfl (Nat.le_of_ble_eq_true rfl) dX12_source_139 (fun H locs hM hS ho => ?_)
                obtain ⟨C_17, eC_17⟩ : ∃ z, z = up2 C_5 24 j0 (eO 11 [.int (nI (cn (g 12 j0) / 6)), .int (nI (cn (g 12 j0) % 6)), .int (nI (cn (g 13 j0) / 6)), .int (nI (cn (g 13 j0) % 6)), .int sh]) := ⟨_, rfl⟩
                have hM : mW D A u C_17 ma H := by rw [eC_17]; exact hM
                have hC_18 : C_17 24 j0 = eO 11 [.int (nI (cn (g 12 j0) / 6)), .int (nI (cn (g 12 j0) % 6)), .int (nI (cn (g 13 j0) / 6)), .int (nI (cn (g 13 j0) % 6)), .int sh] := by rw [eC_17]; exact up2_s _ _ _ _
                have hR_19 : mR ty t0 (va_up g 14 (upd (g 14) j0 sh)) n1 n2 nL n4 n5 (nI 0) rep bro u C_17 ma := by rw [eC_17]; exact mR_srck hR_7 hj0 sh
                have hR9 := hR_19
                refine lv_iconst (v := nI 0) hx hb dX12_source_142 (by decide) ?_
                refine lv_istore (lv' := [(7, .int (nI 0)), (6, .ref (ma 24 j0)), (0, .ref (ma 0 0)), (1, .int (nI i)), (2, .int (nI f)), (3, .int (nI i2)), (4, .int (nI f2)), (5, .int sh)]) hx hb dX12_source_143 hl (by decide) rfl (fun ls hl => ?_)
                refine lv_iconst (v := nI 0) hx hb dX12_source_145 (by decide) ?_
                refine lv_istore (lv' := [(8, .int (nI 0)), (7, .int (nI 0)), (6, .ref (ma 24 j0)), (0, .ref (ma 0 0)), (1, .int (nI i)), (2, .int (nI f)), (3, .int (nI i2)), (4, .int (nI f2)), (5, .int sh)]) hx hb dX12_source_146 hl (by decide) rfl (fun ls hl => ?_)
                refine zloopP (τ := Unit) (fun j _ ls => lv_has ls 9 [(7, .int (sumN (fSrc (va_up g 14 (upd (g 14) j0 sh)) (i * 6 + f)) j)), (8, .int (nI j)), (0, .ref (ma 0 0)), (1, .int (nI i)), (2, .int (nI f))]) n2 ?_ 0 () ls (Nat.zero_le _) (lv_sub hl [1, 0, 3, 4, 5] rfl)
                intro j _ ls hi_j hl ih_j
                have hl : lv_has ls 9 [(7, .int (sumN (fSrc (va_up g 14 (upd (g 14) j0 sh)) (i * 6 + f)) j)), (8, .int (nI j)), (0, .ref (ma 0 0)), (1, .int (nI i)), (2, .int (nI f))] := hl
                refine lv_iload hx hb dX12_source_148 (lv_at hl 1 rfl) ?_
                refine lv_aload_n hx hb dX12_source_150 rfl (lv_at hl 2 rfl) ?_
                refine va_get hx hb hts hinX12 hown hK (hM.Pa hR_19.o.1 rfl hR_19.o.2) 0 rfl rfl 2 (by decide) (hk3) (fun _ h9 => h9) rfl dX12_source_151 ?_
                obtain ⟨huz_20, hnz_20, mz_20, bz_20, hCz_20⟩ := isL.hd hR_19.l3
                refine zcVi (As := []) (rest := [.int (nI j)]) ⟨hx, hb, hml, hown, hts⟩ (c_size l D ty A u C_17 ma t0 mi 3 0 n2 (ma 24) hR_19.l3) (cwV 0 hts gX12_source_Jx4a65c_size_8abf5 rfl rfl rfl (by decide +kernel) ⟨Nat.le_of_ble_eq_true rfl, Nat.le_of_ble_eq_true rfl⟩) mI_blind (mI_pre hM hK hMS hS) (va_recv hK (hM.Pa huz_20 rfl hCz_20) (ci := 0) (q0 := 0) rfl rfl) rfl hl.1 rfl (Nat.le_of_ble_eq_true rfl) dX12_source_154 ⟨Nat.le_of_ble_eq_true rfl, Nat.le_of_ble_eq_true rfl⟩ (fun r_21 hr_21 => ?_)
                subst hr_21
                refine lv_icmp_ge (tgt := 214) hx hb dX12_source_157 (by decide) (fun c_22 => ?_) (fun c_22 => ?_)
                · have c_22 := zn_geT (a := j) (b := n2) (by omega) (by omega) c_22
                  obtain rfl : n2 = j := by omega
                  refine lv_iload hx hb dX12_source_214 (lv_at hl 0 rfl) ?_
                  exact W.iret (v := sumN (fSrc (va_up g 14 (upd (g 14) j0 sh)) (i * 6 + f)) n2) hx hb hr (fun t ht hW => ⟨⟨_, (u, C_17, ma), rfl, ⟨rfl, rfl, hR_19⟩, mI_pre hM hK hMS hS t ht hW⟩, hS.F ht⟩) hS.2.2 dX12_source_216
                · have c_22 := zn_geF (a := j) (b := n2) (by omega) (by omega) c_22
                  have hsj := (hR9.I.src (show j < n2 by omega)).1.2
                  refine lv_iload hx hb dX12_source_160 (lv_at hl 0 rfl) ?_
                  refine lv_aload_n hx hb dX12_source_162 rfl (lv_at hl 2 rfl) ?_
                  refine va_get hx hb hts hinX12 hown hK (hM.Pa hR_19.o.1 rfl hR_19.o.2) 0 rfl rfl 2 (by decide) (hk3) (fun _ h9 => h9) rfl dX12_source_163 ?_
                  refine lv_iload hx hb dX12_source_166 (lv_at hl 1 rfl) ?_
                  obtain ⟨huz_23, hnz_23, mz_23, bz_23, hCz_23⟩ := isL.hd hR_19.l3
                  refine zcVr (x := .ref (ma 24 j)) (As := [.int (nI j)]) (rest := [.int (sumN (fSrc (va_up g 14 (upd (g 14) j0 sh)) (i * 6 + f)) j)]) ⟨hx, hb, hml, hown, hts⟩ (c_get l D ty A u C_17 ma t0 mi 3 0 n2 (ma 24) hR_19.l3 j (by omega)) (cwV 1 hts gX12_source_Jx4a65c_get_915e3 rfl rfl rfl (by decide +kernel) ⟨Nat.le_of_ble_eq_true rfl, Nat.le_of_ble_eq_true rfl⟩) mI_blind (mI_pre hM hK hMS hS) (va_recv hK (hM.Pa huz_23 rfl hCz_23) (ci := 0) (q0 := 0) rfl rfl) rfl hl.1 rfl (Nat.le_of_ble_eq_true rfl) dX12_source_168 ⟨Nat.le_of_ble_eq_true rfl, Nat.le_of_ble_eq_true rfl⟩ ?_
                  refine va_castS hx hb hown (hk4) ((hK.1 11 _ rfl).2) (va_recv hK (hM.Pa (hR_19.q24 (j := j) (by omega)).1 rfl (hR_19.q24 (j := j) (by omega)).2) (ci := 11) (q0 := 0) rfl rfl) dX12_source_171 ?_
                  refine va_get hx hb hts hinX10 hown hK (hM.Pa (hR_19.q24 (j := j) (by omega)).1 rfl (hR_19.q24 (j := j) (by omega)).2) 0 rfl rfl 0 (by decide) (hk5) (fun _ h9 => h9) rfl dX12_source_174 ?_
                  refine lv_iload_n hx hb dX12_source_177 rfl (lv_at hl 3 rfl) ?_
                  refine lv_icmp_ne (tgt := 204) hx hb dX12_source_178 (by decide) (fun c_25 => ?_) (fun c_25 => ?_)
                  · have c_25 := zn_neT (a := (cn ((va_up g 14 (upd (g 14) j0 sh)) 12 j) / 6)) (b := i) (by omega) (by omega) c_25
                    refine lv_iconst (v := nI 0) hx hb dX12_source_204 (by decide) ?_
                    refine lv_iadd hx hb dX12_source_205 ?_
                    refine lv_istore (lv' := [(7, .int ((sumN (fSrc (va_up g 14 (upd (g 14) j0 sh)) (i * 6 + f)) j) + (nI 0))), (8, .int (nI j)), (0, .ref (ma 0 0)), (1, .int (nI i)), (2, .int (nI f))]) hx hb dX12_source_206 hl (by decide) rfl (fun ls hl => ?_)
                    refine lv_iinc (v := nI (j + 1)) (lv' := [(8, .int (nI (j + 1))), (7, .int ((sumN (fSrc (va_up g 14 (upd (g 14) j0 sh)) (i * 6 + f)) j) + (nI 0))), (0, .ref (ma 0 0)), (1, .int (nI i)), (2, .int (nI f))]) hx hb dX12_source_208 hl (k := 1) rfl (nI_add j 1) (by decide) rfl (fun ls hl => ?_)
                    refine lv_goto (tgt := 148) hx hb dX12_source_211 (by decide) ?_
                    refine ih_j () ls (by omega) (show lv_has ls 9 [(7, .int (sumN (fSrc (va_up g 14 (upd (g 14) j0 sh)) (i * 6 + f)) (j + 1))), (8, .int (nI (j + 1))), (0, .ref (ma 0 0)), (1, .int (nI i)), (2, .int (nI f))] from ?_)
                    rw [show sumN (fSrc (va_up g 14 (upd (g 14) j0 sh)) (i * 6 + f)) (j + 1) = (sumN (fSrc (va_up g 14 (upd (g 14) j0 sh)) (i * 6 + f)) j) + (nI 0) from congrArg (fun z => (sumN (fSrc (va_up g 14 (upd (g 14) j0 sh)) (i * 6 + f)) j) +  z) (show (fSrc (va_up g 14 (upd (g 14) j0 sh)) (i * 6 + f)) j = (nI 0) from (fSrc_n (by omega) (by omega) (by omega)))]
                    exact lv_sub hl [1, 0, 2, 3, 4] rfl
                  · have c_25 := zn_neF (a := (cn ((va_up g 14 (upd (g 14) j0 sh)) 12 j) / 6)) (b := i) (by omega) (by omega) c_25
                    refine lv_aload_n hx hb dX12_source_181 rfl (lv_at hl 2 rfl) ?_
                    refine va_get hx hb hts hinX12 hown hK (hM.Pa hR_19.o.1 rfl hR_19.o.2) 0 rfl rfl 2 (by decide) (hk3) (fun _ h9 => h9) rfl dX12_source_182 ?_
                    refine lv_iload hx hb dX12_source_185 (lv_at hl 1 rfl) ?_
                    obtain ⟨huz_26, hnz_26, mz_26, bz_26, hCz_26⟩ := isL.hd hR_19.l3
                    refine zcVr (x := .ref (ma 24 j)) (As := [.int (nI j)]) (rest := [.int (sumN (fSrc (va_up g 14 (upd (g 14) j0 sh)) (i * 6 + f)) j)]) ⟨hx, hb, hml, hown, hts⟩ (c_get l D ty A u C_17 ma t0 mi 3 0 n2 (ma 24) hR_19.l3 j (by omega)) (cwV 1 hts gX12_source_Jx4a65c_get_915e3 rfl rfl rfl (by decide +kernel) ⟨Nat.le_of_ble_eq_true rfl, Nat.le_of_ble_eq_true rfl⟩) mI_blind (mI_pre hM hK hMS hS) (va_recv hK (hM.Pa huz_26 rfl hCz_26) (ci := 0) (q0 := 0) rfl rfl) rfl hl.1 rfl (Nat.le_of_ble_eq_true rfl) dX12_source_187 ⟨Nat.le_of_ble_eq_true rfl, Nat.le_of_ble_eq_true rfl⟩ ?_
                    refine va_castS hx hb hown (hk4) ((hK.1 11 _ rfl).2) (va_recv hK (hM.Pa (hR_19.q24 (j := j) (by omega)).1 rfl (hR_19.q24 (j := j) (by omega)).2) (ci := 11) (q0 := 0) rfl rfl) dX12_source_190 ?_
                    refine va_get hx hb hts hinX10 hown hK (hM.Pa (hR_19.q24 (j := j) (by omega)).1 rfl (hR_19.q24 (j := j) (by omega)).2) 0 rfl rfl 1 (by decide) (hk6) (fun _ h9 => h9) rfl dX12_source_193 ?_
                    refine lv_iload_n hx hb dX12_source_196 rfl (lv_at hl 4 rfl) ?_
                    refine lv_icmp_ne (tgt := 204) hx hb dX12_source_197 (by decide) (fun c_28 => ?_) (fun c_28 => ?_)
                    · have c_28 := zn_neT (a := (cn ((va_up g 14 (upd (g 14) j0 sh)) 12 j) % 6)) (b := f) (by omega) (by omega) c_28
                      refine lv_iconst (v := nI 0) hx hb dX12_source_204 (by decide) ?_
                      refine lv_iadd hx hb dX12_source_205 ?_
                      refine lv_istore (lv' := [(7, .int ((sumN (fSrc (va_up g 14 (upd (g 14) j0 sh)) (i * 6 + f)) j) + (nI 0))), (8, .int (nI j)), (0, .ref (ma 0 0)), (1, .int (nI i)), (2, .int (nI f))]) hx hb dX12_source_206 hl (by decide) rfl (fun ls hl => ?_)
                      refine lv_iinc (v := nI (j + 1)) (lv' := [(8, .int (nI (j + 1))), (7, .int ((sumN (fSrc (va_up g 14 (upd (g 14) j0 sh)) (i * 6 + f)) j) + (nI 0))), (0, .ref (ma 0 0)), (1, .int (nI i)), (2, .int (nI f))]) hx hb dX12_source_208 hl (k := 1) rfl (nI_add j 1) (by decide) rfl (fun ls hl => ?_)
                      refine lv_goto (tgt := 148) hx hb dX12_source_211 (by decide) ?_
                      refine ih_j () ls (by omega) (show lv_has ls 9 [(7, .int (sumN (fSrc (va_up g 14 (upd (g 14) j0 sh)) (i * 6 + f)) (j + 1))), (8, .int (nI (j + 1))), (0, .ref (ma 0 0)), (1, .int (nI i)), (2, .int (nI f))] from ?_)
                      rw [show sumN (fSrc (va_up g 14 (upd (g 14) j0 sh)) (i * 6 + f)) (j + 1) = (sumN (fSrc (va_up g 14 (upd (g 14) j0 sh)) (i * 6 + f)) j) + (nI 0) from congrArg (fun z => (sumN (fSrc (va_up g 14 (upd (g 14) j0 sh)) (i * 6 + f)) j) +  z) (show (fSrc (va_up g 14 (upd (g 14) j0 sh)) (i * 6 + f)) j = (nI 0) from (fSrc_n (by omega) (by omega) (by omega)))]
                      exact lv_sub hl [1, 0, 2, 3, 4] rfl
                    · have c_28 := zn_neF (a := (cn ((va_up g 14 (upd (g 14) j0 sh)) 12 j) % 6)) (b := f) (by omega) (by omega) c_28
                      refine lv_iconst (v := nI 1) hx hb dX12_source_200 (by decide) ?_
                      refine lv_goto (tgt := 205) hx hb dX12_source_201 (by decide) ?_
                      refine lv_iadd hx hb dX12_source_205 ?_
                      refine lv_istore (lv' := [(7, .int ((sumN (fSrc (va_up g 14 (upd (g 14) j0 sh)) (i * 6 + f)) j) + (nI 1))), (8, .int (nI j)), (0, .ref (ma 0 0)), (1, .int (nI i)), (2, .int (nI f))]) hx hb dX12_source_206 hl (by decide) rfl (fun ls hl => ?_)
                      refine lv_iinc (v := nI (j + 1)) (lv' := [(8, .int (nI (j + 1))), (7, .int ((sumN (fSrc (va_up g 14 (upd (g 14) j0 sh)) (i * 6 + f)) j) + (nI 1))), (0, .ref (ma 0 0)), (1, .int (nI i)), (2, .int (nI f))]) hx hb dX12_source_208 hl (k := 1) rfl (nI_add j 1) (by decide) rfl (fun ls hl => ?_)
                      refine lv_goto (tgt := 148) hx hb dX12_source_211 (by decide) ?_
                      refine ih_j () ls (by omega) (show lv_has ls 9 [(7, .int (sumN (fSrc (va_up g 14 (upd (g 14) j0 sh)) (i * 6 + f)) (j + 1))), (8, .int (nI (j + 1))), (0, .ref (ma 0 0)), (1, .int (nI i)), (2, .int (nI f))] from ?_)
                      rw [show sumN (fSrc (va_up g 14 (upd (g 14) j0 sh)) (i * 6 + f)) (j + 1) = (sumN (fSrc (va_up g 14 (upd (g 14) j0 sh)) (i * 6 + f)) j) + (nI 1) from congrArg (fun z => (sumN (fSrc (va_up g 14 (upd (g 14) j0 sh)) (i * 6 + f)) j) +  z) (show (fSrc (va_up g 14 (upd (g 14) j0 sh)) (i * 6 + f)) j = (nI 1) from (fSrc_y hR_19.I (by omega) c_25 c_28))]
                      exact lv_sub hl [1, 0, 2, 3, 4] rfl
              · have c_16 := bI_t c_16
                cases c_16
            · have c_13 := bI_t c_13
              cases c_13
          · have c_11 := bI_f c_11
            simp only [c_2, c_4, c_8, c_11, Bool.not_true, Bool.not_false, Bool.and_true, Bool.true_and, Bool.and_false, Bool.false_and, Bool.or_true, Bool.true_or, Bool.or_false, Bool.false_or, Bool.and_self, Bool.or_self, Bool.true_eq_false, Bool.false_eq_true] at h2
    · have c_4 := bI_t c_4
      simp only [c_2, c_4, Bool.not_true, Bool.not_false, Bool.and_true, Bool.true_and, Bool.and_false, Bool.false_and, Bool.or_true, Bool.true_or, Bool.or_false, Bool.false_or, Bool.and_self, Bool.or_self, Bool.true_eq_false, Bool.false_eq_true] at h1
set_option maxHeartbeats 600000 in
set_option maxRecDepth 100000 in
theorem m_source_x3 (l : Launch) (D : va_G) (ty : Nat → ClassId) (A : Nat → Prop) (u : Nat → Nat → Prop) (C : Nat → Nat → va_E) (ma : Nat → Nat → Nat) (t0 mi : Nat) (g : Nat → Nat → Int32) (n1 n2 nL n4 n5 : Nat) (th : Int32) (rep bro : Nat → Nat → Int32) (hR : mR ty t0 g n1 n2 nL n4 n5 th rep bro u C ma) (i f i2 f2 : Nat) (hi : i < n1) (hf : f < nF g i) (hii : i2 < i) (hf2 : f2 < nF g i2) (sh : Int32) (hs1 : ¬ sh < nI 1) (hs2 : ¬ nI 100 < sh) (hn20 : n2 = 20) (hj2 : ∀ j, j < n2 → ¬ (g 12 j = nI (i * 6 + f) ∧ g 13 j = nI (i2 * 6 + f2))) : Met l yX12_source wsX12_source ({ frames := 7, cells := 0, slots := 0, locals := 192 }) (va_Pc [.ref (ma 0 0), .int (nI i), .int (nI f), .int (nI i2), .int (nI f2), .int sh] (mI D ty A u C ma t0 mi)) (va_Qi (fun (v9 : Int32) (C2 : Nat → Nat → va_E) => v9 = nI 0 ∧ mR ty t0 g n1 n2 nL n4 n5 (nI 3) rep bro u C2 ma) (fun C2 t => mI D ty A u C2 ma t0 mi t) A) 0 0 A := by
  refine zMet (cc := cX12_source) (maxL := 9) (ret := (some .int)) (by decide) rfl (Nat.le_of_ble_eq_true rfl) ?_
  intro p e s m below meth c hx hb hr hts hown hlocks hml hB ls hl
  obtain ⟨hM, hK, hMS⟩ := hB
  have hS : va_S A s.heap s.heap [] := va_S.rf
  have hbn := hR.I.b1
  have hbs := hR.I.b2
  have hbl := hR.I.bL
  have hbc := hR.I.b4
  have hbr := hR.I.b5
  have hf7 := (hR.I.f7 hi).2.2
  have hf72 := (hR.I.f7 (show i2 < n1 by omega)).2.2
  have h1 : (bFld g n1 (nI i) (nI f) || bFld g n1 (nI i2) (nI f2)) = false := by rw [bFld_ok hR.I hi hf, bFld_ok hR.I (by omega) hf2]; rfl
  have h2 : (!inB sh (nI 1) (nI 100)) = false := by rw [inB_r hs1 hs2]; rfl
  have hl : lv_has ls 9 [(0, .ref (ma 0 0)), (1, .int (nI i)), (2, .int (nI f)), (3, .int (nI i2)), (4, .int (nI f2)), (5, .int sh)] := hl
  have hinX12 : ∀ w ∈ wsX120, w ∈ wsX12_source := by decide +kernel
  have hk1 := hts (.fieldLink RX12 16 "DatamarketDeskModel" "sources" "Ljava/util/ArrayList;") (by decide +kernel)
  refine lv_aload_n hx hb dX12_source_0 rfl (lv_at hl 0 rfl) ?_
  refine lv_aload_n hx hb dX12_source_1 rfl (lv_at hl 0 rfl) ?_
  refine lv_iload_n hx hb dX12_source_2 rfl (lv_at hl 1 rfl) ?_
  refine lv_iload_n hx hb dX12_source_3 rfl (lv_at hl 2 rfl) ?_
  refine zcVi (As := [.int (nI i), .int (nI f)]) (rest := [.ref (ma 0 0)]) ⟨hx, hb, hml, hown, hts⟩ (c_X12_isNoField l D ty A u C ma t0 mi g n1 n2 nL n4 n5 th rep bro hR (nI i) (nI f)) (cwV 2 hts gX12_source_X12_isNoField rfl rfl rfl (by decide +kernel) ⟨Nat.le_of_ble_eq_true rfl, Nat.le_of_ble_eq_true rfl⟩) mI_blind (mI_pre hM hK hMS hS) (va_recv hK (hM.Pa hR.o.1 rfl hR.o.2) (ci := 13) (q0 := 0) rfl rfl) rfl hl.1 rfl (Nat.le_of_ble_eq_true rfl) dX12_source_4 ⟨Nat.le_of_ble_eq_true rfl, Nat.le_of_ble_eq_true rfl⟩ (fun r_1 hr_1 => ?_)
  subst hr_1
  refine lv_if_ne (tgt := 20) hx hb dX12_source_7 (by decide) (fun c_2 => ?_) (fun c_2 => ?_)
  · have c_2 := bI_t c_2
    simp only [c_2, Bool.not_true, Bool.not_false, Bool.and_true, Bool.true_and, Bool.and_false, Bool.false_and, Bool.or_true, Bool.true_or, Bool.or_false, Bool.false_or, Bool.and_self, Bool.or_self, Bool.true_eq_false, Bool.false_eq_true] at h1
  · have c_2 := bI_f c_2
    refine lv_aload_n hx hb dX12_source_10 rfl (lv_at hl 0 rfl) ?_
    refine lv_iload_n hx hb dX12_source_11 rfl (lv_at hl 3 rfl) ?_
    refine lv_iload hx hb dX12_source_12 (lv_at hl 4 rfl) ?_
    refine zcVi (As := [.int (nI i2), .int (nI f2)]) (rest := [.ref (ma 0 0)]) ⟨hx, hb, hml, hown, hts⟩ (c_X12_isNoField l D ty A u C ma t0 mi g n1 n2 nL n4 n5 th rep bro hR (nI i2) (nI f2)) (cwV 2 hts gX12_source_X12_isNoField rfl rfl rfl (by decide +kernel) ⟨Nat.le_of_ble_eq_true rfl, Nat.le_of_ble_eq_true rfl⟩) mI_blind (mI_pre hM hK hMS hS) (va_recv hK (hM.Pa hR.o.1 rfl hR.o.2) (ci := 13) (q0 := 0) rfl rfl) rfl hl.1 rfl (Nat.le_of_ble_eq_true rfl) dX12_source_14 ⟨Nat.le_of_ble_eq_true rfl, Nat.le_of_ble_eq_true rfl⟩ (fun r_3 hr_3 => ?_)
    subst hr_3
    refine lv_if_eq (tgt := 24) hx hb dX12_source_17 (by decide) (fun c_4 => ?_) (fun c_4 => ?_)
    · have c_4 := bI_f c_4
      refine lv_iconst (v := nI 0) hx hb dX12_source_24 (by decide) ?_
      refine zeq (show nI 0 = bI false from rfl) ?_
      refine lv_iconst (v := nI 1) hx hb dX12_source_25 (by decide) ?_
      refine va_calli (va_runV (As := [.int (bI false), .int (nI 1)]) (rest := []) ⟨hx, hb, hml, hown, hts⟩ (c_X12_start_f l D ty A u C ma t0 mi g n1 n2 nL n4 n5 th rep bro hR 1 (by omega) (by omega)) (cwV 2 hts gX12_source_X12_start rfl rfl rfl (by decide +kernel) ⟨Nat.le_of_ble_eq_true rfl, Nat.le_of_ble_eq_true rfl⟩) ⟨zBl mI_blind, (va_recv hK (hM.Pa hR.o.1 rfl hR.o.2) (ci := 13) (q0 := 0) rfl rfl), fun U h1 h2 => ⟨rfl, mI_pre hM hK hMS hS U h1 h2⟩⟩ rfl rfl hl.1 rfl (lv_room (Nat.le_of_ble_eq_true rfl)) dX12_source_26 ⟨Nat.le_of_ble_eq_true rfl, Nat.le_of_ble_eq_true rfl⟩) hS (fun _ _ h => h) (fun _ h => h) (fun r_6 C_5 t H1 locs ht hvm hw hB9 hz1 hk1 hS => ?_)
      obtain ⟨hr_6, hR_7⟩ := hw
      obtain ⟨hM, -, -⟩ := hB9
      rw [ht] at hM
      clear hk1 hz1 hvm ht
      clear t
      generalize H1 = H at hM hS ⊢
      subst hr_6
      refine lv_if_ne (tgt := 61) hx hb dX12_source_29 (by decide) (fun c_8 => ?_) (fun c_8 => ?_)
      · have c_8 := bI_t c_8
        cases c_8
      · have c_8 := bI_f c_8
        refine lv_aload_n hx hb dX12_source_32 rfl (lv_at hl 0 rfl) ?_
        refine lv_iload_n hx hb dX12_source_33 rfl (lv_at hl 3 rfl) ?_
        refine lv_iload_n hx hb dX12_source_34 rfl (lv_at hl 1 rfl) ?_
        refine lv_icmp_ge (tgt := 49) hx hb dX12_source_35 (by decide) (fun c_9 => ?_) (fun c_9 => ?_)
        · have c_9 := zn_geT (a := i2) (b := i) (by omega) (by omega) c_9
          omega
        · have c_9 := zn_geF (a := i2) (b := i) (by omega) (by omega) c_9
          refine lv_iload hx hb dX12_source_38 (lv_at hl 5 rfl) ?_
          refine lv_iconst (v := nI 1) hx hb dX12_source_40 (by decide) ?_
          refine lv_bipush (v := nI 100) hx hb dX12_source_41 (by decide) ?_
          refine zcSi (As := [.int sh, .int (nI 1), .int (nI 100)]) (rest := [.ref (ma 0 0)]) ⟨hx, hb, hml, hown, hts⟩ (c_X12_isIn l _ sh (nI 1) (nI 100)) (cwS 3 hts gX12_source_X12_isIn rfl rfl rfl (by decide +kernel) ⟨Nat.le_of_ble_eq_true rfl, Nat.le_of_ble_eq_true rfl⟩) (B := fun _ => True) (fun _ _ _ _ _ => trivial) (fun _ _ _ => trivial) rfl hl.1 rfl (Nat.le_of_ble_eq_true rfl) dX12_source_43 ⟨Nat.le_of_ble_eq_true rfl, Nat.le_of_ble_eq_true rfl⟩ (fun r_10 hr_10 => ?_)
          subst hr_10
          refine lv_if_ne (tgt := 53) hx hb dX12_source_46 (by decide) (fun c_11 => ?_) (fun c_11 => ?_)
          · have c_11 := bI_t c_11
            refine lv_iconst (v := nI 0) hx hb dX12_source_53 (by decide) ?_
            refine zeq (show nI 0 = bI false from rfl) ?_
            refine lv_iconst (v := nI 2) hx hb dX12_source_54 (by decide) ?_
            refine zcVi (As := [.int (bI false), .int (nI 2)]) (rest := []) ⟨hx, hb, hml, hown, hts⟩ (c_X12_refuse_f l D ty A u C_5 ma t0 mi g n1 n2 nL n4 n5 (nI 0) rep bro hR_7 rfl (nI 2)) (cwV 2 hts gX12_source_X12_refuse rfl rfl rfl (by decide +kernel) ⟨Nat.le_of_ble_eq_true rfl, Nat.le_of_ble_eq_true rfl⟩) mI_blind (mI_pre hM hK hMS hS) (va_recv hK (hM.Pa hR_7.o.1 rfl hR_7.o.2) (ci := 13) (q0 := 0) rfl rfl) rfl hl.1 rfl (Nat.le_of_ble_eq_true rfl) dX12_source_55 ⟨Nat.le_of_ble_eq_true rfl, Nat.le_of_ble_eq_true rfl⟩ (fun r_12 hr_12 => ?_)
            subst hr_12
            refine lv_if_eq (tgt := 63) hx hb dX12_source_58 (by decide) (fun c_13 => ?_) (fun c_13 => ?_)
            · have c_13 := bI_f c_13
              refine lv_aload_n hx hb dX12_source_63 rfl (lv_at hl 0 rfl) ?_
              refine lv_iload_n hx hb dX12_source_64 rfl (lv_at hl 1 rfl) ?_
              refine lv_iload_n hx hb dX12_source_65 rfl (lv_at hl 2 rfl) ?_
              refine lv_iload_n hx hb dX12_source_66 rfl (lv_at hl 3 rfl) ?_
              refine lv_iload hx hb dX12_source_67 (lv_at hl 4 rfl) ?_
              refine zcVr (x := .null) (As := [.int (nI i), .int (nI f), .int (nI i2), .int (nI f2)]) (rest := []) ⟨hx, hb, hml, hown, hts⟩ (c_X12_sourceOf_n l D ty A u C_5 ma t0 mi g n1 n2 nL n4 n5 (nI 0) rep bro hR_7 i f i2 f2 (by omega) (by omega) (by omega) (by omega) hj2) (cwV 4 hts gX12_source_X12_sourceOf rfl rfl rfl (by decide +kernel) ⟨Nat.le_of_ble_eq_true rfl, Nat.le_of_ble_eq_true rfl⟩) mI_blind (mI_pre hM hK hMS hS) (va_recv hK (hM.Pa hR_7.o.1 rfl hR_7.o.2) (ci := 13) (q0 := 0) rfl rfl) rfl hl.1 rfl (Nat.le_of_ble_eq_true rfl) dX12_source_69 ⟨Nat.le_of_ble_eq_true rfl, Nat.le_of_ble_eq_true rfl⟩ ?_
              refine lv_astoreN (lv' := [(6, .null), (0, .ref (ma 0 0)), (1, .int (nI i)), (2, .int (nI f)), (3, .int (nI i2)), (4, .int (nI f2)), (5, .int sh)]) hx hb dX12_source_72 hl (by decide) rfl (fun ls hl => ?_)
              refine lv_aload_n hx hb dX12_source_74 rfl (lv_at hl 1 rfl) ?_
              refine lv_aloadN hx hb dX12_source_75 (lv_at hl 0 rfl) ?_
              refine lv_ifnonnullN hx hb dX12_source_77 ?_
              refine lv_aload_n hx hb dX12_source_80 rfl (lv_at hl 1 rfl) ?_
              refine va_get hx hb hts hinX12 hown hK (hM.Pa hR_7.o.1 rfl hR_7.o.2) 0 rfl rfl 2 (by decide) (hk1) (fun _ h9 => h9) rfl dX12_source_81 ?_
              obtain ⟨huz_15, hnz_15, mz_15, bz_15, hCz_15⟩ := isL.hd hR_7.l3
              refine zcVi (As := []) (rest := [.ref (ma 0 0)]) ⟨hx, hb, hml, hown, hts⟩ (c_size l D ty A u C_5 ma t0 mi 3 0 n2 (ma 24) hR_7.l3) (cwV 0 hts gX12_source_Jx4a65c_size_8abf5 rfl rfl rfl (by decide +kernel) ⟨Nat.le_of_ble_eq_true rfl, Nat.le_of_ble_eq_true rfl⟩) mI_blind (mI_pre hM hK hMS hS) (va_recv hK (hM.Pa huz_15 rfl hCz_15) (ci := 0) (q0 := 0) rfl rfl) rfl hl.1 rfl (Nat.le_of_ble_eq_true rfl) dX12_source_84 ⟨Nat.le_of_ble_eq_true rfl, Nat.le_of_ble_eq_true rfl⟩ (fun r_16 hr_16 => ?_)
              subst hr_16
              refine lv_bipush (v := nI 20) hx hb dX12_source_87 (by decide) ?_
              refine lv_icmp_ne (tgt := 96) hx hb dX12_source_89 (by decide) (fun c_17 => ?_) (fun c_17 => ?_)
              · have c_17 := zn_neT (a := n2) (b := 20) (by omega) (by omega) c_17
                omega
              · have c_17 := zn_neF (a := n2) (b := 20) (by omega) (by omega) c_17
                refine lv_iconst (v := nI 1) hx hb dX12_source_92 (by decide) ?_
                refine zeq (show nI 1 = bI true from rfl) ?_
                refine lv_goto (tgt := 97) hx hb dX12_source_93 (by decide) ?_
                refine lv_iconst (v := nI 3) hx hb dX12_source_97 (by decide) ?_
                refine va_calli (va_runV (As := [.int (bI true), .int (nI 3)]) (rest := []) ⟨hx, hb, hml, hown, hts⟩ (c_X12_refuse_t l D ty A u C_5 ma t0 mi g n1 n2 nL n4 n5 (nI 0) rep bro hR_7 rfl 3 (by omega) (by omega)) (cwV 2 hts gX12_source_X12_refuse rfl rfl rfl (by decide +kernel) ⟨Nat.le_of_ble_eq_true rfl, Nat.le_of_ble_eq_true rfl⟩) ⟨zBl mI_blind, (va_recv hK (hM.Pa hR_7.o.1 rfl hR_7.o.2) (ci := 13) (q0 := 0) rfl rfl), fun U h1 h2 => ⟨rfl, mI_pre hM hK hMS hS U h1 h2⟩⟩ rfl rfl hl.1 rfl (lv_room (Nat.le_of_ble_eq_true rfl)) dX12_source_98 ⟨Nat.le_of_ble_eq_true rfl, Nat.le_of_ble_eq_true rfl⟩) hS (fun _ _ h => h) (fun _ h => h) (fun r_19 C_18 t H1 locs ht hvm hw hB9 hz1 hk1 hS => ?_)
                obtain ⟨hr_19, hR_20⟩ := hw
                obtain ⟨hM, -, -⟩ := hB9
                rw [ht] at hM
                clear hk1 hz1 hvm ht
                clear t
                generalize H1 = H at hM hS ⊢
                subst hr_19
                refine lv_if_eq (tgt := 106) hx hb dX12_source_101 (by decide) (fun c_21 => ?_) (fun c_21 => ?_)
                · have c_21 := bI_f c_21
                  cases c_21
                · have c_21 := bI_t c_21
                  refine lv_iconst (v := nI 0) hx hb dX12_source_104 (by decide) ?_
                  exact W.iret (v := nI 0) hx hb hr (fun t ht hW => ⟨⟨_, C_18, rfl, ⟨rfl, hR_20⟩, mI_pre hM hK hMS hS t ht hW⟩, hS.F ht⟩) hS.2.2 dX12_source_105
            · have c_13 := bI_t c_13
              cases c_13
          · have c_11 := bI_f c_11
            simp only [c_2, c_4, c_8, c_11, Bool.not_true, Bool.not_false, Bool.and_true, Bool.true_and, Bool.and_false, Bool.false_and, Bool.or_true, Bool.true_or, Bool.or_false, Bool.false_or, Bool.and_self, Bool.or_self, Bool.true_eq_false, Bool.false_eq_true] at h2
    · have c_4 := bI_t c_4
      simp only [c_2, c_4, Bool.not_true, Bool.not_false, Bool.and_true, Bool.true_and, Bool.and_false, Bool.false_and, Bool.or_true, Bool.true_or, Bool.or_false, Bool.false_or, Bool.and_self, Bool.or_self, Bool.true_eq_false, Bool.false_eq_true] at h1
set_option maxHeartbeats 1000000 in
set_option maxRecDepth 100000 in
theorem m_source_n (l : Launch) (D : va_G) (ty : Nat → ClassId) (A : Nat → Prop) (u : Nat → Nat → Prop) (C : Nat → Nat → va_E) (ma : Nat → Nat → Nat) (t0 mi : Nat) (g : Nat → Nat → Int32) (n1 n2 nL n4 n5 : Nat) (th : Int32) (rep bro : Nat → Nat → Int32) (hR : mR ty t0 g n1 n2 nL n4 n5 th rep bro u C ma) (i f i2 f2 : Nat) (hi : i < n1) (hf : f < nF g i) (hii : i2 < i) (hf2 : f2 < nF g i2) (sh : Int32) (hs1 : ¬ sh < nI 1) (hs2 : ¬ nI 100 < sh) (hn20 : n2 < 20) (hj2 : ∀ j, j < n2 → ¬ (g 12 j = nI (i * 6 + f) ∧ g 13 j = nI (i2 * 6 + f2))) : Met l yX12_source wsX12_source ({ frames := 7, cells := 2, slots := 65, locals := 215 }) (va_Pc [.ref (ma 0 0), .int (nI i), .int (nI f), .int (nI i2), .int (nI f2), .int sh] (mI D ty A u C ma t0 mi)) (va_Qi (fun (v9 : Int32) (S : mSt) => v9 = sumN (fSrc (srcG g n2 (i * 6 + f) (i2 * 6 + f2) sh) (i * 6 + f)) (n2 + 1) ∧ S.2.2 0 0 = ma 0 0 ∧ mR ty t0 (srcG g n2 (i * 6 + f) (i2 * 6 + f2) sh) n1 (n2 + 1) nL n4 n5 (nI 0) rep bro S.1 S.2.1 S.2.2) (fun S t => mI D ty A S.1 S.2.1 S.2.2 t0 mi t) A) 2 65 A := by
  refine zMet (cc := cX12_source) (maxL := 9) (ret := (some .int)) (by decide) rfl (Nat.le_of_ble_eq_true rfl) ?_
  intro p e s m below meth c hx hb hr hts hown hlocks hml hB ls hl
  obtain ⟨hM, hK, hMS⟩ := hB
  have hS : va_S A s.heap s.heap [] := va_S.rf
  have hbn := hR.I.b1
  have hbs := hR.I.b2
  have hbl := hR.I.bL
  have hbc := hR.I.b4
  have hbr := hR.I.b5
  have hf7 := (hR.I.f7 hi).2.2
  have hf72 := (hR.I.f7 (show i2 < n1 by omega)).2.2
  have h1 : (bFld g n1 (nI i) (nI f) || bFld g n1 (nI i2) (nI f2)) = false := by rw [bFld_ok hR.I hi hf, bFld_ok hR.I (by omega) hf2]; rfl
  have h2 : (!inB sh (nI 1) (nI 100)) = false := by rw [inB_r hs1 hs2]; rfl
  have hl : lv_has ls 9 [(0, .ref (ma 0 0)), (1, .int (nI i)), (2, .int (nI f)), (3, .int (nI i2)), (4, .int (nI f2)), (5, .int sh)] := hl
  have hinX12 : ∀ w ∈ wsX120, w ∈ wsX12_source := by decide +kernel
  have hk1 := hts (.fieldLink RX12 16 "DatamarketDeskModel" "sources" "Ljava/util/ArrayList;") (by decide +kernel)
  have hinX10 : ∀ w ∈ wsX100, w ∈ wsX12_source := by decide +kernel
  have hk3 := hts (.fieldLink RX12 137 "DatamarketDeskModel$Source" "share" "I") (by decide +kernel)
  have hk4 := hts (.classLink RX12 120 "DatamarketDeskModel$Source") (by decide +kernel)
  have hk5 := hts (.fieldLink RX12 122 "DatamarketDeskModel$Source" "set" "I") (by decide +kernel)
  have hk6 := hts (.fieldLink RX12 123 "DatamarketDeskModel$Source" "field" "I") (by decide +kernel)
  refine lv_aload_n hx hb dX12_source_0 rfl (lv_at hl 0 rfl) ?_
  refine lv_aload_n hx hb dX12_source_1 rfl (lv_at hl 0 rfl) ?_
  refine lv_iload_n hx hb dX12_source_2 rfl (lv_at hl 1 rfl) ?_
  refine lv_iload_n hx hb dX12_source_3 rfl (lv_at hl 2 rfl) ?_
  refine zcVi (As := [.int (nI i), .int (nI f)]) (rest := [.ref (ma 0 0)]) ⟨hx, hb, hml, hown, hts⟩ (c_X12_isNoField l D ty A u C ma t0 mi g n1 n2 nL n4 n5 th rep bro hR (nI i) (nI f)) (cwV 2 hts gX12_source_X12_isNoField rfl rfl rfl (by decide +kernel) ⟨Nat.le_of_ble_eq_true rfl, Nat.le_of_ble_eq_true rfl⟩) mI_blind (mI_pre hM hK hMS hS) (va_recv hK (hM.Pa hR.o.1 rfl hR.o.2) (ci := 13) (q0 := 0) rfl rfl) rfl hl.1 rfl (Nat.le_of_ble_eq_true rfl) dX12_source_4 ⟨Nat.le_of_ble_eq_true rfl, Nat.le_of_ble_eq_true rfl⟩ (fun r_1 hr_1 => ?_)
  subst hr_1
  refine lv_if_ne (tgt := 20) hx hb dX12_source_7 (by decide) (fun c_2 => ?_) (fun c_2 => ?_)
  · have c_2 := bI_t c_2
    simp only [c_2, Bool.not_true, Bool.not_false, Bool.and_true, Bool.true_and, Bool.and_false, Bool.false_and, Bool.or_true, Bool.true_or, Bool.or_false, Bool.false_or, Bool.and_self, Bool.or_self, Bool.true_eq_false, Bool.false_eq_true] at h1
  · have c_2 := bI_f c_2
    refine lv_aload_n hx hb dX12_source_10 rfl (lv_at hl 0 rfl) ?_
    refine lv_iload_n hx hb dX12_source_11 rfl (lv_at hl 3 rfl) ?_
    refine lv_iload hx hb dX12_source_12 (lv_at hl 4 rfl) ?_
    refine zcVi (As := [.int (nI i2), .int (nI f2)]) (rest := [.ref (ma 0 0)]) ⟨hx, hb, hml, hown, hts⟩ (c_X12_isNoField l D ty A u C ma t0 mi g n1 n2 nL n4 n5 th rep bro hR (nI i2) (nI f2)) (cwV 2 hts gX12_source_X12_isNoField rfl rfl rfl (by decide +kernel) ⟨Nat.le_of_ble_eq_true rfl, Nat.le_of_ble_eq_true rfl⟩) mI_blind (mI_pre hM hK hMS hS) (va_recv hK (hM.Pa hR.o.1 rfl hR.o.2) (ci := 13) (q0 := 0) rfl rfl) rfl hl.1 rfl (Nat.le_of_ble_eq_true rfl) dX12_source_14 ⟨Nat.le_of_ble_eq_true rfl, Nat.le_of_ble_eq_true rfl⟩ (fun r_3 hr_3 => ?_)
    subst hr_3
    refine lv_if_eq (tgt := 24) hx hb dX12_source_17 (by decide) (fun c_4 => ?_) (fun c_4 => ?_)
    · have c_4 := bI_f c_4
      refine lv_iconst (v := nI 0) hx hb dX12_source_24 (by decide) ?_
      refine zeq (show nI 0 = bI false from rfl) ?_
      refine lv_iconst (v := nI 1) hx hb dX12_source_25 (by decide) ?_
      refine va_calli (va_runV (As := [.int (bI false), .int (nI 1)]) (rest := []) ⟨hx, hb, hml, hown, hts⟩ (c_X12_start_f l D ty A u C ma t0 mi g n1 n2 nL n4 n5 th rep bro hR 1 (by omega) (by omega)) (cwV 2 hts gX12_source_X12_start rfl rfl rfl (by decide +kernel) ⟨Nat.le_of_ble_eq_true rfl, Nat.le_of_ble_eq_true rfl⟩) ⟨zBl mI_blind, (va_recv hK (hM.Pa hR.o.1 rfl hR.o.2) (ci := 13) (q0 := 0) rfl rfl), fun U h1 h2 => ⟨rfl, mI_pre hM hK hMS hS U h1 h2⟩⟩ rfl rfl hl.1 rfl (lv_room (Nat.le_of_ble_eq_true rfl)) dX12_source_26 ⟨Nat.le_of_ble_eq_true rfl, Nat.le_of_ble_eq_true rfl⟩) hS (fun _ _ h => h) (fun _ h => h) (fun r_6 C_5 t H1 locs ht hvm hw hB9 hz1 hk1 hS => ?_)
      obtain ⟨hr_6, hR_7⟩ := hw
      obtain ⟨hM, -, -⟩ := hB9
      rw [ht] at hM
      clear hk1 hz1 hvm ht
      clear t
      generalize H1 = H at hM hS ⊢
      subst hr_6
      refine lv_if_ne (tgt := 61) hx hb dX12_source_29 (by decide) (fun c_8 => ?_) (fun c_8 => ?_)
      · have c_8 := bI_t c_8
        cases c_8
      · have c_8 := bI_f c_8
        refine lv_aload_n hx hb dX12_source_32 rfl (lv_at hl 0 rfl) ?_
        refine lv_iload_n hx hb dX12_source_33 rfl (lv_at hl 3 rfl) ?_
        refine lv_iload_n hx hb dX12_source_34 rfl (lv_at hl 1 rfl) ?_
        refine lv_icmp_ge (tgt := 49) hx hb dX12_source_35 (by decide) (fun c_9 => ?_) (fun c_9 => ?_)
        · have c_9 := zn_geT (a := i2) (b := i) (by omega) (by omega) c_9
          omega
        · have c_9 := zn_geF (a := i2) (b := i) (by omega) (by omega) c_9
          refine lv_iload hx hb dX12_source_38 (lv_at hl 5 rfl) ?_
          refine lv_iconst (v := nI 1) hx hb dX12_source_40 (by decide) ?_
          refine lv_bipush (v := nI 100) hx hb dX12_source_41 (by decide) ?_
          refine zcSi (As := [.int sh, .int (nI 1), .int (nI 100)]) (rest := [.ref (ma 0 0)]) ⟨hx, hb, hml, hown, hts⟩ (c_X12_isIn l _ sh (nI 1) (nI 100)) (cwS 3 hts gX12_source_X12_isIn rfl rfl rfl (by decide +kernel) ⟨Nat.le_of_ble_eq_true rfl, Nat.le_of_ble_eq_true rfl⟩) (B := fun _ => True) (fun _ _ _ _ _ => trivial) (fun _ _ _ => trivial) rfl hl.1 rfl (Nat.le_of_ble_eq_true rfl) dX12_source_43 ⟨Nat.le_of_ble_eq_true rfl, Nat.le_of_ble_eq_true rfl⟩ (fun r_10 hr_10 => ?_)
          subst hr_10
          refine lv_if_ne (tgt := 53) hx hb dX12_source_46 (by decide) (fun c_11 => ?_) (fun c_11 => ?_)
          · have c_11 := bI_t c_11
            refine lv_iconst (v := nI 0) hx hb dX12_source_53 (by decide) ?_
            refine zeq (show nI 0 = bI false from rfl) ?_
            refine lv_iconst (v := nI 2) hx hb dX12_source_54 (by decide) ?_
            refine zcVi (As := [.int (bI false), .int (nI 2)]) (rest := []) ⟨hx, hb, hml, hown, hts⟩ (c_X12_refuse_f l D ty A u C_5 ma t0 mi g n1 n2 nL n4 n5 (nI 0) rep bro hR_7 rfl (nI 2)) (cwV 2 hts gX12_source_X12_refuse rfl rfl rfl (by decide +kernel) ⟨Nat.le_of_ble_eq_true rfl, Nat.le_of_ble_eq_true rfl⟩) mI_blind (mI_pre hM hK hMS hS) (va_recv hK (hM.Pa hR_7.o.1 rfl hR_7.o.2) (ci := 13) (q0 := 0) rfl rfl) rfl hl.1 rfl (Nat.le_of_ble_eq_true rfl) dX12_source_55 ⟨Nat.le_of_ble_eq_true rfl, Nat.le_of_ble_eq_true rfl⟩ (fun r_12 hr_12 => ?_)
            subst hr_12
            refine lv_if_eq (tgt := 63) hx hb dX12_source_58 (by decide) (fun c_13 => ?_) (fun c_13 => ?_)
            · have c_13 := bI_f c_13
              refine lv_aload_n hx hb dX12_source_63 rfl (lv_at hl 0 rfl) ?_
              refine lv_iload_n hx hb dX12_source_64 rfl (lv_at hl 1 rfl) ?_
              refine lv_iload_n hx hb dX12_source_65 rfl (lv_at hl 2 rfl) ?_
              refine lv_iload_n hx hb dX12_source_66 rfl (lv_at hl 3 rfl) ?_
              refine lv_iload hx hb dX12_source_67 (lv_at hl 4 rfl) ?_
              refine zcVr (x := .null) (As := [.int (nI i), .int (nI f), .int (nI i2), .int (nI f2)]) (rest := []) ⟨hx, hb, hml, hown, hts⟩ (c_X12_sourceOf_n l D ty A u C_5 ma t0 mi g n1 n2 nL n4 n5 (nI 0) rep bro hR_7 i f i2 f2 (by omega) (by omega) (by omega) (by omega) hj2) (cwV 4 hts gX12_source_X12_sourceOf rfl rfl rfl (by decide +kernel) ⟨Nat.le_of_ble_eq_true rfl, Nat.le_of_ble_eq_true rfl⟩) mI_blind (mI_pre hM hK hMS hS) (va_recv hK (hM.Pa hR_7.o.1 rfl hR_7.o.2) (ci := 13) (q0 := 0) rfl rfl) rfl hl.1 rfl (Nat.le_of_ble_eq_true rfl) dX12_source_69 ⟨Nat.le_of_ble_eq_true rfl, Nat.le_of_ble_eq_true rfl⟩ ?_
              refine lv_astoreN (lv' := [(6, .null), (0, .ref (ma 0 0)), (1, .int (nI i)), (2, .int (nI f)), (3, .int (nI i2)), (4, .int (nI f2)), (5, .int sh)]) hx hb dX12_source_72 hl (by decide) rfl (fun ls hl => ?_)
              refine lv_aload_n hx hb dX12_source_74 rfl (lv_at hl 1 rfl) ?_
              refine lv_aloadN hx hb dX12_source_75 (lv_at hl 0 rfl) ?_
              refine lv_ifnonnullN hx hb dX12_source_77 ?_
              refine lv_aload_n hx hb dX12_source_80 rfl (lv_at hl 1 rfl) ?_
              refine va_get hx hb hts hinX12 hown hK (hM.Pa hR_7.o.1 rfl hR_7.o.2) 0 rfl rfl 2 (by decide) (hk1) (fun _ h9 => h9) rfl dX12_source_81 ?_
              obtain ⟨huz_15, hnz_15, mz_15, bz_15, hCz_15⟩ := isL.hd hR_7.l3
              refine zcVi (As := []) (rest := [.ref (ma 0 0)]) ⟨hx, hb, hml, hown, hts⟩ (c_size l D ty A u C_5 ma t0 mi 3 0 n2 (ma 24) hR_7.l3) (cwV 0 hts gX12_source_Jx4a65c_size_8abf5 rfl rfl rfl (by decide +kernel) ⟨Nat.le_of_ble_eq_true rfl, Nat.le_of_ble_eq_true rfl⟩) mI_blind (mI_pre hM hK hMS hS) (va_recv hK (hM.Pa huz_15 rfl hCz_15) (ci := 0) (q0 := 0) rfl rfl) rfl hl.1 rfl (Nat.le_of_ble_eq_true rfl) dX12_source_84 ⟨Nat.le_of_ble_eq_true rfl, Nat.le_of_ble_eq_true rfl⟩ (fun r_16 hr_16 => ?_)
              subst hr_16
              refine lv_bipush (v := nI 20) hx hb dX12_source_87 (by decide) ?_
              refine lv_icmp_ne (tgt := 96) hx hb dX12_source_89 (by decide) (fun c_17 => ?_) (fun c_17 => ?_)
              · have c_17 := zn_neT (a := n2) (b := 20) (by omega) (by omega) c_17
                refine lv_iconst (v := nI 0) hx hb dX12_source_96 (by decide) ?_
                refine zeq (show nI 0 = bI false from rfl) ?_
                refine lv_iconst (v := nI 3) hx hb dX12_source_97 (by decide) ?_
                refine zcVi (As := [.int (bI false), .int (nI 3)]) (rest := []) ⟨hx, hb, hml, hown, hts⟩ (c_X12_refuse_f l D ty A u C_5 ma t0 mi g n1 n2 nL n4 n5 (nI 0) rep bro hR_7 rfl (nI 3)) (cwV 2 hts gX12_source_X12_refuse rfl rfl rfl (by decide +kernel) ⟨Nat.le_of_ble_eq_true rfl, Nat.le_of_ble_eq_true rfl⟩) mI_blind (mI_pre hM hK hMS hS) (va_recv hK (hM.Pa hR_7.o.1 rfl hR_7.o.2) (ci := 13) (q0 := 0) rfl rfl) rfl hl.1 rfl (Nat.le_of_ble_eq_true rfl) dX12_source_98 ⟨Nat.le_of_ble_eq_true rfl, Nat.le_of_ble_eq_true rfl⟩ (fun r_18 hr_18 => ?_)
                subst hr_18
                refine lv_if_eq (tgt := 106) hx hb dX12_source_101 (by decide) (fun c_19 => ?_) (fun c_19 => ?_)
                · have c_19 := bI_f c_19
                  refine lv_aloadN hx hb dX12_source_106 (lv_at hl 0 rfl) ?_
                  refine lv_ifnonnullN hx hb dX12_source_108 ?_
                  refine mnew (Cn := RX10) (T := TX10) (N := 5) (ci := 11) (fs := [.int 0, .int 0, .int 0, .int 0, .int 0]) hx hb hts hinX10 tyX10 tyX10_ok hown (hts (.classLink RX12 120 RX10) (by decide +kernel)) (hts (.instantiable RX10 5) (by decide +kernel)) (hts (.initialized RX10) (by decide +kernel)) hK hM hS 24 n2 rfl (fun j hj => by rcases (show j = 0 ∨ j = 1 ∨ j = 2 ∨ j = 3 ∨ j = 4 by omega) with rfl | rfl | rfl | rfl | rfl <;> rfl) (Nat.le_of_ble_eq_true rfl) (Nat.le_of_ble_eq_true rfl) dX12_source_111 (fun H1 hM hS _ _ => ?_)
                  generalize hq9 : Array.size H = q_20 at hM ⊢
                  clear hq9
                  generalize H1 = H at hM hS ⊢
                  obtain ⟨u_21, eu_21⟩ : ∃ z, z = upU u 24 n2 := ⟨_, rfl⟩
                  obtain ⟨C_22, eC_22⟩ : ∃ z, z = up2 C_5 24 n2 (eO 11 [.int 0, .int 0, .int 0, .int 0, .int 0]) := ⟨_, rfl⟩
                  obtain ⟨ma_23, ema_23⟩ : ∃ z, z = up2 ma 24 n2 q_20 := ⟨_, rfl⟩
                  have hM : mW D A u_21 C_22 ma_23 H := by rw [eu_21, eC_22, ema_23]; exact hM
                  have hu_24 : u_21 24 n2 := by rw [eu_21]; exact upU_s
                  have hC_25 : C_22 24 n2 = eO 11 [.int 0, .int 0, .int 0, .int 0, .int 0] := by rw [eC_22]; exact up2_s _ _ _ _
                  have ha_26 : ma_23 24 n2 = q_20 := by rw [ema_23]; exact up2_s _ _ _ _
                  have hR_27 : mR ty t0 g n1 n2 nL n4 n5 (nI 0) rep bro u_21 C_22 ma_23 := hR_7.ext (fun k9 x9 hm hu => ⟨by rw [eu_21]; exact upU_o hu, by rw [eC_22]; exact up2_n _ _ (fun z => by unfold mU at hm; omega), by rw [ema_23]; exact up2_n _ _ (fun z => by unfold mU at hm; omega)⟩)
                  have hg_29 : ∀ k9 x9, mU g n1 n2 nL n4 n5 k9 x9 → (k9 ≠ 2 ∧ k9 ≠ 4 ∧ k9 ≠ 6 ∧ k9 ≠ 8) → ma_23 k9 x9 = ma k9 x9 := fun k9 x9 hm hn => by rw [ema_23, up2_n _ _ (fun z => by unfold mU at hm; omega)]
                  refine lv_dup hx hb dX12_source_114 rfl ?_
                  refine lv_iload_n hx hb dX12_source_115 rfl (lv_at hl 2 rfl) ?_
                  refine lv_iload_n hx hb dX12_source_116 rfl (lv_at hl 3 rfl) ?_
                  refine lv_iload_n hx hb dX12_source_117 rfl (lv_at hl 4 rfl) ?_
                  refine lv_iload hx hb dX12_source_118 (lv_at hl 5 rfl) ?_
                  have h_31 := c_X10_init l D ty A u_21 C_22 ma_23 t0 mi 24 n2 hu_24 hC_25 (nI i) (nI f) (nI i2) (nI f2)
                  first | dsimp only at h_31 | skip
                  rw [(show ma_23 24 n2 = q_20 from ha_26)] at h_31
                  refine va_callv (va_runI (As := [.int (nI i), .int (nI f), .int (nI i2), .int (nI f2)]) (rest := [.ref q_20]) ⟨hx, hb, hml, hown, hts⟩ (h_31) (cwI 4 hts gX12_source_X10_init rfl rfl rfl (hts (.initialized RX10) (by decide +kernel)) (hts (.methodLink RX12 134 yX10_init) (by decide +kernel)) (hts (.instanceMethod yX10_init) (by decide +kernel)) rfl (by decide +kernel) ⟨Nat.le_of_ble_eq_true rfl, Nat.le_of_ble_eq_true rfl⟩) ⟨zBl mI_blind, fun U h1 h2 => ⟨rfl, mI_pre hM hK hMS hS U h1 h2⟩⟩ rfl rfl hl.1 rfl (lv_room (Nat.le_of_ble_eq_true rfl)) dX12_source_120 ⟨Nat.le_of_ble_eq_true rfl, Nat.le_of_ble_eq_true rfl⟩) hS (fun _ _ h => h) (fun _ h => h) (fun Z_30 t H1 locs ht hvm hw hB9 hz1 hk1 hS => ?_)
                  obtain ⟨hM, -, -⟩ := hB9
                  rw [ht] at hM
                  clear hk1 hz1 hvm ht
                  clear t
                  generalize H1 = H at hM hS ⊢
                  rw [hw] at hM
                  clear hw
                  obtain ⟨C_32, eC_32⟩ : ∃ z, z = up2 C_22 24 n2 (eO 11 [.int (nI i), .int (nI f), .int (nI i2), .int (nI f2), .int 0]) := ⟨_, rfl⟩
                  have hM : mW D A u_21 C_32 ma_23 H := by rw [eC_32]; exact hM
                  have hC_33 : C_32 24 n2 = eO 11 [.int (nI i), .int (nI f), .int (nI i2), .int (nI f2), .int 0] := by rw [eC_32]; exact up2_s _ _ _ _
                  have hR_34 : mR ty t0 g n1 n2 nL n4 n5 (nI 0) rep bro u_21 C_32 ma_23 := hR_27.ext (fun k9 x9 hm hu => ⟨hu, by rw [eC_32]; exact up2_n _ _ (fun z => by unfold mU at hm; omega), rfl⟩)
                  refine lv_astore (lv' := [(6, .ref q_20), (0, .ref (ma 0 0)), (1, .int (nI i)), (2, .int (nI f)), (3, .int (nI i2)), (4, .int (nI f2)), (5, .int sh)]) hx hb dX12_source_123 hl (by decide) rfl (fun ls hl => ?_)
                  refine lv_aload_n hx hb dX12_source_125 rfl (lv_at hl 1 rfl) ?_
                  refine va_get hx hb hts hinX12 hown hK (hM.Pa hR_34.o.1 (hg_29 0 0 (by unfold mU; omega) (by decide)) hR_34.o.2) 0 rfl rfl 2 (by decide) (hk1) (fun _ h9 => h9) rfl dX12_source_126 ?_
                  refine zeqv (y := .ref (ma 3 0)) (congrArg Value.ref (hg_29 3 0 (by unfold mU; omega) (by decide))) ?_
                  refine lv_aload hx hb dX12_source_129 (lv_at hl 0 rfl) ?_
                  obtain ⟨huz_38, hnz_38, mz_38, bz_38, hCz_38⟩ := isL.hd hR_34.l3
                  have h_39 := c_add l D ty A u_21 C_32 ma_23 t0 mi 3 0 n2 (ma_23 24) hR_34.l3 24 n2 11 _ _ hu_24 hC_33 rfl (by decide +kernel) (by omega) (by omega) (fun j hj => hR_34.e3 hj) (by omega)
                  first | dsimp only at h_39 | skip
                  rw [(show ma_23 3 0 = ma 3 0 from (hg_29 3 0 (by unfold mU; omega) (by decide))), (show ma_23 24 n2 = q_20 from ha_26)] at h_39
                  refine va_calli (va_runV (As := [.ref q_20]) (rest := []) ⟨hx, hb, hml, hown, hts⟩ (h_39) (cwV 1 hts gX12_source_Jx4a65c_add_9ea2d rfl rfl rfl (by decide +kernel) ⟨Nat.le_of_ble_eq_true rfl, Nat.le_of_ble_eq_true rfl⟩) ⟨zBl mI_blind, (va_recv hK (hM.Pa huz_38 (hg_29 3 0 (by unfold mU; omega) (by decide)) hCz_38) (ci := 0) (q0 := 0) rfl rfl), fun U h1 h2 => ⟨rfl, mI_pre hM hK hMS hS U h1 h2⟩⟩ rfl rfl hl.1 rfl (lv_room (Nat.le_of_ble_eq_true rfl)) dX12_source_131 ⟨Nat.le_of_ble_eq_true rfl, Nat.le_of_ble_eq_true rfl⟩) hS (fun _ _ h => h) (fun _ h => h) (fun r_37 S_36 t H1 locs ht hvm hw hB9 hz1 hk1 hS => ?_)
                  obtain ⟨hr_37, hchg, hL9⟩ := hw
                  subst hr_37
                  obtain ⟨hM, -, -⟩ := hB9
                  rw [ht] at hM
                  clear hk1 hz1 hvm ht
                  clear t
                  generalize H1 = H at hM hS ⊢
                  have hR_43 := mR_src hR_34 hn20 hi (by omega) hii (by omega) hchg (by rw [ha_26]; exact hL9) hu_24 hC_33
                  have hg_44 : ∀ k9 x9, mU g n1 n2 nL n4 n5 k9 x9 → (k9 ≠ 2 ∧ k9 ≠ 4 ∧ k9 ≠ 6 ∧ k9 ≠ 8) → S_36.2.2 k9 x9 = ma k9 x9 := fun k9 x9 hm hn => (hchg.2.2 k9 x9 (fun z => by omega)).trans (hg_29 k9 x9 hm hn)
                  have he_45 : S_36.2.2 24 n2 = q_20 := (hchg.2.2 24 n2 (by omega)).trans ha_26
                  clear hchg hL9
                  obtain ⟨u_40, C_41, ma_42⟩ := S_36
                  have hM : mW D A u_40 C_41 ma_42 H := hM
                  have hR_43 : mR ty t0 (srcG g n2 (i * 6 + f) (i2 * 6 + f2) 0) n1 (n2 + 1) nL n4 n5 (nI 0) rep bro u_40 C_41 ma_42 := hR_43
                  have hg_44 : ∀ k9 x9, mU g n1 n2 nL n4 n5 k9 x9 → (k9 ≠ 2 ∧ k9 ≠ 4 ∧ k9 ≠ 6 ∧ k9 ≠ 8) → ma_42 k9 x9 = ma k9 x9 := fun k9 x9 hm hn => by
                    exact hg_44 k9 x9 hm hn
                  refine lv_pop hx hb dX12_source_134 rfl ?_
                  refine lv_aload hx hb dX12_source_135 (lv_at hl 0 rfl) ?_
                  refine lv_iload hx hb dX12_source_137 (lv_at hl 6 rfl) ?_
                  refine mput (v := .int sh) (ty := .int) hx hb hts hinX10 tyX10 tyX10_ok nmX10 hown hK hM hS (hR_43.q24 (j := n2) (by omega)).1 he_45 (hR_43.q24 (j := n2) (by omega)).2 rfl 4 (by decide) (hk3) (fun _ h9 => h9) rfl (by decide +kernel) rfl rfl (Nat.le_of_ble_eq_true rfl) dX12_source_139 (fun H locs hM hS ho => ?_)
                  obtain ⟨C_46, eC_46⟩ : ∃ z, z = up2 C_41 24 n2 (eO 11 [.int (nI (cn ((srcG g n2 (i * 6 + f) (i2 * 6 + f2) 0) 12 n2) / 6)), .int (nI (cn ((srcG g n2 (i * 6 + f) (i2 * 6 + f2) 0) 12 n2) % 6)), .int (nI (cn ((srcG g n2 (i * 6 + f) (i2 * 6 + f2) 0) 13 n2) / 6)), .int (nI (cn ((srcG g n2 (i * 6 + f) (i2 * 6 + f2) 0) 13 n2) % 6)), .int sh]) := ⟨_, rfl⟩
                  have hM : mW D A u_40 C_46 ma_42 H := by rw [eC_46]; exact hM
                  have hC_47 : C_46 24 n2 = eO 11 [.int (nI (cn ((srcG g n2 (i * 6 + f) (i2 * 6 + f2) 0) 12 n2) / 6)), .int (nI (cn ((srcG g n2 (i * 6 + f) (i2 * 6 + f2) 0) 12 n2) % 6)), .int (nI (cn ((srcG g n2 (i * 6 + f) (i2 * 6 + f2) 0) 13 n2) / 6)), .int (nI (cn ((srcG g n2 (i * 6 + f) (i2 * 6 + f2) 0) 13 n2) % 6)), .int sh] := by rw [eC_46]; exact up2_s _ _ _ _
                  have hR_48 : mR ty t0 (srcG g n2 (i * 6 + f) (i2 * 6 + f2) sh) n1 (n2 + 1) nL n4 n5 (nI 0) rep bro u_40 C_46 ma_42 := by rw [eC_46]; exact (by have h9 := mR_srck hR_43 (j0 := n2) (by omega) sh; rw [srcG_sh] at h9; exact h9)
                  have hR9 := hR_48
                  refine lv_iconst (v := nI 0) hx hb dX12_source_142 (by decide) ?_
                  refine lv_istore (lv' := [(7, .int (nI 0)), (6, .ref q_20), (0, .ref (ma 0 0)), (1, .int (nI i)), (2, .int (nI f)), (3, .int (nI i2)), (4, .int (nI f2)), (5, .int sh)]) hx hb dX12_source_143 hl (by decide) rfl (fun ls hl => ?_)
                  refine lv_iconst (v := nI 0) hx hb dX12_source_145 (by decide) ?_
                  refine lv_istore (lv' := [(8, .int (nI 0)), (7, .int (nI 0)), (6, .ref q_20), (0, .ref (ma 0 0)), (1, .int (nI i)), (2, .int (nI f)), (3, .int (nI i2)), (4, .int (nI f2)), (5, .int sh)]) hx hb dX12_source_146 hl (by decide) rfl (fun ls hl => ?_)
                  refine zloopP (τ := Unit) (fun j _ ls => lv_has ls 9 [(7, .int (sumN (fSrc (srcG g n2 (i * 6 + f) (i2 * 6 + f2) sh) (i * 6 + f)) j)), (8, .int (nI j)), (0, .ref (ma 0 0)), (1, .int (nI i)), (2, .int (nI f))]) ((n2 + 1)) ?_ 0 () ls (Nat.zero_le _) (lv_sub hl [1, 0, 3, 4, 5] rfl)
                  intro j _ ls hi_j hl ih_j
                  have hl : lv_has ls 9 [(7, .int (sumN (fSrc (srcG g n2 (i * 6 + f) (i2 * 6 + f2) sh) (i * 6 + f)) j)), (8, .int (nI j)), (0, .ref (ma 0 0)), (1, .int (nI i)), (2, .int (nI f))] := hl
                  refine lv_iload hx hb dX12_source_148 (lv_at hl 1 rfl) ?_
                  refine lv_aload_n hx hb dX12_source_150 rfl (lv_at hl 2 rfl) ?_
                  refine va_get hx hb hts hinX12 hown hK (hM.Pa hR_48.o.1 (hg_44 0 0 (by unfold mU; omega) (by decide)) hR_48.o.2) 0 rfl rfl 2 (by decide) (hk1) (fun _ h9 => h9) rfl dX12_source_151 ?_
                  refine zeqv (y := .ref (ma 3 0)) (congrArg Value.ref (hg_44 3 0 (by unfold mU; omega) (by decide))) ?_
                  have h_49 := c_size l D ty A u_40 C_46 ma_42 t0 mi 3 0 (n2 + 1) (ma_42 24) hR_48.l3
                  first | dsimp only at h_49 | skip
                  rw [(show ma_42 3 0 = ma 3 0 from (hg_44 3 0 (by unfold mU; omega) (by decide)))] at h_49
                  obtain ⟨huz_50, hnz_50, mz_50, bz_50, hCz_50⟩ := isL.hd hR_48.l3
                  refine zcVi (As := []) (rest := [.int (nI j)]) ⟨hx, hb, hml, hown, hts⟩ (h_49) (cwV 0 hts gX12_source_Jx4a65c_size_8abf5 rfl rfl rfl (by decide +kernel) ⟨Nat.le_of_ble_eq_true rfl, Nat.le_of_ble_eq_true rfl⟩) mI_blind (mI_pre hM hK hMS hS) (va_recv hK (hM.Pa huz_50 (hg_44 3 0 (by unfold mU; omega) (by decide)) hCz_50) (ci := 0) (q0 := 0) rfl rfl) rfl hl.1 rfl (Nat.le_of_ble_eq_true rfl) dX12_source_154 ⟨Nat.le_of_ble_eq_true rfl, Nat.le_of_ble_eq_true rfl⟩ (fun r_51 hr_51 => ?_)
                  subst hr_51
                  refine lv_icmp_ge (tgt := 214) hx hb dX12_source_157 (by decide) (fun c_52 => ?_) (fun c_52 => ?_)
                  · have c_52 := zn_geT (a := j) (b := (n2 + 1)) (by omega) (by omega) c_52
                    obtain e9 : j = n2 + 1 := by omega
                    subst e9
                    refine lv_iload hx hb dX12_source_214 (lv_at hl 0 rfl) ?_
                    refine W.widen (k := 2) (n := 65) (by omega) (by omega) ?_
                    exact W.iret (v := sumN (fSrc (srcG g n2 (i * 6 + f) (i2 * 6 + f2) sh) (i * 6 + f)) (n2 + 1)) hx hb hr (fun t ht hW => ⟨⟨_, (u_40, C_46, ma_42), rfl, ⟨rfl, (hg_44 0 0 (by unfold mU; omega) (by decide)), hR_48⟩, mI_pre hM hK hMS hS t ht hW⟩, hS.F ht⟩) hS.2.2 dX12_source_216
                  · have c_52 := zn_geF (a := j) (b := (n2 + 1)) (by omega) (by omega) c_52
                    have hsj := (hR9.I.src (show j < n2 + 1 by omega)).1.2
                    refine lv_iload hx hb dX12_source_160 (lv_at hl 0 rfl) ?_
                    refine lv_aload_n hx hb dX12_source_162 rfl (lv_at hl 2 rfl) ?_
                    refine va_get hx hb hts hinX12 hown hK (hM.Pa hR_48.o.1 (hg_44 0 0 (by unfold mU; omega) (by decide)) hR_48.o.2) 0 rfl rfl 2 (by decide) (hk1) (fun _ h9 => h9) rfl dX12_source_163 ?_
                    refine zeqv (y := .ref (ma 3 0)) (congrArg Value.ref (hg_44 3 0 (by unfold mU; omega) (by decide))) ?_
                    refine lv_iload hx hb dX12_source_166 (lv_at hl 1 rfl) ?_
                    have h_53 := c_get l D ty A u_40 C_46 ma_42 t0 mi 3 0 (n2 + 1) (ma_42 24) hR_48.l3 j (by omega)
                    first | dsimp only at h_53 | skip
                    rw [(show ma_42 3 0 = ma 3 0 from (hg_44 3 0 (by unfold mU; omega) (by decide))), (show ma_42 24 j = ma_42 24 j from rfl)] at h_53
                    obtain ⟨huz_54, hnz_54, mz_54, bz_54, hCz_54⟩ := isL.hd hR_48.l3
                    refine zcVr (x := .ref (ma_42 24 j)) (As := [.int (nI j)]) (rest := [.int (sumN (fSrc (srcG g n2 (i * 6 + f) (i2 * 6 + f2) sh) (i * 6 + f)) j)]) ⟨hx, hb, hml, hown, hts⟩ (h_53) (cwV 1 hts gX12_source_Jx4a65c_get_915e3 rfl rfl rfl (by decide +kernel) ⟨Nat.le_of_ble_eq_true rfl, Nat.le_of_ble_eq_true rfl⟩) mI_blind (mI_pre hM hK hMS hS) (va_recv hK (hM.Pa huz_54 (hg_44 3 0 (by unfold mU; omega) (by decide)) hCz_54) (ci := 0) (q0 := 0) rfl rfl) rfl hl.1 rfl (Nat.le_of_ble_eq_true rfl) dX12_source_168 ⟨Nat.le_of_ble_eq_true rfl, Nat.le_of_ble_eq_true rfl⟩ ?_
                    refine va_castS hx hb hown (hk4) ((hK.1 11 _ rfl).2) (va_recv hK (hM.Pa (hR_48.q24 (j := j) (by omega)).1 rfl (hR_48.q24 (j := j) (by omega)).2) (ci := 11) (q0 := 0) rfl rfl) dX12_source_171 ?_
                    refine va_get hx hb hts hinX10 hown hK (hM.Pa (hR_48.q24 (j := j) (by omega)).1 rfl (hR_48.q24 (j := j) (by omega)).2) 0 rfl rfl 0 (by decide) (hk5) (fun _ h9 => h9) rfl dX12_source_174 ?_
                    refine lv_iload_n hx hb dX12_source_177 rfl (lv_at hl 3 rfl) ?_
                    refine lv_icmp_ne (tgt := 204) hx hb dX12_source_178 (by decide) (fun c_56 => ?_) (fun c_56 => ?_)
                    · have c_56 := zn_neT (a := (cn ((srcG g n2 (i * 6 + f) (i2 * 6 + f2) sh) 12 j) / 6)) (b := i) (by omega) (by omega) c_56
                      refine lv_iconst (v := nI 0) hx hb dX12_source_204 (by decide) ?_
                      refine lv_iadd hx hb dX12_source_205 ?_
                      refine lv_istore (lv' := [(7, .int ((sumN (fSrc (srcG g n2 (i * 6 + f) (i2 * 6 + f2) sh) (i * 6 + f)) j) + (nI 0))), (8, .int (nI j)), (0, .ref (ma 0 0)), (1, .int (nI i)), (2, .int (nI f))]) hx hb dX12_source_206 hl (by decide) rfl (fun ls hl => ?_)
                      refine lv_iinc (v := nI (j + 1)) (lv' := [(8, .int (nI (j + 1))), (7, .int ((sumN (fSrc (srcG g n2 (i * 6 + f) (i2 * 6 + f2) sh) (i * 6 + f)) j) + (nI 0))), (0, .ref (ma 0 0)), (1, .int (nI i)), (2, .int (nI f))]) hx hb dX12_source_208 hl (k := 1) rfl (nI_add j 1) (by decide) rfl (fun ls hl => ?_)
                      refine lv_goto (tgt := 148) hx hb dX12_source_211 (by decide) ?_
                      refine ih_j () ls (by omega) (show lv_has ls 9 [(7, .int (sumN (fSrc (srcG g n2 (i * 6 + f) (i2 * 6 + f2) sh) (i * 6 + f)) (j + 1))), (8, .int (nI (j + 1))), (0, .ref (ma 0 0)), (1, .int (nI i)), (2, .int (nI f))] from ?_)
                      rw [show sumN (fSrc (srcG g n2 (i * 6 + f) (i2 * 6 + f2) sh) (i * 6 + f)) (j + 1) = (sumN (fSrc (srcG g n2 (i * 6 + f) (i2 * 6 + f2) sh) (i * 6 + f)) j) + (nI 0) from congrArg (fun z => (sumN (fSrc (srcG g n2 (i * 6 + f) (i2 * 6 + f2) sh) (i * 6 + f)) j) +  z) (show (fSrc (srcG g n2 (i * 6 + f) (i2 * 6 + f2) sh) (i * 6 + f)) j = (nI 0) from (fSrc_n (by omega) (by omega) (by omega)))]
                      exact lv_sub hl [1, 0, 2, 3, 4] rfl
                    · have c_56 := zn_neF (a := (cn ((srcG g n2 (i * 6 + f) (i2 * 6 + f2) sh) 12 j) / 6)) (b := i) (by omega) (by omega) c_56
                      refine lv_aload_n hx hb dX12_source_181 rfl (lv_at hl 2 rfl) ?_
                      refine va_get hx hb hts hinX12 hown hK (hM.Pa hR_48.o.1 (hg_44 0 0 (by unfold mU; omega) (by decide)) hR_48.o.2) 0 rfl rfl 2 (by decide) (hk1) (fun _ h9 => h9) rfl dX12_source_182 ?_
                      refine zeqv (y := .ref (ma 3 0)) (congrArg Value.ref (hg_44 3 0 (by unfold mU; omega) (by decide))) ?_
                      refine lv_iload hx hb dX12_source_185 (lv_at hl 1 rfl) ?_
                      have h_57 := c_get l D ty A u_40 C_46 ma_42 t0 mi 3 0 (n2 + 1) (ma_42 24) hR_48.l3 j (by omega)
                      first | dsimp only at h_57 | skip
                      rw [(show ma_42 3 0 = ma 3 0 from (hg_44 3 0 (by unfold mU; omega) (by decide))), (show ma_42 24 j = ma_42 24 j from rfl)] at h_57
                      obtain ⟨huz_58, hnz_58, mz_58, bz_58, hCz_58⟩ := isL.hd hR_48.l3
                      refine zcVr (x := .ref (ma_42 24 j)) (As := [.int (nI j)]) (rest := [.int (sumN (fSrc (srcG g n2 (i * 6 + f) (i2 * 6 + f2) sh) (i * 6 + f)) j)]) ⟨hx, hb, hml, hown, hts⟩ (h_57) (cwV 1 hts gX12_source_Jx4a65c_get_915e3 rfl rfl rfl (by decide +kernel) ⟨Nat.le_of_ble_eq_true rfl, Nat.le_of_ble_eq_true rfl⟩) mI_blind (mI_pre hM hK hMS hS) (va_recv hK (hM.Pa huz_58 (hg_44 3 0 (by unfold mU; omega) (by decide)) hCz_58) (ci := 0) (q0 := 0) rfl rfl) rfl hl.1 rfl (Nat.le_of_ble_eq_true rfl) dX12_source_187 ⟨Nat.le_of_ble_eq_true rfl, Nat.le_of_ble_eq_true rfl⟩ ?_
                      refine va_castS hx hb hown (hk4) ((hK.1 11 _ rfl).2) (va_recv hK (hM.Pa (hR_48.q24 (j := j) (by omega)).1 rfl (hR_48.q24 (j := j) (by omega)).2) (ci := 11) (q0 := 0) rfl rfl) dX12_source_190 ?_
                      refine va_get hx hb hts hinX10 hown hK (hM.Pa (hR_48.q24 (j := j) (by omega)).1 rfl (hR_48.q24 (j := j) (by omega)).2) 0 rfl rfl 1 (by decide) (hk6) (fun _ h9 => h9) rfl dX12_source_193 ?_
                      refine lv_iload_n hx hb dX12_source_196 rfl (lv_at hl 4 rfl) ?_
                      refine lv_icmp_ne (tgt := 204) hx hb dX12_source_197 (by decide) (fun c_60 => ?_) (fun c_60 => ?_)
                      · have c_60 := zn_neT (a := (cn ((srcG g n2 (i * 6 + f) (i2 * 6 + f2) sh) 12 j) % 6)) (b := f) (by omega) (by omega) c_60
                        refine lv_iconst (v := nI 0) hx hb dX12_source_204 (by decide) ?_
                        refine lv_iadd hx hb dX12_source_205 ?_
                        refine lv_istore (lv' := [(7, .int ((sumN (fSrc (srcG g n2 (i * 6 + f) (i2 * 6 + f2) sh) (i * 6 + f)) j) + (nI 0))), (8, .int (nI j)), (0, .ref (ma 0 0)), (1, .int (nI i)), (2, .int (nI f))]) hx hb dX12_source_206 hl (by decide) rfl (fun ls hl => ?_)
                        refine lv_iinc (v := nI (j + 1)) (lv' := [(8, .int (nI (j + 1))), (7, .int ((sumN (fSrc (srcG g n2 (i * 6 + f) (i2 * 6 + f2) sh) (i * 6 + f)) j) + (nI 0))), (0, .ref (ma 0 0)), (1, .int (nI i)), (2, .int (nI f))]) hx hb dX12_source_208 hl (k := 1) rfl (nI_add j 1) (by decide) rfl (fun ls hl => ?_)
                        refine lv_goto (tgt := 148) hx hb dX12_source_211 (by decide) ?_
                        refine ih_j () ls (by omega) (show lv_has ls 9 [(7, .int (sumN (fSrc (srcG g n2 (i * 6 + f) (i2 * 6 + f2) sh) (i * 6 + f)) (j + 1))), (8, .int (nI (j + 1))), (0, .ref (ma 0 0)), (1, .int (nI i)), (2, .int (nI f))] from ?_)
                        rw [show sumN (fSrc (srcG g n2 (i * 6 + f) (i2 * 6 + f2) sh) (i * 6 + f)) (j + 1) = (sumN (fSrc (srcG g n2 (i * 6 + f) (i2 * 6 + f2) sh) (i * 6 + f)) j) + (nI 0) from congrArg (fun z => (sumN (fSrc (srcG g n2 (i * 6 + f) (i2 * 6 + f2) sh) (i * 6 + f)) j) +  z) (show (fSrc (srcG g n2 (i * 6 + f) (i2 * 6 + f2) sh) (i * 6 + f)) j = (nI 0) from (fSrc_n (by omega) (by omega) (by omega)))]
                        exact lv_sub hl [1, 0, 2, 3, 4] rfl
                      · have c_60 := zn_neF (a := (cn ((srcG g n2 (i * 6 + f) (i2 * 6 + f2) sh) 12 j) % 6)) (b := f) (by omega) (by omega) c_60
                        refine lv_iconst (v := nI 1) hx hb dX12_source_200 (by decide) ?_
                        refine lv_goto (tgt := 205) hx hb dX12_source_201 (by decide) ?_
                        refine lv_iadd hx hb dX12_source_205 ?_
                        refine lv_istore (lv' := [(7, .int ((sumN (fSrc (srcG g n2 (i * 6 + f) (i2 * 6 + f2) sh) (i * 6 + f)) j) + (nI 1))), (8, .int (nI j)), (0, .ref (ma 0 0)), (1, .int (nI i)), (2, .int (nI f))]) hx hb dX12_source_206 hl (by decide) rfl (fun ls hl => ?_)
                        refine lv_iinc (v := nI (j + 1)) (lv' := [(8, .int (nI (j + 1))), (7, .int ((sumN (fSrc (srcG g n2 (i * 6 + f) (i2 * 6 + f2) sh) (i * 6 + f)) j) + (nI 1))), (0, .ref (ma 0 0)), (1, .int (nI i)), (2, .int (nI f))]) hx hb dX12_source_208 hl (k := 1) rfl (nI_add j 1) (by decide) rfl (fun ls hl => ?_)
                        refine lv_goto (tgt := 148) hx hb dX12_source_211 (by decide) ?_
                        refine ih_j () ls (by omega) (show lv_has ls 9 [(7, .int (sumN (fSrc (srcG g n2 (i * 6 + f) (i2 * 6 + f2) sh) (i * 6 + f)) (j + 1))), (8, .int (nI (j + 1))), (0, .ref (ma 0 0)), (1, .int (nI i)), (2, .int (nI f))] from ?_)
                        rw [show sumN (fSrc (srcG g n2 (i * 6 + f) (i2 * 6 + f2) sh) (i * 6 + f)) (j + 1) = (sumN (fSrc (srcG g n2 (i * 6 + f) (i2 * 6 + f2) sh) (i * 6 + f)) j) + (nI 1) from congrArg (fun z => (sumN (fSrc (srcG g n2 (i * 6 + f) (i2 * 6 + f2) sh) (i * 6 + f)) j) +  z) (show (fSrc (srcG g n2 (i * 6 + f) (i2 * 6 + f2) sh) (i * 6 + f)) j = (nI 1) from (fSrc_y hR_48.I (by omega) c_56 c_60))]
                        exact lv_sub hl [1, 0, 2, 3, 4] rfl
                · have c_19 := bI_t c_19
                  cases c_19
              · have c_17 := zn_neF (a := n2) (b := 20) (by omega) (by omega) c_17
                omega
            · have c_13 := bI_t c_13
              cases c_13
          · have c_11 := bI_f c_11
            simp only [c_2, c_4, c_8, c_11, Bool.not_true, Bool.not_false, Bool.and_true, Bool.true_and, Bool.and_false, Bool.false_and, Bool.or_true, Bool.true_or, Bool.or_false, Bool.false_or, Bool.and_self, Bool.or_self, Bool.true_eq_false, Bool.false_eq_true] at h2
    · have c_4 := bI_t c_4
      simp only [c_2, c_4, Bool.not_true, Bool.not_false, Bool.and_true, Bool.true_and, Bool.and_false, Bool.false_and, Bool.or_true, Bool.true_or, Bool.or_false, Bool.false_or, Bool.and_self, Bool.or_self, Bool.true_eq_false, Bool.false_eq_true] at h1
