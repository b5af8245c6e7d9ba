set_option maxHeartbeats 600000 in
set_option maxRecDepth 100000 in
theorem m_version_x1 (l : Launch) (D : va_G) (ty : Nat → ClassId) (A : Nat → Prop) (u : Nat → Nat → Prop) (C : Nat → Nat → va_E) (ma : Nat → Nat → Nat) (t0 mi : Nat) (g : Nat → Nat → Int32) (n1 n2 nL n4 n5 : Nat) (th : Int32) (rep bro : Nat → Nat → Int32) (hR : mR ty t0 g n1 n2 nL n4 n5 th rep bro u C ma) (x rw0 : Int32) (h1 : bNo n1 x = true) : Met l yX12_version wsX12_version ({ frames := 7, cells := 0, slots := 0, locals := 192 }) (va_Pc [.ref (ma 0 0), .int x, .int rw0] (mI D ty A u C ma t0 mi)) (va_Qi (fun (v9 : Int32) (C2 : Nat → Nat → va_E) => v9 = nI 0 ∧ mR ty t0 g n1 n2 nL n4 n5 (nI 1) rep bro u C2 ma) (fun C2 t => mI D ty A u C2 ma t0 mi t) A) 0 0 A := by
  refine zMet (cc := cX12_version) (maxL := 7) (ret := (some .int)) (by decide) rfl (Nat.le_of_ble_eq_true rfl) ?_
  intro p e s m below meth c hx hb hr hts hown hlocks hml hB ls hl
  obtain ⟨hM, hK, hMS⟩ := hB
  have hS : va_S A s.heap s.heap [] := va_S.rf
  have hbn := hR.I.b1
  have hbs := hR.I.b2
  have hbl := hR.I.bL
  have hbc := hR.I.b4
  have hbr := hR.I.b5
  have hl : lv_has ls 7 [(0, .ref (ma 0 0)), (1, .int x), (2, .int rw0)] := hl
  refine lv_aload_n hx hb dX12_version_0 rfl (lv_at hl 0 rfl) ?_
  refine lv_aload_n hx hb dX12_version_1 rfl (lv_at hl 0 rfl) ?_
  refine lv_iload_n hx hb dX12_version_2 rfl (lv_at hl 1 rfl) ?_
  refine zcVi (As := [.int x]) (rest := [.ref (ma 0 0)]) ⟨hx, hb, hml, hown, hts⟩ (c_X12_isNo l D ty A u C ma t0 mi g n1 n2 nL n4 n5 th rep bro hR x) (cwV 1 hts gX12_version_X12_isNo rfl rfl rfl (by decide +kernel) ⟨Nat.le_of_ble_eq_true rfl, Nat.le_of_ble_eq_true rfl⟩) mI_blind (mI_pre hM hK hMS hS) (va_recv hK (hM.Pa hR.o.1 rfl hR.o.2) (ci := 13) (q0 := 0) rfl rfl) rfl hl.1 rfl (Nat.le_of_ble_eq_true rfl) dX12_version_3 ⟨Nat.le_of_ble_eq_true rfl, Nat.le_of_ble_eq_true rfl⟩ (fun r_1 hr_1 => ?_)
  subst hr_1
  refine zeq (show bI _ = bI true from by rw [h1]) ?_
  refine lv_iconst (v := nI 1) hx hb dX12_version_6 (by decide) ?_
  refine va_calli (va_runV (As := [.int (bI true), .int (nI 1)]) (rest := []) ⟨hx, hb, hml, hown, hts⟩ (c_X12_start_t l D ty A u C ma t0 mi g n1 n2 nL n4 n5 th rep bro hR 1 (by omega) (by omega)) (cwV 2 hts gX12_version_X12_start rfl rfl rfl (by decide +kernel) ⟨Nat.le_of_ble_eq_true rfl, Nat.le_of_ble_eq_true rfl⟩) ⟨zBl mI_blind, (va_recv hK (hM.Pa hR.o.1 rfl hR.o.2) (ci := 13) (q0 := 0) rfl rfl), fun U h1 h2 => ⟨rfl, mI_pre hM hK hMS hS U h1 h2⟩⟩ rfl rfl hl.1 rfl (lv_room (Nat.le_of_ble_eq_true rfl)) dX12_version_7 ⟨Nat.le_of_ble_eq_true rfl, Nat.le_of_ble_eq_true rfl⟩) hS (fun _ _ h => h) (fun _ h => h) (fun r_3 C_2 t H1 locs ht hvm hw hB9 hz1 hk1 hS => ?_)
  obtain ⟨hr_3, hR_4⟩ := hw
  obtain ⟨hM, -, -⟩ := hB9
  rw [ht] at hM
  clear hk1 hz1 hvm ht
  clear t
  generalize H1 = H at hM hS ⊢
  subst hr_3
  refine lv_if_ne (tgt := 72) hx hb dX12_version_10 (by decide) (fun c_5 => ?_) (fun c_5 => ?_)
  · have c_5 := bI_t c_5
    refine lv_iconst (v := nI 0) hx hb dX12_version_72 (by decide) ?_
    exact W.iret (v := nI 0) hx hb hr (fun t ht hW => ⟨⟨_, C_2, rfl, ⟨rfl, hR_4⟩, mI_pre hM hK hMS hS t ht hW⟩, hS.F ht⟩) hS.2.2 dX12_version_73
  · have c_5 := bI_f c_5
    cases c_5
set_option maxHeartbeats 600000 in
set_option maxRecDepth 100000 in
theorem m_version_x2 (l : Launch) (D : va_G) (ty : Nat → ClassId) (A : Nat → Prop) (u : Nat → Nat → Prop) (C : Nat → Nat → va_E) (ma : Nat → Nat → Nat) (t0 mi : Nat) (g : Nat → Nat → Int32) (n1 n2 nL n4 n5 : Nat) (th : Int32) (rep bro : Nat → Nat → Int32) (hR : mR ty t0 g n1 n2 nL n4 n5 th rep bro u C ma) (i : Nat) (hi : i < n1) (rw0 : Int32) (h2 : (!inB rw0 (nI 1) (nI 9999)) = true) : Met l yX12_version wsX12_version ({ frames := 7, cells := 0, slots := 0, locals := 192 }) (va_Pc [.ref (ma 0 0), .int (nI i), .int rw0] (mI D ty A u C ma t0 mi)) (va_Qi (fun (v9 : Int32) (C2 : Nat → Nat → va_E) => v9 = nI 0 ∧ mR ty t0 g n1 n2 nL n4 n5 (nI 2) rep bro u C2 ma) (fun C2 t => mI D ty A u C2 ma t0 mi t) A) 0 0 A := by
  refine zMet (cc := cX12_version) (maxL := 7) (ret := (some .int)) (by decide) rfl (Nat.le_of_ble_eq_true rfl) ?_
  intro p e s m below meth c hx hb hr hts hown hlocks hml hB ls hl
  obtain ⟨hM, hK, hMS⟩ := hB
  have hS : va_S A s.heap s.heap [] := va_S.rf
  have hbn := hR.I.b1
  have hbs := hR.I.b2
  have hbl := hR.I.bL
  have hbc := hR.I.b4
  have hbr := hR.I.b5
  have h1 := bNo_ok hR.I.b1 hi
  have hv7 := (hR.I.v7 hi).2
  have hl : lv_has ls 7 [(0, .ref (ma 0 0)), (1, .int (nI i)), (2, .int rw0)] := hl
  refine lv_aload_n hx hb dX12_version_0 rfl (lv_at hl 0 rfl) ?_
  refine lv_aload_n hx hb dX12_version_1 rfl (lv_at hl 0 rfl) ?_
  refine lv_iload_n hx hb dX12_version_2 rfl (lv_at hl 1 rfl) ?_
  refine zcVi (As := [.int (nI i)]) (rest := [.ref (ma 0 0)]) ⟨hx, hb, hml, hown, hts⟩ (c_X12_isNo l D ty A u C ma t0 mi g n1 n2 nL n4 n5 th rep bro hR (nI i)) (cwV 1 hts gX12_version_X12_isNo rfl rfl rfl (by decide +kernel) ⟨Nat.le_of_ble_eq_true rfl, Nat.le_of_ble_eq_true rfl⟩) mI_blind (mI_pre hM hK hMS hS) (va_recv hK (hM.Pa hR.o.1 rfl hR.o.2) (ci := 13) (q0 := 0) rfl rfl) rfl hl.1 rfl (Nat.le_of_ble_eq_true rfl) dX12_version_3 ⟨Nat.le_of_ble_eq_true rfl, Nat.le_of_ble_eq_true rfl⟩ (fun r_1 hr_1 => ?_)
  subst hr_1
  refine zeq (show bI _ = bI false from by rw [h1]) ?_
  refine lv_iconst (v := nI 1) hx hb dX12_version_6 (by decide) ?_
  refine va_calli (va_runV (As := [.int (bI false), .int (nI 1)]) (rest := []) ⟨hx, hb, hml, hown, hts⟩ (c_X12_start_f l D ty A u C ma t0 mi g n1 n2 nL n4 n5 th rep bro hR 1 (by omega) (by omega)) (cwV 2 hts gX12_version_X12_start rfl rfl rfl (by decide +kernel) ⟨Nat.le_of_ble_eq_true rfl, Nat.le_of_ble_eq_true rfl⟩) ⟨zBl mI_blind, (va_recv hK (hM.Pa hR.o.1 rfl hR.o.2) (ci := 13) (q0 := 0) rfl rfl), fun U h1 h2 => ⟨rfl, mI_pre hM hK hMS hS U h1 h2⟩⟩ rfl rfl hl.1 rfl (lv_room (Nat.le_of_ble_eq_true rfl)) dX12_version_7 ⟨Nat.le_of_ble_eq_true rfl, Nat.le_of_ble_eq_true rfl⟩) hS (fun _ _ h => h) (fun _ h => h) (fun r_3 C_2 t H1 locs ht hvm hw hB9 hz1 hk1 hS => ?_)
  obtain ⟨hr_3, hR_4⟩ := hw
  obtain ⟨hM, -, -⟩ := hB9
  rw [ht] at hM
  clear hk1 hz1 hvm ht
  clear t
  generalize H1 = H at hM hS ⊢
  subst hr_3
  refine lv_if_ne (tgt := 72) hx hb dX12_version_10 (by decide) (fun c_5 => ?_) (fun c_5 => ?_)
  · have c_5 := bI_t c_5
    cases c_5
  · have c_5 := bI_f c_5
    refine lv_aload_n hx hb dX12_version_13 rfl (lv_at hl 0 rfl) ?_
    refine lv_iload_n hx hb dX12_version_14 rfl (lv_at hl 2 rfl) ?_
    refine lv_iconst (v := nI 1) hx hb dX12_version_15 (by decide) ?_
    refine lv_sipush (v := nI 9999) hx hb dX12_version_16 (by decide) ?_
    refine zcSi (As := [.int rw0, .int (nI 1), .int (nI 9999)]) (rest := [.ref (ma 0 0)]) ⟨hx, hb, hml, hown, hts⟩ (c_X12_isIn l _ rw0 (nI 1) (nI 9999)) (cwS 3 hts gX12_version_X12_isIn rfl rfl rfl (by decide +kernel) ⟨Nat.le_of_ble_eq_true rfl, Nat.le_of_ble_eq_true rfl⟩) (B := fun _ => True) (fun _ _ _ _ _ => trivial) (fun _ _ _ => trivial) rfl hl.1 rfl (Nat.le_of_ble_eq_true rfl) dX12_version_19 ⟨Nat.le_of_ble_eq_true rfl, Nat.le_of_ble_eq_true rfl⟩ (fun r_6 hr_6 => ?_)
    subst hr_6
    refine lv_if_ne (tgt := 29) hx hb dX12_version_22 (by decide) (fun c_7 => ?_) (fun c_7 => ?_)
    · have c_7 := bI_t c_7
      simp only [c_5, c_7, Bool.not_true, Bool.not_false, Bool.and_true, Bool.true_and, Bool.and_false, Bool.false_and, Bool.or_true, Bool.true_or, Bool.or_false, Bool.false_or, Bool.and_self, Bool.or_self, Bool.true_eq_false, Bool.false_eq_true] at h2
    · have c_7 := bI_f c_7
      refine lv_iconst (v := nI 1) hx hb dX12_version_25 (by decide) ?_
      refine zeq (show nI 1 = bI true from rfl) ?_
      refine lv_goto (tgt := 30) hx hb dX12_version_26 (by decide) ?_
      refine lv_iconst (v := nI 2) hx hb dX12_version_30 (by decide) ?_
      refine va_calli (va_runV (As := [.int (bI true), .int (nI 2)]) (rest := []) ⟨hx, hb, hml, hown, hts⟩ (c_X12_refuse_t l D ty A u C_2 ma t0 mi g n1 n2 nL n4 n5 (nI 0) rep bro hR_4 rfl 2 (by omega) (by omega)) (cwV 2 hts gX12_version_X12_refuse rfl rfl rfl (by decide +kernel) ⟨Nat.le_of_ble_eq_true rfl, Nat.le_of_ble_eq_true rfl⟩) ⟨zBl mI_blind, (va_recv hK (hM.Pa hR_4.o.1 rfl hR_4.o.2) (ci := 13) (q0 := 0) rfl rfl), fun U h1 h2 => ⟨rfl, mI_pre hM hK hMS hS U h1 h2⟩⟩ rfl rfl hl.1 rfl (lv_room (Nat.le_of_ble_eq_true rfl)) dX12_version_31 ⟨Nat.le_of_ble_eq_true rfl, Nat.le_of_ble_eq_true rfl⟩) hS (fun _ _ h => h) (fun _ h => h) (fun r_9 C_8 t H1 locs ht hvm hw hB9 hz1 hk1 hS => ?_)
      obtain ⟨hr_9, hR_10⟩ := hw
      obtain ⟨hM, -, -⟩ := hB9
      rw [ht] at hM
      clear hk1 hz1 hvm ht
      clear t
      generalize H1 = H at hM hS ⊢
      subst hr_9
      refine lv_if_ne (tgt := 72) hx hb dX12_version_34 (by decide) (fun c_11 => ?_) (fun c_11 => ?_)
      · have c_11 := bI_t c_11
        refine lv_iconst (v := nI 0) hx hb dX12_version_72 (by decide) ?_
        exact W.iret (v := nI 0) hx hb hr (fun t ht hW => ⟨⟨_, C_8, rfl, ⟨rfl, hR_10⟩, mI_pre hM hK hMS hS t ht hW⟩, hS.F ht⟩) hS.2.2 dX12_version_73
      · have c_11 := bI_f c_11
        cases c_11
set_option maxHeartbeats 600000 in
set_option maxRecDepth 100000 in
theorem m_version_x3 (l : Launch) (D : va_G) (ty : Nat → ClassId) (A : Nat → Prop) (u : Nat → Nat → Prop) (C : Nat → Nat → va_E) (ma : Nat → Nat → Nat) (t0 mi : Nat) (g : Nat → Nat → Int32) (n1 n2 nL n4 n5 : Nat) (th : Int32) (rep bro : Nat → Nat → Int32) (hR : mR ty t0 g n1 n2 nL n4 n5 th rep bro u C ma) (i : Nat) (hi : i < n1) (rw0 : Int32) (h2 : (!inB rw0 (nI 1) (nI 9999)) = false) (hn6 : nV g i = 6) : Met l yX12_version wsX12_version ({ frames := 7, cells := 0, slots := 0, locals := 192 }) (va_Pc [.ref (ma 0 0), .int (nI i), .int rw0] (mI D ty A u C ma t0 mi)) (va_Qi (fun (v9 : Int32) (C2 : Nat → Nat → va_E) => v9 = nI 0 ∧ mR ty t0 g n1 n2 nL n4 n5 (nI 3) rep bro u C2 ma) (fun C2 t => mI D ty A u C2 ma t0 mi t) A) 0 0 A := by
  refine zMet (cc := cX12_version) (maxL := 7) (ret := (some .int)) (by decide) rfl (Nat.le_of_ble_eq_true rfl) ?_
  intro p e s m below meth c hx hb hr hts hown hlocks hml hB ls hl
  obtain ⟨hM, hK, hMS⟩ := hB
  have hS : va_S A s.heap s.heap [] := va_S.rf
  have hbn := hR.I.b1
  have hbs := hR.I.b2
  have hbl := hR.I.bL
  have hbc := hR.I.b4
  have hbr := hR.I.b5
  have h1 := bNo_ok hR.I.b1 hi
  have hv7 := (hR.I.v7 hi).2
  have hl : lv_has ls 7 [(0, .ref (ma 0 0)), (1, .int (nI i)), (2, .int rw0)] := hl
  have hinX12 : ∀ w ∈ wsX120, w ∈ wsX12_version := by decide +kernel
  have hk1 := hts (.fieldLink RX12 10 "DatamarketDeskModel" "sets" "Ljava/util/ArrayList;") (by decide +kernel)
  have hk2 := hts (.classLink RX12 49 "DatamarketDeskModel$DataSet") (by decide +kernel)
  have hinX7 : ∀ w ∈ wsX70, w ∈ wsX12_version := by decide +kernel
  have hk4 := hts (.fieldLink RX12 69 "DatamarketDeskModel$DataSet" "versions" "Ljava/util/ArrayList;") (by decide +kernel)
  refine lv_aload_n hx hb dX12_version_0 rfl (lv_at hl 0 rfl) ?_
  refine lv_aload_n hx hb dX12_version_1 rfl (lv_at hl 0 rfl) ?_
  refine lv_iload_n hx hb dX12_version_2 rfl (lv_at hl 1 rfl) ?_
  refine zcVi (As := [.int (nI i)]) (rest := [.ref (ma 0 0)]) ⟨hx, hb, hml, hown, hts⟩ (c_X12_isNo l D ty A u C ma t0 mi g n1 n2 nL n4 n5 th rep bro hR (nI i)) (cwV 1 hts gX12_version_X12_isNo rfl rfl rfl (by decide +kernel) ⟨Nat.le_of_ble_eq_true rfl, Nat.le_of_ble_eq_true rfl⟩) mI_blind (mI_pre hM hK hMS hS) (va_recv hK (hM.Pa hR.o.1 rfl hR.o.2) (ci := 13) (q0 := 0) rfl rfl) rfl hl.1 rfl (Nat.le_of_ble_eq_true rfl) dX12_version_3 ⟨Nat.le_of_ble_eq_true rfl, Nat.le_of_ble_eq_true rfl⟩ (fun r_1 hr_1 => ?_)
  subst hr_1
  refine zeq (show bI _ = bI false from by rw [h1]) ?_
  refine lv_iconst (v := nI 1) hx hb dX12_version_6 (by decide) ?_
  refine va_calli (va_runV (As := [.int (bI false), .int (nI 1)]) (rest := []) ⟨hx, hb, hml, hown, hts⟩ (c_X12_start_f l D ty A u C ma t0 mi g n1 n2 nL n4 n5 th rep bro hR 1 (by omega) (by omega)) (cwV 2 hts gX12_version_X12_start rfl rfl rfl (by decide +kernel) ⟨Nat.le_of_ble_eq_true rfl, Nat.le_of_ble_eq_true rfl⟩) ⟨zBl mI_blind, (va_recv hK (hM.Pa hR.o.1 rfl hR.o.2) (ci := 13) (q0 := 0) rfl rfl), fun U h1 h2 => ⟨rfl, mI_pre hM hK hMS hS U h1 h2⟩⟩ rfl rfl hl.1 rfl (lv_room (Nat.le_of_ble_eq_true rfl)) dX12_version_7 ⟨Nat.le_of_ble_eq_true rfl, Nat.le_of_ble_eq_true rfl⟩) hS (fun _ _ h => h) (fun _ h => h) (fun r_3 C_2 t H1 locs ht hvm hw hB9 hz1 hk1 hS => ?_)
  obtain ⟨hr_3, hR_4⟩ := hw
  obtain ⟨hM, -, -⟩ := hB9
  rw [ht] at hM
  clear hk1 hz1 hvm ht
  clear t
  generalize H1 = H at hM hS ⊢
  subst hr_3
  refine lv_if_ne (tgt := 72) hx hb dX12_version_10 (by decide) (fun c_5 => ?_) (fun c_5 => ?_)
  · have c_5 := bI_t c_5
    cases c_5
  · have c_5 := bI_f c_5
    refine lv_aload_n hx hb dX12_version_13 rfl (lv_at hl 0 rfl) ?_
    refine lv_iload_n hx hb dX12_version_14 rfl (lv_at hl 2 rfl) ?_
    refine lv_iconst (v := nI 1) hx hb dX12_version_15 (by decide) ?_
    refine lv_sipush (v := nI 9999) hx hb dX12_version_16 (by decide) ?_
    refine zcSi (As := [.int rw0, .int (nI 1), .int (nI 9999)]) (rest := [.ref (ma 0 0)]) ⟨hx, hb, hml, hown, hts⟩ (c_X12_isIn l _ rw0 (nI 1) (nI 9999)) (cwS 3 hts gX12_version_X12_isIn rfl rfl rfl (by decide +kernel) ⟨Nat.le_of_ble_eq_true rfl, Nat.le_of_ble_eq_true rfl⟩) (B := fun _ => True) (fun _ _ _ _ _ => trivial) (fun _ _ _ => trivial) rfl hl.1 rfl (Nat.le_of_ble_eq_true rfl) dX12_version_19 ⟨Nat.le_of_ble_eq_true rfl, Nat.le_of_ble_eq_true rfl⟩ (fun r_6 hr_6 => ?_)
    subst hr_6
    refine lv_if_ne (tgt := 29) hx hb dX12_version_22 (by decide) (fun c_7 => ?_) (fun c_7 => ?_)
    · have c_7 := bI_t c_7
      refine lv_iconst (v := nI 0) hx hb dX12_version_29 (by decide) ?_
      refine zeq (show nI 0 = bI false from rfl) ?_
      refine lv_iconst (v := nI 2) hx hb dX12_version_30 (by decide) ?_
      refine zcVi (As := [.int (bI false), .int (nI 2)]) (rest := []) ⟨hx, hb, hml, hown, hts⟩ (c_X12_refuse_f l D ty A u C_2 ma t0 mi g n1 n2 nL n4 n5 (nI 0) rep bro hR_4 rfl (nI 2)) (cwV 2 hts gX12_version_X12_refuse rfl rfl rfl (by decide +kernel) ⟨Nat.le_of_ble_eq_true rfl, Nat.le_of_ble_eq_true rfl⟩) mI_blind (mI_pre hM hK hMS hS) (va_recv hK (hM.Pa hR_4.o.1 rfl hR_4.o.2) (ci := 13) (q0 := 0) rfl rfl) rfl hl.1 rfl (Nat.le_of_ble_eq_true rfl) dX12_version_31 ⟨Nat.le_of_ble_eq_true rfl, Nat.le_of_ble_eq_true rfl⟩ (fun r_8 hr_8 => ?_)
      subst hr_8
      refine lv_if_ne (tgt := 72) hx hb dX12_version_34 (by decide) (fun c_9 => ?_) (fun c_9 => ?_)
      · have c_9 := bI_t c_9
        cases c_9
      · have c_9 := bI_f c_9
        refine lv_aload_n hx hb dX12_version_37 rfl (lv_at hl 0 rfl) ?_
        refine lv_aload_n hx hb dX12_version_38 rfl (lv_at hl 0 rfl) ?_
        refine va_get hx hb hts hinX12 hown hK (hM.Pa hR_4.o.1 rfl hR_4.o.2) 0 rfl rfl 1 (by decide) (hk1) (fun _ h9 => h9) rfl dX12_version_39 ?_
        refine lv_iload_n hx hb dX12_version_42 rfl (lv_at hl 1 rfl) ?_
        obtain ⟨huz_10, hnz_10, mz_10, bz_10, hCz_10⟩ := isL.hd hR_4.l1
        refine zcVr (x := .ref (ma 9 i)) (As := [.int (nI i)]) (rest := [.ref (ma 0 0)]) ⟨hx, hb, hml, hown, hts⟩ (c_get l D ty A u C_2 ma t0 mi 1 0 n1 (ma 9) hR_4.l1 i (by omega)) (cwV 1 hts gX12_version_Jx4a65c_get_915e3 rfl rfl rfl (by decide +kernel) ⟨Nat.le_of_ble_eq_true rfl, Nat.le_of_ble_eq_true rfl⟩) mI_blind (mI_pre hM hK hMS hS) (va_recv hK (hM.Pa huz_10 rfl hCz_10) (ci := 0) (q0 := 0) rfl rfl) rfl hl.1 rfl (Nat.le_of_ble_eq_true rfl) dX12_version_43 ⟨Nat.le_of_ble_eq_true rfl, Nat.le_of_ble_eq_true rfl⟩ ?_
        refine va_castS hx hb hown (hk2) ((hK.1 8 _ rfl).2) (va_recv hK (hM.Pa (hR_4.s9 (i := i) (by omega)).1 rfl (hR_4.s9 (i := i) (by omega)).2) (ci := 8) (q0 := 0) rfl rfl) dX12_version_46 ?_
        refine va_get hx hb hts hinX7 hown hK (hM.Pa (hR_4.s9 (i := i) (by omega)).1 rfl (hR_4.s9 (i := i) (by omega)).2) 0 rfl rfl 3 (by decide) (hk4) (fun _ h9 => h9) rfl dX12_version_49 ?_
        obtain ⟨huz_12, hnz_12, mz_12, bz_12, hCz_12⟩ := isL.hd (hR_4.s12 (i := i) (by omega))
        refine zcVi (As := []) (rest := [.ref (ma 0 0)]) ⟨hx, hb, hml, hown, hts⟩ (c_size l D ty A u C_2 ma t0 mi 12 i (nV g i) (fun v => ma 15 (i * 6 + v)) (hR_4.s12 (i := i) (by omega))) (cwV 0 hts gX12_version_Jx4a65c_size_8abf5 rfl rfl rfl (by decide +kernel) ⟨Nat.le_of_ble_eq_true rfl, Nat.le_of_ble_eq_true rfl⟩) mI_blind (mI_pre hM hK hMS hS) (va_recv hK (hM.Pa huz_12 rfl hCz_12) (ci := 0) (q0 := 0) rfl rfl) rfl hl.1 rfl (Nat.le_of_ble_eq_true rfl) dX12_version_52 ⟨Nat.le_of_ble_eq_true rfl, Nat.le_of_ble_eq_true rfl⟩ (fun r_13 hr_13 => ?_)
        subst hr_13
        refine lv_bipush (v := nI 6) hx hb dX12_version_55 (by decide) ?_
        refine lv_icmp_ne (tgt := 64) hx hb dX12_version_57 (by decide) (fun c_14 => ?_) (fun c_14 => ?_)
        · have c_14 := zn_neT (a := (nV g i)) (b := 6) (by omega) (by omega) c_14
          omega
        · have c_14 := zn_neF (a := (nV g i)) (b := 6) (by omega) (by omega) c_14
          refine lv_iconst (v := nI 1) hx hb dX12_version_60 (by decide) ?_
          refine zeq (show nI 1 = bI true from rfl) ?_
          refine lv_goto (tgt := 65) hx hb dX12_version_61 (by decide) ?_
          refine lv_iconst (v := nI 3) hx hb dX12_version_65 (by decide) ?_
          refine va_calli (va_runV (As := [.int (bI true), .int (nI 3)]) (rest := []) ⟨hx, hb, hml, hown, hts⟩ (c_X12_refuse_t l D ty A u C_2 ma t0 mi g n1 n2 nL n4 n5 (nI 0) rep bro hR_4 rfl 3 (by omega) (by omega)) (cwV 2 hts gX12_version_X12_refuse rfl rfl rfl (by decide +kernel) ⟨Nat.le_of_ble_eq_true rfl, Nat.le_of_ble_eq_true rfl⟩) ⟨zBl mI_blind, (va_recv hK (hM.Pa hR_4.o.1 rfl hR_4.o.2) (ci := 13) (q0 := 0) rfl rfl), fun U h1 h2 => ⟨rfl, mI_pre hM hK hMS hS U h1 h2⟩⟩ rfl rfl hl.1 rfl (lv_room (Nat.le_of_ble_eq_true rfl)) dX12_version_66 ⟨Nat.le_of_ble_eq_true rfl, Nat.le_of_ble_eq_true rfl⟩) hS (fun _ _ h => h) (fun _ h => h) (fun r_16 C_15 t H1 locs ht hvm hw hB9 hz1 hk1 hS => ?_)
          obtain ⟨hr_16, hR_17⟩ := hw
          obtain ⟨hM, -, -⟩ := hB9
          rw [ht] at hM
          clear hk1 hz1 hvm ht
          clear t
          generalize H1 = H at hM hS ⊢
          subst hr_16
          refine lv_if_eq (tgt := 74) hx hb dX12_version_69 (by decide) (fun c_18 => ?_) (fun c_18 => ?_)
          · have c_18 := bI_f c_18
            cases c_18
          · have c_18 := bI_t c_18
            refine lv_iconst (v := nI 0) hx hb dX12_version_72 (by decide) ?_
            exact W.iret (v := nI 0) hx hb hr (fun t ht hW => ⟨⟨_, C_15, rfl, ⟨rfl, hR_17⟩, mI_pre hM hK hMS hS t ht hW⟩, hS.F ht⟩) hS.2.2 dX12_version_73
    · have c_7 := bI_f c_7
      simp only [c_5, c_7, Bool.not_true, Bool.not_false, Bool.and_true, Bool.true_and, Bool.and_false, Bool.false_and, Bool.or_true, Bool.true_or, Bool.or_false, Bool.false_or, Bool.and_self, Bool.or_self, Bool.true_eq_false, Bool.false_eq_true] at h2
