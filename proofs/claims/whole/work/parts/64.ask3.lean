set_option maxHeartbeats 600000 in
set_option maxRecDepth 100000 in
theorem m_harm (l : Launch) (D : va_G) (ty : Nat → ClassId) (A : Nat → Prop) (u : Nat → Nat → Prop) (C : Nat → Nat → va_E) (ma : Nat → Nat → Nat) (t0 mi : Nat) (g : Nat → Nat → Int32) (n1 n2 nL n4 n5 : Nat) (th : Int32) (rep bro : Nat → Nat → Int32) (hR : mR ty t0 g n1 n2 nL n4 n5 th rep bro u C ma) (i v f : Nat) (hi : i < n1) (hv : v < nV g i) (hf : f < nF g i) : Met l yX12_harm wsX12_harm ({ frames := 8, cells := 57, slots := 344, locals := 205 }) (va_Pc [.ref (ma 0 0), .int (nI i), .int (nI v), .int (nI f)] (mI D ty A u C ma t0 mi)) (va_Qi (fun (v9 : Int32) (C2 : Nat → Nat → va_E) => v9 = g 21 ((i * 6 + v) * 6 + f) ∧ mR ty t0 g n1 n2 nL n4 n5 (nI 0) rep bro u C2 ma) (fun C2 t => mI D ty A u C2 ma t0 mi t) A) 57 344 A := by
  refine zMet (cc := cX12_harm) (maxL := 4) (ret := (some .int)) (by decide) rfl (Nat.le_of_ble_eq_true rfl) ?_
  intro p e s m below meth c hx hb hr hts hown hlocks hml hB ls hl
  obtain ⟨hM, hK, hMS⟩ := hB
  have hS : va_S A s.heap s.heap [] := va_S.rf
  have hbn := hR.I.b1
  have hbs := hR.I.b2
  have hbl := hR.I.bL
  have hbc := hR.I.b4
  have hbr := hR.I.b5
  have h1 := bVal_ok hR.I hi hv hf
  have hf7 := (hR.I.f7 hi).2.2
  have hv7 := (hR.I.v7 hi).2
  have hl : lv_has ls 4 [(0, .ref (ma 0 0)), (1, .int (nI i)), (2, .int (nI v)), (3, .int (nI f))] := hl
  refine lv_aload_n hx hb dX12_harm_0 rfl (lv_at hl 0 rfl) ?_
  refine lv_aload_n hx hb dX12_harm_1 rfl (lv_at hl 0 rfl) ?_
  refine lv_iload_n hx hb dX12_harm_2 rfl (lv_at hl 1 rfl) ?_
  refine lv_iload_n hx hb dX12_harm_3 rfl (lv_at hl 2 rfl) ?_
  refine lv_iload_n hx hb dX12_harm_4 rfl (lv_at hl 3 rfl) ?_
  refine zcVi (As := [.int (nI i), .int (nI v), .int (nI f)]) (rest := [.ref (ma 0 0)]) ⟨hx, hb, hml, hown, hts⟩ (c_X12_isNoValue l D ty A u C ma t0 mi g n1 n2 nL n4 n5 th rep bro hR (nI i) (nI v) (nI f)) (cwV 3 hts gX12_harm_X12_isNoValue rfl rfl rfl (by decide +kernel) ⟨Nat.le_of_ble_eq_true rfl, Nat.le_of_ble_eq_true rfl⟩) mI_blind (mI_pre hM hK hMS hS) (va_recv hK (hM.Pa hR.o.1 rfl hR.o.2) (ci := 13) (q0 := 0) rfl rfl) rfl hl.1 rfl (Nat.le_of_ble_eq_true rfl) dX12_harm_5 ⟨Nat.le_of_ble_eq_true rfl, Nat.le_of_ble_eq_true rfl⟩ (fun r_1 hr_1 => ?_)
  subst hr_1
  refine zeq (show bI _ = bI false from by rw [h1]) ?_
  refine lv_iconst (v := nI 1) hx hb dX12_harm_8 (by decide) ?_
  refine va_calli (va_runV (As := [.int (bI false), .int (nI 1)]) (rest := []) ⟨hx, hb, hml, hown, hts⟩ (c_X12_start_f l D ty A u C ma t0 mi g n1 n2 nL n4 n5 th rep bro hR 1 (by omega) (by omega)) (cwV 2 hts gX12_harm_X12_start rfl rfl rfl (by decide +kernel) ⟨Nat.le_of_ble_eq_true rfl, Nat.le_of_ble_eq_true rfl⟩) ⟨zBl mI_blind, (va_recv hK (hM.Pa hR.o.1 rfl hR.o.2) (ci := 13) (q0 := 0) rfl rfl), fun U h1 h2 => ⟨rfl, mI_pre hM hK hMS hS U h1 h2⟩⟩ rfl rfl hl.1 rfl (lv_room (Nat.le_of_ble_eq_true rfl)) dX12_harm_9 ⟨Nat.le_of_ble_eq_true rfl, Nat.le_of_ble_eq_true rfl⟩) hS (fun _ _ h => h) (fun _ h => h) (fun r_3 C_2 t H1 locs ht hvm hw hB9 hz1 hk1 hS => ?_)
  obtain ⟨hr_3, hR_4⟩ := hw
  obtain ⟨hM, -, -⟩ := hB9
  rw [ht] at hM
  clear hk1 hz1 hvm ht
  clear t
  generalize H1 = H at hM hS ⊢
  subst hr_3
  refine lv_if_eq (tgt := 19) hx hb dX12_harm_12 (by decide) (fun c_5 => ?_) (fun c_5 => ?_)
  · have c_5 := bI_f c_5
    refine lv_aload_n hx hb dX12_harm_19 rfl (lv_at hl 0 rfl) ?_
    have hFc : ∀ q : Nat, H.size ≤ q → A q := fun q h => hM.2.2 q h
    refine va_callr (va_runV (As := []) (rest := []) ⟨hx, hb, hml, hown, hts⟩ (c_X12_harms l D ty A u C_2 ma t0 mi g n1 n2 nL n4 n5 (nI 0) rep bro hR_4 H.size) (cwV 0 hts gX12_harm_X12_harms rfl rfl rfl (by decide +kernel) ⟨Nat.le_of_ble_eq_true rfl, Nat.le_of_ble_eq_true rfl⟩) ⟨zBl mIs_blind, (va_recv hK (hM.Pa hR_4.o.1 rfl hR_4.o.2) (ci := 13) (q0 := 0) rfl rfl), fun U h1 h2 => ⟨rfl, mI_pre hM hK hMS hS U h1 h2, by rw [h1]⟩⟩ rfl rfl hl.1 rfl (lv_room (Nat.le_of_ble_eq_true rfl)) dX12_harm_20 ⟨Nat.le_of_ble_eq_true rfl, Nat.le_of_ble_eq_true rfl⟩) hS (fun q _ h => hFc q h) hFc (fun u9 ah t H1 locs ht hvm hw hB9 hz1 hk1 hS => ?_)
    have ho9 : ∀ q : Nat, q < H.size → H1[q]? = H[q]? := fun q hq => hk1 q hq (Nat.not_le.mpr hq)
    have hM := hM.ext (fun q hq _ => ho9 q hq) hz1
    obtain ⟨hmb, hmd, hA, hAd⟩ := hB9
    rw [ht] at hA
    clear hk1 hz1 hvm ht ho9 hFc
    clear t
    generalize H1 = H at hM hS hA ⊢
    refine lv_iload_n hx hb dX12_harm_23 rfl (lv_at hl 1 rfl) ?_
    refine maldq hx hb hK (va_P1 hA.1) 0 4 rfl rfl (vp_in_nI (by omega) (by omega)) dX12_harm_24 ?_
    refine zeqv (y := .ref (hmb i)) (by rw [nI_clamp (by omega)]; rfl) ?_
    refine lv_iload_n hx hb dX12_harm_25 rfl (lv_at hl 2 rfl) ?_
    refine maldq hx hb hK (va_P1 (hA.2.1 (i) (by omega))) 0 3 rfl rfl (vp_in_nI (by omega) (by omega)) dX12_harm_26 ?_
    refine zeqv (y := .ref (hmd (i * 6 + v))) (by rw [nI_clamp (by omega)]; rfl) ?_
    refine lv_iload_n hx hb dX12_harm_27 rfl (lv_at hl 3 rfl) ?_
    refine zald hx hb hK (va_P1 (hA.2.2 (i * 6 + v) (by omega))) 0 0 rfl rfl (i := f) (by omega) (by omega) dX12_harm_28 ?_
    refine zeq (row6_at (by omega)) ?_
    refine W.widen (k := 57) (n := 344) (by omega) (by omega) ?_
    exact W.iret (v := g 21 ((i * 6 + v) * 6 + f)) hx hb hr (fun t ht hW => ⟨⟨_, C_2, rfl, ⟨rfl, hR_4⟩, mI_pre hM hK hMS hS t ht hW⟩, hS.F ht⟩) hS.2.2 dX12_harm_29
  · have c_5 := bI_t c_5
    cases c_5
set_option maxHeartbeats 600000 in
set_option maxRecDepth 100000 in
theorem m_harm_x1 (l : Launch) (D : va_G) (ty : Nat → ClassId) (A : Nat → Prop) (u : Nat → Nat → Prop) (C : Nat → Nat → va_E) (ma : Nat → Nat → Nat) (t0 mi : Nat) (g : Nat → Nat → Int32) (n1 n2 nL n4 n5 : Nat) (th : Int32) (rep bro : Nat → Nat → Int32) (hR : mR ty t0 g n1 n2 nL n4 n5 th rep bro u C ma) (x v f : Int32) (h1 : bVal g n1 x v f = true) : Met l yX12_harm wsX12_harm ({ frames := 8, cells := 0, slots := 0, locals := 205 }) (va_Pc [.ref (ma 0 0), .int x, .int v, .int f] (mI D ty A u C ma t0 mi)) (va_Qi (fun (v9 : Int32) (C2 : Nat → Nat → va_E) => v9 = nI 0 ∧ mR ty t0 g n1 n2 nL n4 n5 (nI 1) rep bro u C2 ma) (fun C2 t => mI D ty A u C2 ma t0 mi t) A) 0 0 A := by
  refine zMet (cc := cX12_harm) (maxL := 4) (ret := (some .int)) (by decide) rfl (Nat.le_of_ble_eq_true rfl) ?_
  intro p e s m below meth c hx hb hr hts hown hlocks hml hB ls hl
  obtain ⟨hM, hK, hMS⟩ := hB
  have hS : va_S A s.heap s.heap [] := va_S.rf
  have hbn := hR.I.b1
  have hbs := hR.I.b2
  have hbl := hR.I.bL
  have hbc := hR.I.b4
  have hbr := hR.I.b5
  have hl : lv_has ls 4 [(0, .ref (ma 0 0)), (1, .int x), (2, .int v), (3, .int f)] := hl
  refine lv_aload_n hx hb dX12_harm_0 rfl (lv_at hl 0 rfl) ?_
  refine lv_aload_n hx hb dX12_harm_1 rfl (lv_at hl 0 rfl) ?_
  refine lv_iload_n hx hb dX12_harm_2 rfl (lv_at hl 1 rfl) ?_
  refine lv_iload_n hx hb dX12_harm_3 rfl (lv_at hl 2 rfl) ?_
  refine lv_iload_n hx hb dX12_harm_4 rfl (lv_at hl 3 rfl) ?_
  refine zcVi (As := [.int x, .int v, .int f]) (rest := [.ref (ma 0 0)]) ⟨hx, hb, hml, hown, hts⟩ (c_X12_isNoValue l D ty A u C ma t0 mi g n1 n2 nL n4 n5 th rep bro hR x v f) (cwV 3 hts gX12_harm_X12_isNoValue rfl rfl rfl (by decide +kernel) ⟨Nat.le_of_ble_eq_true rfl, Nat.le_of_ble_eq_true rfl⟩) mI_blind (mI_pre hM hK hMS hS) (va_recv hK (hM.Pa hR.o.1 rfl hR.o.2) (ci := 13) (q0 := 0) rfl rfl) rfl hl.1 rfl (Nat.le_of_ble_eq_true rfl) dX12_harm_5 ⟨Nat.le_of_ble_eq_true rfl, Nat.le_of_ble_eq_true rfl⟩ (fun r_1 hr_1 => ?_)
  subst hr_1
  refine zeq (show bI _ = bI true from by rw [h1]) ?_
  refine lv_iconst (v := nI 1) hx hb dX12_harm_8 (by decide) ?_
  refine va_calli (va_runV (As := [.int (bI true), .int (nI 1)]) (rest := []) ⟨hx, hb, hml, hown, hts⟩ (c_X12_start_t l D ty A u C ma t0 mi g n1 n2 nL n4 n5 th rep bro hR 1 (by omega) (by omega)) (cwV 2 hts gX12_harm_X12_start rfl rfl rfl (by decide +kernel) ⟨Nat.le_of_ble_eq_true rfl, Nat.le_of_ble_eq_true rfl⟩) ⟨zBl mI_blind, (va_recv hK (hM.Pa hR.o.1 rfl hR.o.2) (ci := 13) (q0 := 0) rfl rfl), fun U h1 h2 => ⟨rfl, mI_pre hM hK hMS hS U h1 h2⟩⟩ rfl rfl hl.1 rfl (lv_room (Nat.le_of_ble_eq_true rfl)) dX12_harm_9 ⟨Nat.le_of_ble_eq_true rfl, Nat.le_of_ble_eq_true rfl⟩) hS (fun _ _ h => h) (fun _ h => h) (fun r_3 C_2 t H1 locs ht hvm hw hB9 hz1 hk1 hS => ?_)
  obtain ⟨hr_3, hR_4⟩ := hw
  obtain ⟨hM, -, -⟩ := hB9
  rw [ht] at hM
  clear hk1 hz1 hvm ht
  clear t
  generalize H1 = H at hM hS ⊢
  subst hr_3
  refine lv_if_eq (tgt := 19) hx hb dX12_harm_12 (by decide) (fun c_5 => ?_) (fun c_5 => ?_)
  · have c_5 := bI_f c_5
    cases c_5
  · have c_5 := bI_t c_5
    refine lv_iconst (v := nI 0) hx hb dX12_harm_15 (by decide) ?_
    refine lv_goto (tgt := 29) hx hb dX12_harm_16 (by decide) ?_
    exact W.iret (v := nI 0) hx hb hr (fun t ht hW => ⟨⟨_, C_2, rfl, ⟨rfl, hR_4⟩, mI_pre hM hK hMS hS t ht hW⟩, hS.F ht⟩) hS.2.2 dX12_harm_29
set_option maxHeartbeats 600000 in
set_option maxRecDepth 100000 in
theorem m_ofSet (l : Launch) (D : va_G) (ty : Nat → ClassId) (A : Nat → Prop) (u : Nat → Nat → Prop) (C : Nat → Nat → va_E) (ma : Nat → Nat → Nat) (t0 mi : Nat) (g : Nat → Nat → Int32) (n1 n2 nL n4 n5 : Nat) (th : Int32) (rep bro : Nat → Nat → Int32) (hR : mR ty t0 g n1 n2 nL n4 n5 th rep bro u C ma) (i w0 : Nat) (hi : i < n1) (hw : w0 < 7) : Met l yX12_ofSet wsX12_ofSet ({ frames := 7, cells := 57, slots := 344, locals := 227 }) (va_Pc [.ref (ma 0 0), .int (nI i), .int (nI w0)] (mI D ty A u C ma t0 mi)) (va_Qi (fun (v9 : Int32) (C2 : Nat → Nat → va_E) => v9 = ofSetN g n5 i w0 ∧ mR ty t0 g n1 n2 nL n4 n5 (nI 0) rep bro u C2 ma) (fun C2 t => mI D ty A u C2 ma t0 mi t) A) 57 344 A := by
  refine zMet (cc := cX12_ofSet) (maxL := 3) (ret := (some .int)) (by decide) rfl (Nat.le_of_ble_eq_true rfl) ?_
  intro p e s m below meth c hx hb hr hts hown hlocks hml hB ls hl
  obtain ⟨hM, hK, hMS⟩ := hB
  have hS : va_S A s.heap s.heap [] := va_S.rf
  have hbn := hR.I.b1
  have hbs := hR.I.b2
  have hbl := hR.I.bL
  have hbc := hR.I.b4
  have hbr := hR.I.b5
  have h1 := bNo_ok hR.I.b1 hi
  have h2 : (!inB (nI w0) (nI 0) (nI 6)) = false := by rw [inB_k (by omega) (by decide)]; rfl
  have hl : lv_has ls 3 [(0, .ref (ma 0 0)), (1, .int (nI i)), (2, .int (nI w0))] := hl
  refine lv_aload_n hx hb dX12_ofSet_0 rfl (lv_at hl 0 rfl) ?_
  refine lv_aload_n hx hb dX12_ofSet_1 rfl (lv_at hl 0 rfl) ?_
  refine lv_iload_n hx hb dX12_ofSet_2 rfl (lv_at hl 1 rfl) ?_
  refine zcVi (As := [.int (nI i)]) (rest := [.ref (ma 0 0)]) ⟨hx, hb, hml, hown, hts⟩ (c_X12_isNo l D ty A u C ma t0 mi g n1 n2 nL n4 n5 th rep bro hR (nI i)) (cwV 1 hts gX12_ofSet_X12_isNo rfl rfl rfl (by decide +kernel) ⟨Nat.le_of_ble_eq_true rfl, Nat.le_of_ble_eq_true rfl⟩) mI_blind (mI_pre hM hK hMS hS) (va_recv hK (hM.Pa hR.o.1 rfl hR.o.2) (ci := 13) (q0 := 0) rfl rfl) rfl hl.1 rfl (Nat.le_of_ble_eq_true rfl) dX12_ofSet_3 ⟨Nat.le_of_ble_eq_true rfl, Nat.le_of_ble_eq_true rfl⟩ (fun r_1 hr_1 => ?_)
  subst hr_1
  refine zeq (show bI _ = bI false from by rw [h1]) ?_
  refine lv_iconst (v := nI 1) hx hb dX12_ofSet_6 (by decide) ?_
  refine va_calli (va_runV (As := [.int (bI false), .int (nI 1)]) (rest := []) ⟨hx, hb, hml, hown, hts⟩ (c_X12_start_f l D ty A u C ma t0 mi g n1 n2 nL n4 n5 th rep bro hR 1 (by omega) (by omega)) (cwV 2 hts gX12_ofSet_X12_start rfl rfl rfl (by decide +kernel) ⟨Nat.le_of_ble_eq_true rfl, Nat.le_of_ble_eq_true rfl⟩) ⟨zBl mI_blind, (va_recv hK (hM.Pa hR.o.1 rfl hR.o.2) (ci := 13) (q0 := 0) rfl rfl), fun U h1 h2 => ⟨rfl, mI_pre hM hK hMS hS U h1 h2⟩⟩ rfl rfl hl.1 rfl (lv_room (Nat.le_of_ble_eq_true rfl)) dX12_ofSet_7 ⟨Nat.le_of_ble_eq_true rfl, Nat.le_of_ble_eq_true rfl⟩) hS (fun _ _ h => h) (fun _ h => h) (fun r_3 C_2 t H1 locs ht hvm hw hB9 hz1 hk1 hS => ?_)
  obtain ⟨hr_3, hR_4⟩ := hw
  obtain ⟨hM, -, -⟩ := hB9
  rw [ht] at hM
  clear hk1 hz1 hvm ht
  clear t
  generalize H1 = H at hM hS ⊢
  subst hr_3
  refine lv_if_ne (tgt := 36) hx hb dX12_ofSet_10 (by decide) (fun c_5 => ?_) (fun c_5 => ?_)
  · have c_5 := bI_t c_5
    cases c_5
  · have c_5 := bI_f c_5
    refine lv_aload_n hx hb dX12_ofSet_13 rfl (lv_at hl 0 rfl) ?_
    refine lv_iload_n hx hb dX12_ofSet_14 rfl (lv_at hl 2 rfl) ?_
    refine lv_iconst (v := nI 0) hx hb dX12_ofSet_15 (by decide) ?_
    refine lv_bipush (v := nI 6) hx hb dX12_ofSet_16 (by decide) ?_
    refine zcSi (As := [.int (nI w0), .int (nI 0), .int (nI 6)]) (rest := [.ref (ma 0 0)]) ⟨hx, hb, hml, hown, hts⟩ (c_X12_isIn l _ (nI w0) (nI 0) (nI 6)) (cwS 3 hts gX12_ofSet_X12_isIn rfl rfl rfl (by decide +kernel) ⟨Nat.le_of_ble_eq_true rfl, Nat.le_of_ble_eq_true rfl⟩) (B := fun _ => True) (fun _ _ _ _ _ => trivial) (fun _ _ _ => trivial) rfl hl.1 rfl (Nat.le_of_ble_eq_true rfl) dX12_ofSet_18 ⟨Nat.le_of_ble_eq_true rfl, Nat.le_of_ble_eq_true rfl⟩ (fun r_6 hr_6 => ?_)
    subst hr_6
    refine lv_if_ne (tgt := 28) hx hb dX12_ofSet_21 (by decide) (fun c_7 => ?_) (fun c_7 => ?_)
    · have c_7 := bI_t c_7
      refine lv_iconst (v := nI 0) hx hb dX12_ofSet_28 (by decide) ?_
      refine zeq (show nI 0 = bI false from rfl) ?_
      refine lv_iconst (v := nI 2) hx hb dX12_ofSet_29 (by decide) ?_
      refine zcVi (As := [.int (bI false), .int (nI 2)]) (rest := []) ⟨hx, hb, hml, hown, hts⟩ (c_X12_refuse_f l D ty A u C_2 ma t0 mi g n1 n2 nL n4 n5 (nI 0) rep bro hR_4 rfl (nI 2)) (cwV 2 hts gX12_ofSet_X12_refuse rfl rfl rfl (by decide +kernel) ⟨Nat.le_of_ble_eq_true rfl, Nat.le_of_ble_eq_true rfl⟩) mI_blind (mI_pre hM hK hMS hS) (va_recv hK (hM.Pa hR_4.o.1 rfl hR_4.o.2) (ci := 13) (q0 := 0) rfl rfl) rfl hl.1 rfl (Nat.le_of_ble_eq_true rfl) dX12_ofSet_30 ⟨Nat.le_of_ble_eq_true rfl, Nat.le_of_ble_eq_true rfl⟩ (fun r_8 hr_8 => ?_)
      subst hr_8
      refine lv_if_eq (tgt := 40) hx hb dX12_ofSet_33 (by decide) (fun c_9 => ?_) (fun c_9 => ?_)
      · have c_9 := bI_f c_9
        refine lv_aload_n hx hb dX12_ofSet_40 rfl (lv_at hl 0 rfl) ?_
        refine lv_aload_n hx hb dX12_ofSet_41 rfl (lv_at hl 0 rfl) ?_
        have hFc : ∀ q : Nat, H.size ≤ q → A q := fun q h => hM.2.2 q h
        refine va_callr (va_runV (As := []) (rest := [.ref (ma 0 0)]) ⟨hx, hb, hml, hown, hts⟩ (c_X12_harms l D ty A u C_2 ma t0 mi g n1 n2 nL n4 n5 (nI 0) rep bro hR_4 H.size) (cwV 0 hts gX12_ofSet_X12_harms rfl rfl rfl (by decide +kernel) ⟨Nat.le_of_ble_eq_true rfl, Nat.le_of_ble_eq_true rfl⟩) ⟨zBl mIs_blind, (va_recv hK (hM.Pa hR_4.o.1 rfl hR_4.o.2) (ci := 13) (q0 := 0) rfl rfl), fun U h1 h2 => ⟨rfl, mI_pre hM hK hMS hS U h1 h2, by rw [h1]⟩⟩ rfl rfl hl.1 rfl (lv_room (Nat.le_of_ble_eq_true rfl)) dX12_ofSet_42 ⟨Nat.le_of_ble_eq_true rfl, Nat.le_of_ble_eq_true rfl⟩) hS (fun q _ h => hFc q h) hFc (fun u9 ah t H1 locs ht hvm hw hB9 hz1 hk1 hS => ?_)
        have ho9 : ∀ q : Nat, q < H.size → H1[q]? = H[q]? := fun q hq => hk1 q hq (Nat.not_le.mpr hq)
        have hM := hM.ext (fun q hq _ => ho9 q hq) hz1
        obtain ⟨hmb, hmd, hA, hAd⟩ := hB9
        rw [ht] at hA
        clear hk1 hz1 hvm ht ho9 hFc
        clear t
        generalize H1 = H at hM hS hA ⊢
        refine lv_iload_n hx hb dX12_ofSet_45 rfl (lv_at hl 1 rfl) ?_
        refine lv_iload_n hx hb dX12_ofSet_46 rfl (lv_at hl 2 rfl) ?_
        refine zcVi (As := [.ref ah, .int (nI i), .int (nI w0)]) (rest := []) ⟨hx, hb, hml, hown, hts⟩ (c_X12_ofSetNow l D ty A u C_2 ma t0 mi g n1 n2 nL n4 n5 (nI 0) rep bro hR_4 _ i (by omega) w0 (by omega)) (cwV 3 hts gX12_ofSet_X12_ofSetNow rfl rfl rfl (by decide +kernel) ⟨Nat.le_of_ble_eq_true rfl, Nat.le_of_ble_eq_true rfl⟩) mIh_blind (mIh_pre hM hK hMS hS hA) (va_recv hK (hM.Pa hR_4.o.1 rfl hR_4.o.2) (ci := 13) (q0 := 0) rfl rfl) rfl hl.1 rfl (Nat.le_of_ble_eq_true rfl) dX12_ofSet_47 ⟨Nat.le_of_ble_eq_true rfl, Nat.le_of_ble_eq_true rfl⟩ (fun r_11 hr_11 => ?_)
        subst hr_11
        refine W.widen (k := 57) (n := 344) (by omega) (by omega) ?_
        exact W.iret (v := ofSetN g n5 i w0) hx hb hr (fun t ht hW => ⟨⟨_, C_2, rfl, ⟨rfl, hR_4⟩, mI_pre hM hK hMS hS t ht hW⟩, hS.F ht⟩) hS.2.2 dX12_ofSet_50
      · have c_9 := bI_t c_9
        cases c_9
    · have c_7 := bI_f c_7
      simp only [c_5, c_7, Bool.not_true, Bool.not_false, Bool.and_true, Bool.true_and, Bool.and_false, Bool.false_and, Bool.or_true, Bool.true_or, Bool.or_false, Bool.false_or, Bool.and_self, Bool.or_self, Bool.true_eq_false, Bool.false_eq_true] at h2
set_option maxHeartbeats 600000 in
set_option maxRecDepth 100000 in
theorem m_ofSet_x1 (l : Launch) (D : va_G) (ty : Nat → ClassId) (A : Nat → Prop) (u : Nat → Nat → Prop) (C : Nat → Nat → va_E) (ma : Nat → Nat → Nat) (t0 mi : Nat) (g : Nat → Nat → Int32) (n1 n2 nL n4 n5 : Nat) (th : Int32) (rep bro : Nat → Nat → Int32) (hR : mR ty t0 g n1 n2 nL n4 n5 th rep bro u C ma) (x w0 : Int32) (h1 : bNo n1 x = true) : Met l yX12_ofSet wsX12_ofSet ({ frames := 7, cells := 0, slots := 0, locals := 192 }) (va_Pc [.ref (ma 0 0), .int x, .int w0] (mI D ty A u C ma t0 mi)) (va_Qi (fun (v9 : Int32) (C2 : Nat → Nat → va_E) => v9 = nI 0 ∧ mR ty t0 g n1 n2 nL n4 n5 (nI 1) rep bro u C2 ma) (fun C2 t => mI D ty A u C2 ma t0 mi t) A) 0 0 A := by
  refine zMet (cc := cX12_ofSet) (maxL := 3) (ret := (some .int)) (by decide) rfl (Nat.le_of_ble_eq_true rfl) ?_
  intro p e s m below meth c hx hb hr hts hown hlocks hml hB ls hl
  obtain ⟨hM, hK, hMS⟩ := hB
  have hS : va_S A s.heap s.heap [] := va_S.rf
  have hbn := hR.I.b1
  have hbs := hR.I.b2
  have hbl := hR.I.bL
  have hbc := hR.I.b4
  have hbr := hR.I.b5
  have hl : lv_has ls 3 [(0, .ref (ma 0 0)), (1, .int x), (2, .int w0)] := hl
  refine lv_aload_n hx hb dX12_ofSet_0 rfl (lv_at hl 0 rfl) ?_
  refine lv_aload_n hx hb dX12_ofSet_1 rfl (lv_at hl 0 rfl) ?_
  refine lv_iload_n hx hb dX12_ofSet_2 rfl (lv_at hl 1 rfl) ?_
  refine zcVi (As := [.int x]) (rest := [.ref (ma 0 0)]) ⟨hx, hb, hml, hown, hts⟩ (c_X12_isNo l D ty A u C ma t0 mi g n1 n2 nL n4 n5 th rep bro hR x) (cwV 1 hts gX12_ofSet_X12_isNo rfl rfl rfl (by decide +kernel) ⟨Nat.le_of_ble_eq_true rfl, Nat.le_of_ble_eq_true rfl⟩) mI_blind (mI_pre hM hK hMS hS) (va_recv hK (hM.Pa hR.o.1 rfl hR.o.2) (ci := 13) (q0 := 0) rfl rfl) rfl hl.1 rfl (Nat.le_of_ble_eq_true rfl) dX12_ofSet_3 ⟨Nat.le_of_ble_eq_true rfl, Nat.le_of_ble_eq_true rfl⟩ (fun r_1 hr_1 => ?_)
  subst hr_1
  refine zeq (show bI _ = bI true from by rw [h1]) ?_
  refine lv_iconst (v := nI 1) hx hb dX12_ofSet_6 (by decide) ?_
  refine va_calli (va_runV (As := [.int (bI true), .int (nI 1)]) (rest := []) ⟨hx, hb, hml, hown, hts⟩ (c_X12_start_t l D ty A u C ma t0 mi g n1 n2 nL n4 n5 th rep bro hR 1 (by omega) (by omega)) (cwV 2 hts gX12_ofSet_X12_start rfl rfl rfl (by decide +kernel) ⟨Nat.le_of_ble_eq_true rfl, Nat.le_of_ble_eq_true rfl⟩) ⟨zBl mI_blind, (va_recv hK (hM.Pa hR.o.1 rfl hR.o.2) (ci := 13) (q0 := 0) rfl rfl), fun U h1 h2 => ⟨rfl, mI_pre hM hK hMS hS U h1 h2⟩⟩ rfl rfl hl.1 rfl (lv_room (Nat.le_of_ble_eq_true rfl)) dX12_ofSet_7 ⟨Nat.le_of_ble_eq_true rfl, Nat.le_of_ble_eq_true rfl⟩) hS (fun _ _ h => h) (fun _ h => h) (fun r_3 C_2 t H1 locs ht hvm hw hB9 hz1 hk1 hS => ?_)
  obtain ⟨hr_3, hR_4⟩ := hw
  obtain ⟨hM, -, -⟩ := hB9
  rw [ht] at hM
  clear hk1 hz1 hvm ht
  clear t
  generalize H1 = H at hM hS ⊢
  subst hr_3
  refine lv_if_ne (tgt := 36) hx hb dX12_ofSet_10 (by decide) (fun c_5 => ?_) (fun c_5 => ?_)
  · have c_5 := bI_t c_5
    refine lv_iconst (v := nI 0) hx hb dX12_ofSet_36 (by decide) ?_
    refine lv_goto (tgt := 50) hx hb dX12_ofSet_37 (by decide) ?_
    exact W.iret (v := nI 0) hx hb hr (fun t ht hW => ⟨⟨_, C_2, rfl, ⟨rfl, hR_4⟩, mI_pre hM hK hMS hS t ht hW⟩, hS.F ht⟩) hS.2.2 dX12_ofSet_50
  · have c_5 := bI_f c_5
    cases c_5
set_option maxHeartbeats 600000 in
set_option maxRecDepth 100000 in
theorem m_ofSet_x2 (l : Launch) (D : va_G) (ty : Nat → ClassId) (A : Nat → Prop) (u : Nat → Nat → Prop) (C : Nat → Nat → va_E) (ma : Nat → Nat → Nat) (t0 mi : Nat) (g : Nat → Nat → Int32) (n1 n2 nL n4 n5 : Nat) (th : Int32) (rep bro : Nat → Nat → Int32) (hR : mR ty t0 g n1 n2 nL n4 n5 th rep bro u C ma) (x w0 : Int32) (h1 : bNo n1 x = false) (h2 : (!inB w0 (nI 0) (nI 6)) = true) : Met l yX12_ofSet wsX12_ofSet ({ frames := 7, cells := 0, slots := 0, locals := 192 }) (va_Pc [.ref (ma 0 0), .int x, .int w0] (mI D ty A u C ma t0 mi)) (va_Qi (fun (v9 : Int32) (C2 : Nat → Nat → va_E) => v9 = nI 0 ∧ mR ty t0 g n1 n2 nL n4 n5 (nI 2) rep bro u C2 ma) (fun C2 t => mI D ty A u C2 ma t0 mi t) A) 0 0 A := by
  refine zMet (cc := cX12_ofSet) (maxL := 3) (ret := (some .int)) (by decide) rfl (Nat.le_of_ble_eq_true rfl) ?_
  intro p e s m below meth c hx hb hr hts hown hlocks hml hB ls hl
  obtain ⟨hM, hK, hMS⟩ := hB
  have hS : va_S A s.heap s.heap [] := va_S.rf
  have hbn := hR.I.b1
  have hbs := hR.I.b2
  have hbl := hR.I.bL
  have hbc := hR.I.b4
  have hbr := hR.I.b5
  have hl : lv_has ls 3 [(0, .ref (ma 0 0)), (1, .int x), (2, .int w0)] := hl
  refine lv_aload_n hx hb dX12_ofSet_0 rfl (lv_at hl 0 rfl) ?_
  refine lv_aload_n hx hb dX12_ofSet_1 rfl (lv_at hl 0 rfl) ?_
  refine lv_iload_n hx hb dX12_ofSet_2 rfl (lv_at hl 1 rfl) ?_
  refine zcVi (As := [.int x]) (rest := [.ref (ma 0 0)]) ⟨hx, hb, hml, hown, hts⟩ (c_X12_isNo l D ty A u C ma t0 mi g n1 n2 nL n4 n5 th rep bro hR x) (cwV 1 hts gX12_ofSet_X12_isNo rfl rfl rfl (by decide +kernel) ⟨Nat.le_of_ble_eq_true rfl, Nat.le_of_ble_eq_true rfl⟩) mI_blind (mI_pre hM hK hMS hS) (va_recv hK (hM.Pa hR.o.1 rfl hR.o.2) (ci := 13) (q0 := 0) rfl rfl) rfl hl.1 rfl (Nat.le_of_ble_eq_true rfl) dX12_ofSet_3 ⟨Nat.le_of_ble_eq_true rfl, Nat.le_of_ble_eq_true rfl⟩ (fun r_1 hr_1 => ?_)
  subst hr_1
  refine zeq (show bI _ = bI false from by rw [h1]) ?_
  refine lv_iconst (v := nI 1) hx hb dX12_ofSet_6 (by decide) ?_
  refine va_calli (va_runV (As := [.int (bI false), .int (nI 1)]) (rest := []) ⟨hx, hb, hml, hown, hts⟩ (c_X12_start_f l D ty A u C ma t0 mi g n1 n2 nL n4 n5 th rep bro hR 1 (by omega) (by omega)) (cwV 2 hts gX12_ofSet_X12_start rfl rfl rfl (by decide +kernel) ⟨Nat.le_of_ble_eq_true rfl, Nat.le_of_ble_eq_true rfl⟩) ⟨zBl mI_blind, (va_recv hK (hM.Pa hR.o.1 rfl hR.o.2) (ci := 13) (q0 := 0) rfl rfl), fun U h1 h2 => ⟨rfl, mI_pre hM hK hMS hS U h1 h2⟩⟩ rfl rfl hl.1 rfl (lv_room (Nat.le_of_ble_eq_true rfl)) dX12_ofSet_7 ⟨Nat.le_of_ble_eq_true rfl, Nat.le_of_ble_eq_true rfl⟩) hS (fun _ _ h => h) (fun _ h => h) (fun r_3 C_2 t H1 locs ht hvm hw hB9 hz1 hk1 hS => ?_)
  obtain ⟨hr_3, hR_4⟩ := hw
  obtain ⟨hM, -, -⟩ := hB9
  rw [ht] at hM
  clear hk1 hz1 hvm ht
  clear t
  generalize H1 = H at hM hS ⊢
  subst hr_3
  refine lv_if_ne (tgt := 36) hx hb dX12_ofSet_10 (by decide) (fun c_5 => ?_) (fun c_5 => ?_)
  · have c_5 := bI_t c_5
    cases c_5
  · have c_5 := bI_f c_5
    refine lv_aload_n hx hb dX12_ofSet_13 rfl (lv_at hl 0 rfl) ?_
    refine lv_iload_n hx hb dX12_ofSet_14 rfl (lv_at hl 2 rfl) ?_
    refine lv_iconst (v := nI 0) hx hb dX12_ofSet_15 (by decide) ?_
    refine lv_bipush (v := nI 6) hx hb dX12_ofSet_16 (by decide) ?_
    refine zcSi (As := [.int w0, .int (nI 0), .int (nI 6)]) (rest := [.ref (ma 0 0)]) ⟨hx, hb, hml, hown, hts⟩ (c_X12_isIn l _ w0 (nI 0) (nI 6)) (cwS 3 hts gX12_ofSet_X12_isIn rfl rfl rfl (by decide +kernel) ⟨Nat.le_of_ble_eq_true rfl, Nat.le_of_ble_eq_true rfl⟩) (B := fun _ => True) (fun _ _ _ _ _ => trivial) (fun _ _ _ => trivial) rfl hl.1 rfl (Nat.le_of_ble_eq_true rfl) dX12_ofSet_18 ⟨Nat.le_of_ble_eq_true rfl, Nat.le_of_ble_eq_true rfl⟩ (fun r_6 hr_6 => ?_)
    subst hr_6
    refine lv_if_ne (tgt := 28) hx hb dX12_ofSet_21 (by decide) (fun c_7 => ?_) (fun c_7 => ?_)
    · have c_7 := bI_t c_7
      simp only [c_5, c_7, Bool.not_true, Bool.not_false, Bool.and_true, Bool.true_and, Bool.and_false, Bool.false_and, Bool.or_true, Bool.true_or, Bool.or_false, Bool.false_or, Bool.and_self, Bool.or_self, Bool.true_eq_false, Bool.false_eq_true] at h2
    · have c_7 := bI_f c_7
      refine lv_iconst (v := nI 1) hx hb dX12_ofSet_24 (by decide) ?_
      refine zeq (show nI 1 = bI true from rfl) ?_
      refine lv_goto (tgt := 29) hx hb dX12_ofSet_25 (by decide) ?_
      refine lv_iconst (v := nI 2) hx hb dX12_ofSet_29 (by decide) ?_
      refine va_calli (va_runV (As := [.int (bI true), .int (nI 2)]) (rest := []) ⟨hx, hb, hml, hown, hts⟩ (c_X12_refuse_t l D ty A u C_2 ma t0 mi g n1 n2 nL n4 n5 (nI 0) rep bro hR_4 rfl 2 (by omega) (by omega)) (cwV 2 hts gX12_ofSet_X12_refuse rfl rfl rfl (by decide +kernel) ⟨Nat.le_of_ble_eq_true rfl, Nat.le_of_ble_eq_true rfl⟩) ⟨zBl mI_blind, (va_recv hK (hM.Pa hR_4.o.1 rfl hR_4.o.2) (ci := 13) (q0 := 0) rfl rfl), fun U h1 h2 => ⟨rfl, mI_pre hM hK hMS hS U h1 h2⟩⟩ rfl rfl hl.1 rfl (lv_room (Nat.le_of_ble_eq_true rfl)) dX12_ofSet_30 ⟨Nat.le_of_ble_eq_true rfl, Nat.le_of_ble_eq_true rfl⟩) hS (fun _ _ h => h) (fun _ h => h) (fun r_9 C_8 t H1 locs ht hvm hw hB9 hz1 hk1 hS => ?_)
      obtain ⟨hr_9, hR_10⟩ := hw
      obtain ⟨hM, -, -⟩ := hB9
      rw [ht] at hM
      clear hk1 hz1 hvm ht
      clear t
      generalize H1 = H at hM hS ⊢
      subst hr_9
      refine lv_if_eq (tgt := 40) hx hb dX12_ofSet_33 (by decide) (fun c_11 => ?_) (fun c_11 => ?_)
      · have c_11 := bI_f c_11
        cases c_11
      · have c_11 := bI_t c_11
        refine lv_iconst (v := nI 0) hx hb dX12_ofSet_36 (by decide) ?_
        refine lv_goto (tgt := 50) hx hb dX12_ofSet_37 (by decide) ?_
        exact W.iret (v := nI 0) hx hb hr (fun t ht hW => ⟨⟨_, C_8, rfl, ⟨rfl, hR_10⟩, mI_pre hM hK hMS hS t ht hW⟩, hS.F ht⟩) hS.2.2 dX12_ofSet_50
set_option maxHeartbeats 600000 in
set_option maxRecDepth 100000 in
theorem m_isMadeOf (l : Launch) (D : va_G) (ty : Nat → ClassId) (A : Nat → Prop) (u : Nat → Nat → Prop) (C : Nat → Nat → va_E) (ma : Nat → Nat → Nat) (t0 mi : Nat) (g : Nat → Nat → Int32) (n1 n2 nL n4 n5 : Nat) (th : Int32) (rep bro : Nat → Nat → Int32) (hR : mR ty t0 g n1 n2 nL n4 n5 th rep bro u C ma) (i v f i2 v2 f2 : Nat) (hi : i < n1) (hv : v < nV g i) (hf : f < nF g i) (hi2 : i2 < n1) (hv2 : v2 < nV g i2) (hf2 : f2 < nF g i2) : Met l yX12_isMadeOf wsX12_isMadeOf ({ frames := 11, cells := 0, slots := 0, locals := 296 }) (va_Pc [.ref (ma 0 0), .int (nI i), .int (nI v), .int (nI f), .int (nI i2), .int (nI v2), .int (nI f2)] (mI D ty A u C ma t0 mi)) (va_Qi (fun (v9 : Int32) (C2 : Nat → Nat → va_E) => v9 = bI (mdN g nL ((i2 * 6 + v2) * 6 + f2) 8 ((i * 6 + v) * 6 + f)) ∧ mR ty t0 g n1 n2 nL n4 n5 (nI 0) rep bro u C2 ma) (fun C2 t => mI D ty A u C2 ma t0 mi t) A) 0 0 A := by
  refine zMet (cc := cX12_isMadeOf) (maxL := 7) (ret := (some .boolean)) (by decide) rfl (Nat.le_of_ble_eq_true rfl) ?_
  intro p e s m below meth c hx hb hr hts hown hlocks hml hB ls hl
  obtain ⟨hM, hK, hMS⟩ := hB
  have hS : va_S A s.heap s.heap [] := va_S.rf
  have hbn := hR.I.b1
  have hbs := hR.I.b2
  have hbl := hR.I.bL
  have hbc := hR.I.b4
  have hbr := hR.I.b5
  have hf7 := (hR.I.f7 hi).2.2
  have hf72 := (hR.I.f7 hi2).2.2
  have hv72 := (hR.I.v7 hi2).2
  have h1 : (bVal g n1 (nI i) (nI v) (nI f) || bVal g n1 (nI i2) (nI v2) (nI f2)) = false := by rw [bVal_ok hR.I hi hv hf, bVal_ok hR.I hi2 hv2 hf2]; rfl
  have hl : lv_has ls 7 [(0, .ref (ma 0 0)), (1, .int (nI i)), (2, .int (nI v)), (3, .int (nI f)), (4, .int (nI i2)), (5, .int (nI v2)), (6, .int (nI f2))] := hl
  refine lv_aload_n hx hb dX12_isMadeOf_0 rfl (lv_at hl 0 rfl) ?_
  refine lv_aload_n hx hb dX12_isMadeOf_1 rfl (lv_at hl 0 rfl) ?_
  refine lv_iload_n hx hb dX12_isMadeOf_2 rfl (lv_at hl 1 rfl) ?_
  refine lv_iload_n hx hb dX12_isMadeOf_3 rfl (lv_at hl 2 rfl) ?_
  refine lv_iload_n hx hb dX12_isMadeOf_4 rfl (lv_at hl 3 rfl) ?_
  refine zcVi (As := [.int (nI i), .int (nI v), .int (nI f)]) (rest := [.ref (ma 0 0)]) ⟨hx, hb, hml, hown, hts⟩ (c_X12_isNoValue l D ty A u C ma t0 mi g n1 n2 nL n4 n5 th rep bro hR (nI i) (nI v) (nI f)) (cwV 3 hts gX12_isMadeOf_X12_isNoValue rfl rfl rfl (by decide +kernel) ⟨Nat.le_of_ble_eq_true rfl, Nat.le_of_ble_eq_true rfl⟩) mI_blind (mI_pre hM hK hMS hS) (va_recv hK (hM.Pa hR.o.1 rfl hR.o.2) (ci := 13) (q0 := 0) rfl rfl) rfl hl.1 rfl (Nat.le_of_ble_eq_true rfl) dX12_isMadeOf_5 ⟨Nat.le_of_ble_eq_true rfl, Nat.le_of_ble_eq_true rfl⟩ (fun r_1 hr_1 => ?_)
  subst hr_1
  refine lv_if_ne (tgt := 24) hx hb dX12_isMadeOf_8 (by decide) (fun c_2 => ?_) (fun c_2 => ?_)
  · have c_2 := bI_t c_2
    simp only [c_2, Bool.not_true, Bool.not_false, Bool.and_true, Bool.true_and, Bool.and_false, Bool.false_and, Bool.or_true, Bool.true_or, Bool.or_false, Bool.false_or, Bool.and_self, Bool.or_self, Bool.true_eq_false, Bool.false_eq_true] at h1
  · have c_2 := bI_f c_2
    refine lv_aload_n hx hb dX12_isMadeOf_11 rfl (lv_at hl 0 rfl) ?_
    refine lv_iload hx hb dX12_isMadeOf_12 (lv_at hl 4 rfl) ?_
    refine lv_iload hx hb dX12_isMadeOf_14 (lv_at hl 5 rfl) ?_
    refine lv_iload hx hb dX12_isMadeOf_16 (lv_at hl 6 rfl) ?_
    refine zcVi (As := [.int (nI i2), .int (nI v2), .int (nI f2)]) (rest := [.ref (ma 0 0)]) ⟨hx, hb, hml, hown, hts⟩ (c_X12_isNoValue l D ty A u C ma t0 mi g n1 n2 nL n4 n5 th rep bro hR (nI i2) (nI v2) (nI f2)) (cwV 3 hts gX12_isMadeOf_X12_isNoValue rfl rfl rfl (by decide +kernel) ⟨Nat.le_of_ble_eq_true rfl, Nat.le_of_ble_eq_true rfl⟩) mI_blind (mI_pre hM hK hMS hS) (va_recv hK (hM.Pa hR.o.1 rfl hR.o.2) (ci := 13) (q0 := 0) rfl rfl) rfl hl.1 rfl (Nat.le_of_ble_eq_true rfl) dX12_isMadeOf_18 ⟨Nat.le_of_ble_eq_true rfl, Nat.le_of_ble_eq_true rfl⟩ (fun r_3 hr_3 => ?_)
    subst hr_3
    refine lv_if_eq (tgt := 28) hx hb dX12_isMadeOf_21 (by decide) (fun c_4 => ?_) (fun c_4 => ?_)
    · have c_4 := bI_f c_4
      refine lv_iconst (v := nI 0) hx hb dX12_isMadeOf_28 (by decide) ?_
      refine zeq (show nI 0 = bI false from rfl) ?_
      refine lv_iconst (v := nI 1) hx hb dX12_isMadeOf_29 (by decide) ?_
      refine va_calli (va_runV (As := [.int (bI false), .int (nI 1)]) (rest := []) ⟨hx, hb, hml, hown, hts⟩ (c_X12_start_f l D ty A u C ma t0 mi g n1 n2 nL n4 n5 th rep bro hR 1 (by omega) (by omega)) (cwV 2 hts gX12_isMadeOf_X12_start rfl rfl rfl (by decide +kernel) ⟨Nat.le_of_ble_eq_true rfl, Nat.le_of_ble_eq_true rfl⟩) ⟨zBl mI_blind, (va_recv hK (hM.Pa hR.o.1 rfl hR.o.2) (ci := 13) (q0 := 0) rfl rfl), fun U h1 h2 => ⟨rfl, mI_pre hM hK hMS hS U h1 h2⟩⟩ rfl rfl hl.1 rfl (lv_room (Nat.le_of_ble_eq_true rfl)) dX12_isMadeOf_30 ⟨Nat.le_of_ble_eq_true rfl, Nat.le_of_ble_eq_true rfl⟩) hS (fun _ _ h => h) (fun _ h => h) (fun r_6 C_5 t H1 locs ht hvm hw hB9 hz1 hk1 hS => ?_)
      obtain ⟨hr_6, hR_7⟩ := hw
      obtain ⟨hM, -, -⟩ := hB9
      rw [ht] at hM
      clear hk1 hz1 hvm ht
      clear t
      generalize H1 = H at hM hS ⊢
      subst hr_6
      refine lv_if_ne (tgt := 56) hx hb dX12_isMadeOf_33 (by decide) (fun c_8 => ?_) (fun c_8 => ?_)
      · have c_8 := bI_t c_8
        cases c_8
      · have c_8 := bI_f c_8
        refine lv_aload_n hx hb dX12_isMadeOf_36 rfl (lv_at hl 0 rfl) ?_
        refine lv_iload_n hx hb dX12_isMadeOf_37 rfl (lv_at hl 1 rfl) ?_
        refine lv_iload_n hx hb dX12_isMadeOf_38 rfl (lv_at hl 2 rfl) ?_
        refine lv_iload_n hx hb dX12_isMadeOf_39 rfl (lv_at hl 3 rfl) ?_
        refine lv_iload hx hb dX12_isMadeOf_40 (lv_at hl 4 rfl) ?_
        refine lv_iload hx hb dX12_isMadeOf_42 (lv_at hl 5 rfl) ?_
        refine lv_iload hx hb dX12_isMadeOf_44 (lv_at hl 6 rfl) ?_
        refine zcVi (As := [.int (nI i), .int (nI v), .int (nI f), .int (nI i2), .int (nI v2), .int (nI f2)]) (rest := []) ⟨hx, hb, hml, hown, hts⟩ (c_X12_isMade_8 l D ty A u C_5 ma t0 mi g n1 n2 nL n4 n5 (nI 0) rep bro hR_7 i v f i2 v2 f2 (by omega) (by omega) (by omega) (by omega) (by omega) (by omega) (by omega)) (cwV 6 hts gX12_isMadeOf_X12_isMade rfl rfl rfl (by decide +kernel) ⟨Nat.le_of_ble_eq_true rfl, Nat.le_of_ble_eq_true rfl⟩) mI_blind (mI_pre hM hK hMS hS) (va_recv hK (hM.Pa hR_7.o.1 rfl hR_7.o.2) (ci := 13) (q0 := 0) rfl rfl) rfl hl.1 rfl (Nat.le_of_ble_eq_true rfl) dX12_isMadeOf_46 ⟨Nat.le_of_ble_eq_true rfl, Nat.le_of_ble_eq_true rfl⟩ (fun r_9 hr_9 => ?_)
        subst hr_9
        refine lv_if_eq (tgt := 56) hx hb dX12_isMadeOf_49 (by decide) (fun c_10 => ?_) (fun c_10 => ?_)
        · have c_10 := bI_f c_10
          refine lv_iconst (v := nI 0) hx hb dX12_isMadeOf_56 (by decide) ?_
          exact W.zret (v := bI false) hx hb hr (bI_nar _) (fun t ht hW => ⟨⟨_, C_5, rfl, ⟨(by rw [c_10]), hR_7⟩, mI_pre hM hK hMS hS t ht hW⟩, hS.F ht⟩) hS.2.2 dX12_isMadeOf_57
        · have c_10 := bI_t c_10
          refine lv_iconst (v := nI 1) hx hb dX12_isMadeOf_52 (by decide) ?_
          refine lv_goto (tgt := 57) hx hb dX12_isMadeOf_53 (by decide) ?_
          exact W.zret (v := bI true) hx hb hr (bI_nar _) (fun t ht hW => ⟨⟨_, C_5, rfl, ⟨(by rw [c_10]), hR_7⟩, mI_pre hM hK hMS hS t ht hW⟩, hS.F ht⟩) hS.2.2 dX12_isMadeOf_57
    · have c_4 := bI_t c_4
      simp only [c_2, c_4, Bool.not_true, Bool.not_false, Bool.and_true, Bool.true_and, Bool.and_false, Bool.false_and, Bool.or_true, Bool.true_or, Bool.or_false, Bool.false_or, Bool.and_self, Bool.or_self, Bool.true_eq_false, Bool.false_eq_true] at h1
set_option maxHeartbeats 600000 in
set_option maxRecDepth 100000 in
theorem m_isMadeOf_x1 (l : Launch) (D : va_G) (ty : Nat → ClassId) (A : Nat → Prop) (u : Nat → Nat → Prop) (C : Nat → Nat → va_E) (ma : Nat → Nat → Nat) (t0 mi : Nat) (g : Nat → Nat → Int32) (n1 n2 nL n4 n5 : Nat) (th : Int32) (rep bro : Nat → Nat → Int32) (hR : mR ty t0 g n1 n2 nL n4 n5 th rep bro u C ma) (x v f x2 v2 f2 : Int32) (h1 : (bVal g n1 x v f || bVal g n1 x2 v2 f2) = true) : Met l yX12_isMadeOf wsX12_isMadeOf ({ frames := 8, cells := 0, slots := 0, locals := 205 }) (va_Pc [.ref (ma 0 0), .int x, .int v, .int f, .int x2, .int v2, .int f2] (mI D ty A u C ma t0 mi)) (va_Qi (fun (v9 : Int32) (C2 : Nat → Nat → va_E) => v9 = bI false ∧ mR ty t0 g n1 n2 nL n4 n5 (nI 1) rep bro u C2 ma) (fun C2 t => mI D ty A u C2 ma t0 mi t) A) 0 0 A := by
  refine zMet (cc := cX12_isMadeOf) (maxL := 7) (ret := (some .boolean)) (by decide) rfl (Nat.le_of_ble_eq_true rfl) ?_
  intro p e s m below meth c hx hb hr hts hown hlocks hml hB ls hl
  obtain ⟨hM, hK, hMS⟩ := hB
  have hS : va_S A s.heap s.heap [] := va_S.rf
  have hbn := hR.I.b1
  have hbs := hR.I.b2
  have hbl := hR.I.bL
  have hbc := hR.I.b4
  have hbr := hR.I.b5
  have hl : lv_has ls 7 [(0, .ref (ma 0 0)), (1, .int x), (2, .int v), (3, .int f), (4, .int x2), (5, .int v2), (6, .int f2)] := hl
  refine lv_aload_n hx hb dX12_isMadeOf_0 rfl (lv_at hl 0 rfl) ?_
  refine lv_aload_n hx hb dX12_isMadeOf_1 rfl (lv_at hl 0 rfl) ?_
  refine lv_iload_n hx hb dX12_isMadeOf_2 rfl (lv_at hl 1 rfl) ?_
  refine lv_iload_n hx hb dX12_isMadeOf_3 rfl (lv_at hl 2 rfl) ?_
  refine lv_iload_n hx hb dX12_isMadeOf_4 rfl (lv_at hl 3 rfl) ?_
  refine zcVi (As := [.int x, .int v, .int f]) (rest := [.ref (ma 0 0)]) ⟨hx, hb, hml, hown, hts⟩ (c_X12_isNoValue l D ty A u C ma t0 mi g n1 n2 nL n4 n5 th rep bro hR x v f) (cwV 3 hts gX12_isMadeOf_X12_isNoValue rfl rfl rfl (by decide +kernel) ⟨Nat.le_of_ble_eq_true rfl, Nat.le_of_ble_eq_true rfl⟩) mI_blind (mI_pre hM hK hMS hS) (va_recv hK (hM.Pa hR.o.1 rfl hR.o.2) (ci := 13) (q0 := 0) rfl rfl) rfl hl.1 rfl (Nat.le_of_ble_eq_true rfl) dX12_isMadeOf_5 ⟨Nat.le_of_ble_eq_true rfl, Nat.le_of_ble_eq_true rfl⟩ (fun r_1 hr_1 => ?_)
  subst hr_1
  refine lv_if_ne (tgt := 24) hx hb dX12_isMadeOf_8 (by decide) (fun c_2 => ?_) (fun c_2 => ?_)
  · have c_2 := bI_t c_2
    refine lv_iconst (v := nI 1) hx hb dX12_isMadeOf_24 (by decide) ?_
    refine zeq (show nI 1 = bI true from rfl) ?_
    refine lv_goto (tgt := 29) hx hb dX12_isMadeOf_25 (by decide) ?_
    refine lv_iconst (v := nI 1) hx hb dX12_isMadeOf_29 (by decide) ?_
    refine va_calli (va_runV (As := [.int (bI true), .int (nI 1)]) (rest := []) ⟨hx, hb, hml, hown, hts⟩ (c_X12_start_t l D ty A u C ma t0 mi g n1 n2 nL n4 n5 th rep bro hR 1 (by omega) (by omega)) (cwV 2 hts gX12_isMadeOf_X12_start rfl rfl rfl (by decide +kernel) ⟨Nat.le_of_ble_eq_true rfl, Nat.le_of_ble_eq_true rfl⟩) ⟨zBl mI_blind, (va_recv hK (hM.Pa hR.o.1 rfl hR.o.2) (ci := 13) (q0 := 0) rfl rfl), fun U h1 h2 => ⟨rfl, mI_pre hM hK hMS hS U h1 h2⟩⟩ rfl rfl hl.1 rfl (lv_room (Nat.le_of_ble_eq_true rfl)) dX12_isMadeOf_30 ⟨Nat.le_of_ble_eq_true rfl, Nat.le_of_ble_eq_true rfl⟩) hS (fun _ _ h => h) (fun _ h => h) (fun r_4 C_3 t H1 locs ht hvm hw hB9 hz1 hk1 hS => ?_)
    obtain ⟨hr_4, hR_5⟩ := hw
    obtain ⟨hM, -, -⟩ := hB9
    rw [ht] at hM
    clear hk1 hz1 hvm ht
    clear t
    generalize H1 = H at hM hS ⊢
    subst hr_4
    refine lv_if_ne (tgt := 56) hx hb dX12_isMadeOf_33 (by decide) (fun c_6 => ?_) (fun c_6 => ?_)
    · have c_6 := bI_t c_6
      refine lv_iconst (v := nI 0) hx hb dX12_isMadeOf_56 (by decide) ?_
      exact W.zret (v := bI false) hx hb hr (bI_nar _) (fun t ht hW => ⟨⟨_, C_3, rfl, ⟨rfl, hR_5⟩, mI_pre hM hK hMS hS t ht hW⟩, hS.F ht⟩) hS.2.2 dX12_isMadeOf_57
    · have c_6 := bI_f c_6
      cases c_6
  · have c_2 := bI_f c_2
    refine lv_aload_n hx hb dX12_isMadeOf_11 rfl (lv_at hl 0 rfl) ?_
    refine lv_iload hx hb dX12_isMadeOf_12 (lv_at hl 4 rfl) ?_
    refine lv_iload hx hb dX12_isMadeOf_14 (lv_at hl 5 rfl) ?_
    refine lv_iload hx hb dX12_isMadeOf_16 (lv_at hl 6 rfl) ?_
    refine zcVi (As := [.int x2, .int v2, .int f2]) (rest := [.ref (ma 0 0)]) ⟨hx, hb, hml, hown, hts⟩ (c_X12_isNoValue l D ty A u C ma t0 mi g n1 n2 nL n4 n5 th rep bro hR x2 v2 f2) (cwV 3 hts gX12_isMadeOf_X12_isNoValue rfl rfl rfl (by decide +kernel) ⟨Nat.le_of_ble_eq_true rfl, Nat.le_of_ble_eq_true rfl⟩) mI_blind (mI_pre hM hK hMS hS) (va_recv hK (hM.Pa hR.o.1 rfl hR.o.2) (ci := 13) (q0 := 0) rfl rfl) rfl hl.1 rfl (Nat.le_of_ble_eq_true rfl) dX12_isMadeOf_18 ⟨Nat.le_of_ble_eq_true rfl, Nat.le_of_ble_eq_true rfl⟩ (fun r_7 hr_7 => ?_)
    subst hr_7
    refine lv_if_eq (tgt := 28) hx hb dX12_isMadeOf_21 (by decide) (fun c_8 => ?_) (fun c_8 => ?_)
    · have c_8 := bI_f c_8
      simp only [c_2, c_8, Bool.not_true, Bool.not_false, Bool.and_true, Bool.true_and, Bool.and_false, Bool.false_and, Bool.or_true, Bool.true_or, Bool.or_false, Bool.false_or, Bool.and_self, Bool.or_self, Bool.true_eq_false, Bool.false_eq_true] at h1
    · have c_8 := bI_t c_8
      refine lv_iconst (v := nI 1) hx hb dX12_isMadeOf_24 (by decide) ?_
      refine zeq (show nI 1 = bI true from rfl) ?_
      refine lv_goto (tgt := 29) hx hb dX12_isMadeOf_25 (by decide) ?_
      refine lv_iconst (v := nI 1) hx hb dX12_isMadeOf_29 (by decide) ?_
      refine va_calli (va_runV (As := [.int (bI true), .int (nI 1)]) (rest := []) ⟨hx, hb, hml, hown, hts⟩ (c_X12_start_t l D ty A u C ma t0 mi g n1 n2 nL n4 n5 th rep bro hR 1 (by omega) (by omega)) (cwV 2 hts gX12_isMadeOf_X12_start rfl rfl rfl (by decide +kernel) ⟨Nat.le_of_ble_eq_true rfl, Nat.le_of_ble_eq_true rfl⟩) ⟨zBl mI_blind, (va_recv hK (hM.Pa hR.o.1 rfl hR.o.2) (ci := 13) (q0 := 0) rfl rfl), fun U h1 h2 => ⟨rfl, mI_pre hM hK hMS hS U h1 h2⟩⟩ rfl rfl hl.1 rfl (lv_room (Nat.le_of_ble_eq_true rfl)) dX12_isMadeOf_30 ⟨Nat.le_of_ble_eq_true rfl, Nat.le_of_ble_eq_true rfl⟩) hS (fun _ _ h => h) (fun _ h => h) (fun r_10 C_9 t H1 locs ht hvm hw hB9 hz1 hk1 hS => ?_)
      obtain ⟨hr_10, hR_11⟩ := hw
      obtain ⟨hM, -, -⟩ := hB9
      rw [ht] at hM
      clear hk1 hz1 hvm ht
      clear t
      generalize H1 = H at hM hS ⊢
      subst hr_10
      refine lv_if_ne (tgt := 56) hx hb dX12_isMadeOf_33 (by decide) (fun c_12 => ?_) (fun c_12 => ?_)
      · have c_12 := bI_t c_12
        refine lv_iconst (v := nI 0) hx hb dX12_isMadeOf_56 (by decide) ?_
        exact W.zret (v := bI false) hx hb hr (bI_nar _) (fun t ht hW => ⟨⟨_, C_9, rfl, ⟨rfl, hR_11⟩, mI_pre hM hK hMS hS t ht hW⟩, hS.F ht⟩) hS.2.2 dX12_isMadeOf_57
      · have c_12 := bI_f c_12
        cases c_12
set_option maxHeartbeats 600000 in
set_option maxRecDepth 100000 in
theorem m_covered (l : Launch) (D : va_G) (ty : Nat → ClassId) (A : Nat → Prop) (u : Nat → Nat → Prop) (C : Nat → Nat → va_E) (ma : Nat → Nat → Nat) (t0 mi : Nat) (g : Nat → Nat → Int32) (n1 n2 nL n4 n5 : Nat) (th : Int32) (rep bro : Nat → Nat → Int32) (hR : mR ty t0 g n1 n2 nL n4 n5 th rep bro u C ma) (R i P : Nat) (hr6 : R < 6) (hi : i < n1) (hp : P < 4) (d : Int32) (hd1 : ¬ d < nI 0) (hd2 : ¬ nI 359 < d) : Met l yX12_covered wsX12_covered ({ frames := 7, cells := 0, slots := 0, locals := 192 }) (va_Pc [.ref (ma 0 0), .int (nI R), .int (nI i), .int (nI P), .int d] (mI D ty A u C ma t0 mi)) (va_Qi (fun (v9 : Int32) (C2 : Nat → Nat → va_E) => v9 = covP g n4 (nI R) (nI i) d (nI P) ∧ mR ty t0 g n1 n2 nL n4 n5 (nI 0) rep bro u C2 ma) (fun C2 t => mI D ty A u C2 ma t0 mi t) A) 0 0 A := by
  refine zMet (cc := cX12_covered) (maxL := 5) (ret := (some .int)) (by decide) rfl (Nat.le_of_ble_eq_true rfl) ?_
  intro p e s m below meth c hx hb hr hts hown hlocks hml hB ls hl
  obtain ⟨hM, hK, hMS⟩ := hB
  have hS : va_S A s.heap s.heap [] := va_S.rf
  have hbn := hR.I.b1
  have hbs := hR.I.b2
  have hbl := hR.I.bL
  have hbc := hR.I.b4
  have hbr := hR.I.b5
  have h1 : (bRd (nI R) || bNo n1 (nI i) || !inB (nI P) (nI 0) (nI 3)) = false := by rw [bRd_ok hr6, bNo_ok hR.I.b1 hi, inB_k (by omega) (by decide)]; rfl
  have h2 : (!inB d (nI 0) (nI 359)) = false := by rw [inB_r hd1 hd2]; rfl
  have hl : lv_has ls 5 [(0, .ref (ma 0 0)), (1, .int (nI R)), (2, .int (nI i)), (3, .int (nI P)), (4, .int d)] := hl
  refine lv_aload_n hx hb dX12_covered_0 rfl (lv_at hl 0 rfl) ?_
  refine lv_iload_n hx hb dX12_covered_1 rfl (lv_at hl 1 rfl) ?_
  refine zcSi (As := [.int (nI R)]) (rest := [.ref (ma 0 0)]) ⟨hx, hb, hml, hown, hts⟩ (c_X12_isNoReader l _ (nI R)) (cwS 1 hts gX12_covered_X12_isNoReader rfl rfl rfl (by decide +kernel) ⟨Nat.le_of_ble_eq_true rfl, Nat.le_of_ble_eq_true rfl⟩) (B := fun _ => True) (fun _ _ _ _ _ => trivial) (fun _ _ _ => trivial) rfl hl.1 rfl (Nat.le_of_ble_eq_true rfl) dX12_covered_2 ⟨Nat.le_of_ble_eq_true rfl, Nat.le_of_ble_eq_true rfl⟩ (fun r_1 hr_1 => ?_)
  subst hr_1
  refine lv_if_ne (tgt := 25) hx hb dX12_covered_5 (by decide) (fun c_2 => ?_) (fun c_2 => ?_)
  · have c_2 := bI_t c_2
    simp only [c_2, Bool.not_true, Bool.not_false, Bool.and_true, Bool.true_and, Bool.and_false, Bool.false_and, Bool.or_true, Bool.true_or, Bool.or_false, Bool.false_or, Bool.and_self, Bool.or_self, Bool.true_eq_false, Bool.false_eq_true] at h1
  · have c_2 := bI_f c_2
    refine lv_aload_n hx hb dX12_covered_8 rfl (lv_at hl 0 rfl) ?_
    refine lv_iload_n hx hb dX12_covered_9 rfl (lv_at hl 2 rfl) ?_
    refine zcVi (As := [.int (nI i)]) (rest := [.ref (ma 0 0)]) ⟨hx, hb, hml, hown, hts⟩ (c_X12_isNo l D ty A u C ma t0 mi g n1 n2 nL n4 n5 th rep bro hR (nI i)) (cwV 1 hts gX12_covered_X12_isNo rfl rfl rfl (by decide +kernel) ⟨Nat.le_of_ble_eq_true rfl, Nat.le_of_ble_eq_true rfl⟩) mI_blind (mI_pre hM hK hMS hS) (va_recv hK (hM.Pa hR.o.1 rfl hR.o.2) (ci := 13) (q0 := 0) rfl rfl) rfl hl.1 rfl (Nat.le_of_ble_eq_true rfl) dX12_covered_10 ⟨Nat.le_of_ble_eq_true rfl, Nat.le_of_ble_eq_true rfl⟩ (fun r_3 hr_3 => ?_)
    subst hr_3
    refine lv_if_ne (tgt := 25) hx hb dX12_covered_13 (by decide) (fun c_4 => ?_) (fun c_4 => ?_)
    · have c_4 := bI_t c_4
      simp only [c_2, c_4, Bool.not_true, Bool.not_false, Bool.and_true, Bool.true_and, Bool.and_false, Bool.false_and, Bool.or_true, Bool.true_or, Bool.or_false, Bool.false_or, Bool.and_self, Bool.or_self, Bool.true_eq_false, Bool.false_eq_true] at h1
    · have c_4 := bI_f c_4
      refine lv_iload_n hx hb dX12_covered_16 rfl (lv_at hl 3 rfl) ?_
      refine lv_iconst (v := nI 0) hx hb dX12_covered_17 (by decide) ?_
      refine lv_iconst (v := nI 3) hx hb dX12_covered_18 (by decide) ?_
      refine zcSi (As := [.int (nI P), .int (nI 0), .int (nI 3)]) (rest := [.ref (ma 0 0)]) ⟨hx, hb, hml, hown, hts⟩ (c_X12_isIn l _ (nI P) (nI 0) (nI 3)) (cwS 3 hts gX12_covered_X12_isIn rfl rfl rfl (by decide +kernel) ⟨Nat.le_of_ble_eq_true rfl, Nat.le_of_ble_eq_true rfl⟩) (B := fun _ => True) (fun _ _ _ _ _ => trivial) (fun _ _ _ => trivial) rfl hl.1 rfl (Nat.le_of_ble_eq_true rfl) dX12_covered_19 ⟨Nat.le_of_ble_eq_true rfl, Nat.le_of_ble_eq_true rfl⟩ (fun r_5 hr_5 => ?_)
      subst hr_5
      refine lv_if_ne (tgt := 29) hx hb dX12_covered_22 (by decide) (fun c_6 => ?_) (fun c_6 => ?_)
      · have c_6 := bI_t c_6
        refine lv_iconst (v := nI 0) hx hb dX12_covered_29 (by decide) ?_
        refine zeq (show nI 0 = bI false from rfl) ?_
        refine lv_iconst (v := nI 1) hx hb dX12_covered_30 (by decide) ?_
        refine va_calli (va_runV (As := [.int (bI false), .int (nI 1)]) (rest := []) ⟨hx, hb, hml, hown, hts⟩ (c_X12_start_f l D ty A u C ma t0 mi g n1 n2 nL n4 n5 th rep bro hR 1 (by omega) (by omega)) (cwV 2 hts gX12_covered_X12_start rfl rfl rfl (by decide +kernel) ⟨Nat.le_of_ble_eq_true rfl, Nat.le_of_ble_eq_true rfl⟩) ⟨zBl mI_blind, (va_recv hK (hM.Pa hR.o.1 rfl hR.o.2) (ci := 13) (q0 := 0) rfl rfl), fun U h1 h2 => ⟨rfl, mI_pre hM hK hMS hS U h1 h2⟩⟩ rfl rfl hl.1 rfl (lv_room (Nat.le_of_ble_eq_true rfl)) dX12_covered_31 ⟨Nat.le_of_ble_eq_true rfl, Nat.le_of_ble_eq_true rfl⟩) hS (fun _ _ h => h) (fun _ h => h) (fun r_8 C_7 t H1 locs ht hvm hw hB9 hz1 hk1 hS => ?_)
        obtain ⟨hr_8, hR_9⟩ := hw
        obtain ⟨hM, -, -⟩ := hB9
        rw [ht] at hM
        clear hk1 hz1 hvm ht
        clear t
        generalize H1 = H at hM hS ⊢
        subst hr_8
        refine lv_if_ne (tgt := 62) hx hb dX12_covered_34 (by decide) (fun c_10 => ?_) (fun c_10 => ?_)
        · have c_10 := bI_t c_10
          cases c_10
        · have c_10 := bI_f c_10
          refine lv_aload_n hx hb dX12_covered_37 rfl (lv_at hl 0 rfl) ?_
          refine lv_iload hx hb dX12_covered_38 (lv_at hl 4 rfl) ?_
          refine lv_iconst (v := nI 0) hx hb dX12_covered_40 (by decide) ?_
          refine lv_sipush (v := nI 359) hx hb dX12_covered_41 (by decide) ?_
          refine zcSi (As := [.int d, .int (nI 0), .int (nI 359)]) (rest := [.ref (ma 0 0)]) ⟨hx, hb, hml, hown, hts⟩ (c_X12_isIn l _ d (nI 0) (nI 359)) (cwS 3 hts gX12_covered_X12_isIn rfl rfl rfl (by decide +kernel) ⟨Nat.le_of_ble_eq_true rfl, Nat.le_of_ble_eq_true rfl⟩) (B := fun _ => True) (fun _ _ _ _ _ => trivial) (fun _ _ _ => trivial) rfl hl.1 rfl (Nat.le_of_ble_eq_true rfl) dX12_covered_44 ⟨Nat.le_of_ble_eq_true rfl, Nat.le_of_ble_eq_true rfl⟩ (fun r_11 hr_11 => ?_)
          subst hr_11
          refine lv_if_ne (tgt := 54) hx hb dX12_covered_47 (by decide) (fun c_12 => ?_) (fun c_12 => ?_)
          · have c_12 := bI_t c_12
            refine lv_iconst (v := nI 0) hx hb dX12_covered_54 (by decide) ?_
            refine zeq (show nI 0 = bI false from rfl) ?_
            refine lv_iconst (v := nI 2) hx hb dX12_covered_55 (by decide) ?_
            refine zcVi (As := [.int (bI false), .int (nI 2)]) (rest := []) ⟨hx, hb, hml, hown, hts⟩ (c_X12_refuse_f l D ty A u C_7 ma t0 mi g n1 n2 nL n4 n5 (nI 0) rep bro hR_9 rfl (nI 2)) (cwV 2 hts gX12_covered_X12_refuse rfl rfl rfl (by decide +kernel) ⟨Nat.le_of_ble_eq_true rfl, Nat.le_of_ble_eq_true rfl⟩) mI_blind (mI_pre hM hK hMS hS) (va_recv hK (hM.Pa hR_9.o.1 rfl hR_9.o.2) (ci := 13) (q0 := 0) rfl rfl) rfl hl.1 rfl (Nat.le_of_ble_eq_true rfl) dX12_covered_56 ⟨Nat.le_of_ble_eq_true rfl, Nat.le_of_ble_eq_true rfl⟩ (fun r_13 hr_13 => ?_)
            subst hr_13
            refine lv_if_eq (tgt := 66) hx hb dX12_covered_59 (by decide) (fun c_14 => ?_) (fun c_14 => ?_)
            · have c_14 := bI_f c_14
              refine lv_aload_n hx hb dX12_covered_66 rfl (lv_at hl 0 rfl) ?_
              refine lv_iload_n hx hb dX12_covered_67 rfl (lv_at hl 1 rfl) ?_
              refine lv_iload_n hx hb dX12_covered_68 rfl (lv_at hl 2 rfl) ?_
              refine lv_iload_n hx hb dX12_covered_69 rfl (lv_at hl 3 rfl) ?_
              refine lv_iload hx hb dX12_covered_70 (lv_at hl 4 rfl) ?_
              refine zcVi (As := [.int (nI R), .int (nI i), .int (nI P), .int d]) (rest := []) ⟨hx, hb, hml, hown, hts⟩ (c_X12_coveredNow l D ty A u C_7 ma t0 mi g n1 n2 nL n4 n5 (nI 0) rep bro hR_9 (nI R) (nI i) (nI P) d) (cwV 4 hts gX12_covered_X12_coveredNow rfl rfl rfl (by decide +kernel) ⟨Nat.le_of_ble_eq_true rfl, Nat.le_of_ble_eq_true rfl⟩) mI_blind (mI_pre hM hK hMS hS) (va_recv hK (hM.Pa hR_9.o.1 rfl hR_9.o.2) (ci := 13) (q0 := 0) rfl rfl) rfl hl.1 rfl (Nat.le_of_ble_eq_true rfl) dX12_covered_72 ⟨Nat.le_of_ble_eq_true rfl, Nat.le_of_ble_eq_true rfl⟩ (fun r_15 hr_15 => ?_)
              subst hr_15
              exact W.iret (v := covP g n4 (nI R) (nI i) d (nI P)) hx hb hr (fun t ht hW => ⟨⟨_, C_7, rfl, ⟨rfl, hR_9⟩, mI_pre hM hK hMS hS t ht hW⟩, hS.F ht⟩) hS.2.2 dX12_covered_75
            · have c_14 := bI_t c_14
              cases c_14
          · have c_12 := bI_f c_12
            simp only [c_2, c_4, c_6, c_10, c_12, Bool.not_true, Bool.not_false, Bool.and_true, Bool.true_and, Bool.and_false, Bool.false_and, Bool.or_true, Bool.true_or, Bool.or_false, Bool.false_or, Bool.and_self, Bool.or_self, Bool.true_eq_false, Bool.false_eq_true] at h2
      · have c_6 := bI_f c_6
        simp only [c_2, c_4, c_6, Bool.not_true, Bool.not_false, Bool.and_true, Bool.true_and, Bool.and_false, Bool.false_and, Bool.or_true, Bool.true_or, Bool.or_false, Bool.false_or, Bool.and_self, Bool.or_self, Bool.true_eq_false, Bool.false_eq_true] at h1
set_option maxHeartbeats 600000 in
set_option maxRecDepth 100000 in
theorem m_covered_x1 (l : Launch) (D : va_G) (ty : Nat → ClassId) (A : Nat → Prop) (u : Nat → Nat → Prop) (C : Nat → Nat → va_E) (ma : Nat → Nat → Nat) (t0 mi : Nat) (g : Nat → Nat → Int32) (n1 n2 nL n4 n5 : Nat) (th : Int32) (rep bro : Nat → Nat → Int32) (hR : mR ty t0 g n1 n2 nL n4 n5 th rep bro u C ma) (y x w0 d : Int32) (h1 : (bRd y || bNo n1 x || !inB w0 (nI 0) (nI 3)) = true) : Met l yX12_covered wsX12_covered ({ frames := 7, cells := 0, slots := 0, locals := 192 }) (va_Pc [.ref (ma 0 0), .int y, .int x, .int w0, .int d] (mI D ty A u C ma t0 mi)) (va_Qi (fun (v9 : Int32) (C2 : Nat → Nat → va_E) => v9 = nI 0 ∧ mR ty t0 g n1 n2 nL n4 n5 (nI 1) rep bro u C2 ma) (fun C2 t => mI D ty A u C2 ma t0 mi t) A) 0 0 A := by
  refine zMet (cc := cX12_covered) (maxL := 5) (ret := (some .int)) (by decide) rfl (Nat.le_of_ble_eq_true rfl) ?_
  intro p e s m below meth c hx hb hr hts hown hlocks hml hB ls hl
  obtain ⟨hM, hK, hMS⟩ := hB
  have hS : va_S A s.heap s.heap [] := va_S.rf
  have hbn := hR.I.b1
  have hbs := hR.I.b2
  have hbl := hR.I.bL
  have hbc := hR.I.b4
  have hbr := hR.I.b5
  have hl : lv_has ls 5 [(0, .ref (ma 0 0)), (1, .int y), (2, .int x), (3, .int w0), (4, .int d)] := hl
  refine lv_aload_n hx hb dX12_covered_0 rfl (lv_at hl 0 rfl) ?_
  refine lv_iload_n hx hb dX12_covered_1 rfl (lv_at hl 1 rfl) ?_
  refine zcSi (As := [.int y]) (rest := [.ref (ma 0 0)]) ⟨hx, hb, hml, hown, hts⟩ (c_X12_isNoReader l _ y) (cwS 1 hts gX12_covered_X12_isNoReader rfl rfl rfl (by decide +kernel) ⟨Nat.le_of_ble_eq_true rfl, Nat.le_of_ble_eq_true rfl⟩) (B := fun _ => True) (fun _ _ _ _ _ => trivial) (fun _ _ _ => trivial) rfl hl.1 rfl (Nat.le_of_ble_eq_true rfl) dX12_covered_2 ⟨Nat.le_of_ble_eq_true rfl, Nat.le_of_ble_eq_true rfl⟩ (fun r_1 hr_1 => ?_)
  subst hr_1
  refine lv_if_ne (tgt := 25) hx hb dX12_covered_5 (by decide) (fun c_2 => ?_) (fun c_2 => ?_)
  · have c_2 := bI_t c_2
    refine lv_iconst (v := nI 1) hx hb dX12_covered_25 (by decide) ?_
    refine zeq (show nI 1 = bI true from rfl) ?_
    refine lv_goto (tgt := 30) hx hb dX12_covered_26 (by decide) ?_
    refine lv_iconst (v := nI 1) hx hb dX12_covered_30 (by decide) ?_
    refine va_calli (va_runV (As := [.int (bI true), .int (nI 1)]) (rest := []) ⟨hx, hb, hml, hown, hts⟩ (c_X12_start_t l D ty A u C ma t0 mi g n1 n2 nL n4 n5 th rep bro hR 1 (by omega) (by omega)) (cwV 2 hts gX12_covered_X12_start rfl rfl rfl (by decide +kernel) ⟨Nat.le_of_ble_eq_true rfl, Nat.le_of_ble_eq_true rfl⟩) ⟨zBl mI_blind, (va_recv hK (hM.Pa hR.o.1 rfl hR.o.2) (ci := 13) (q0 := 0) rfl rfl), fun U h1 h2 => ⟨rfl, mI_pre hM hK hMS hS U h1 h2⟩⟩ rfl rfl hl.1 rfl (lv_room (Nat.le_of_ble_eq_true rfl)) dX12_covered_31 ⟨Nat.le_of_ble_eq_true rfl, Nat.le_of_ble_eq_true rfl⟩) hS (fun _ _ h => h) (fun _ h => h) (fun r_4 C_3 t H1 locs ht hvm hw hB9 hz1 hk1 hS => ?_)
    obtain ⟨hr_4, hR_5⟩ := hw
    obtain ⟨hM, -, -⟩ := hB9
    rw [ht] at hM
    clear hk1 hz1 hvm ht
    clear t
    generalize H1 = H at hM hS ⊢
    subst hr_4
    refine lv_if_ne (tgt := 62) hx hb dX12_covered_34 (by decide) (fun c_6 => ?_) (fun c_6 => ?_)
    · have c_6 := bI_t c_6
      refine lv_iconst (v := nI 0) hx hb dX12_covered_62 (by decide) ?_
      refine lv_goto (tgt := 75) hx hb dX12_covered_63 (by decide) ?_
      exact W.iret (v := nI 0) hx hb hr (fun t ht hW => ⟨⟨_, C_3, rfl, ⟨rfl, hR_5⟩, mI_pre hM hK hMS hS t ht hW⟩, hS.F ht⟩) hS.2.2 dX12_covered_75
    · have c_6 := bI_f c_6
      cases c_6
  · have c_2 := bI_f c_2
    refine lv_aload_n hx hb dX12_covered_8 rfl (lv_at hl 0 rfl) ?_
    refine lv_iload_n hx hb dX12_covered_9 rfl (lv_at hl 2 rfl) ?_
    refine zcVi (As := [.int x]) (rest := [.ref (ma 0 0)]) ⟨hx, hb, hml, hown, hts⟩ (c_X12_isNo l D ty A u C ma t0 mi g n1 n2 nL n4 n5 th rep bro hR x) (cwV 1 hts gX12_covered_X12_isNo rfl rfl rfl (by decide +kernel) ⟨Nat.le_of_ble_eq_true rfl, Nat.le_of_ble_eq_true rfl⟩) mI_blind (mI_pre hM hK hMS hS) (va_recv hK (hM.Pa hR.o.1 rfl hR.o.2) (ci := 13) (q0 := 0) rfl rfl) rfl hl.1 rfl (Nat.le_of_ble_eq_true rfl) dX12_covered_10 ⟨Nat.le_of_ble_eq_true rfl, Nat.le_of_ble_eq_true rfl⟩ (fun r_7 hr_7 => ?_)
    subst hr_7
    refine lv_if_ne (tgt := 25) hx hb dX12_covered_13 (by decide) (fun c_8 => ?_) (fun c_8 => ?_)
    · have c_8 := bI_t c_8
      refine lv_iconst (v := nI 1) hx hb dX12_covered_25 (by decide) ?_
      refine zeq (show nI 1 = bI true from rfl) ?_
      refine lv_goto (tgt := 30) hx hb dX12_covered_26 (by decide) ?_
      refine lv_iconst (v := nI 1) hx hb dX12_covered_30 (by decide) ?_
      refine va_calli (va_runV (As := [.int (bI true), .int (nI 1)]) (rest := []) ⟨hx, hb, hml, hown, hts⟩ (c_X12_start_t l D ty A u C ma t0 mi g n1 n2 nL n4 n5 th rep bro hR 1 (by omega) (by omega)) (cwV 2 hts gX12_covered_X12_start rfl rfl rfl (by decide +kernel) ⟨Nat.le_of_ble_eq_true rfl, Nat.le_of_ble_eq_true rfl⟩) ⟨zBl mI_blind, (va_recv hK (hM.Pa hR.o.1 rfl hR.o.2) (ci := 13) (q0 := 0) rfl rfl), fun U h1 h2 => ⟨rfl, mI_pre hM hK hMS hS U h1 h2⟩⟩ rfl rfl hl.1 rfl (lv_room (Nat.le_of_ble_eq_true rfl)) dX12_covered_31 ⟨Nat.le_of_ble_eq_true rfl, Nat.le_of_ble_eq_true rfl⟩) hS (fun _ _ h => h) (fun _ h => h) (fun r_10 C_9 t H1 locs ht hvm hw hB9 hz1 hk1 hS => ?_)
      obtain ⟨hr_10, hR_11⟩ := hw
      obtain ⟨hM, -, -⟩ := hB9
      rw [ht] at hM
      clear hk1 hz1 hvm ht
      clear t
      generalize H1 = H at hM hS ⊢
      subst hr_10
      refine lv_if_ne (tgt := 62) hx hb dX12_covered_34 (by decide) (fun c_12 => ?_) (fun c_12 => ?_)
      · have c_12 := bI_t c_12
        refine lv_iconst (v := nI 0) hx hb dX12_covered_62 (by decide) ?_
        refine lv_goto (tgt := 75) hx hb dX12_covered_63 (by decide) ?_
        exact W.iret (v := nI 0) hx hb hr (fun t ht hW => ⟨⟨_, C_9, rfl, ⟨rfl, hR_11⟩, mI_pre hM hK hMS hS t ht hW⟩, hS.F ht⟩) hS.2.2 dX12_covered_75
      · have c_12 := bI_f c_12
        cases c_12
    · have c_8 := bI_f c_8
      refine lv_iload_n hx hb dX12_covered_16 rfl (lv_at hl 3 rfl) ?_
      refine lv_iconst (v := nI 0) hx hb dX12_covered_17 (by decide) ?_
      refine lv_iconst (v := nI 3) hx hb dX12_covered_18 (by decide) ?_
      refine zcSi (As := [.int w0, .int (nI 0), .int (nI 3)]) (rest := [.ref (ma 0 0)]) ⟨hx, hb, hml, hown, hts⟩ (c_X12_isIn l _ w0 (nI 0) (nI 3)) (cwS 3 hts gX12_covered_X12_isIn rfl rfl rfl (by decide +kernel) ⟨Nat.le_of_ble_eq_true rfl, Nat.le_of_ble_eq_true rfl⟩) (B := fun _ => True) (fun _ _ _ _ _ => trivial) (fun _ _ _ => trivial) rfl hl.1 rfl (Nat.le_of_ble_eq_true rfl) dX12_covered_19 ⟨Nat.le_of_ble_eq_true rfl, Nat.le_of_ble_eq_true rfl⟩ (fun r_13 hr_13 => ?_)
      subst hr_13
      refine lv_if_ne (tgt := 29) hx hb dX12_covered_22 (by decide) (fun c_14 => ?_) (fun c_14 => ?_)
      · have c_14 := bI_t c_14
        simp only [c_2, c_8, c_14, Bool.not_true, Bool.not_false, Bool.and_true, Bool.true_and, Bool.and_false, Bool.false_and, Bool.or_true, Bool.true_or, Bool.or_false, Bool.false_or, Bool.and_self, Bool.or_self, Bool.true_eq_false, Bool.false_eq_true] at h1
      · have c_14 := bI_f c_14
        refine lv_iconst (v := nI 1) hx hb dX12_covered_25 (by decide) ?_
        refine zeq (show nI 1 = bI true from rfl) ?_
        refine lv_goto (tgt := 30) hx hb dX12_covered_26 (by decide) ?_
        refine lv_iconst (v := nI 1) hx hb dX12_covered_30 (by decide) ?_
        refine va_calli (va_runV (As := [.int (bI true), .int (nI 1)]) (rest := []) ⟨hx, hb, hml, hown, hts⟩ (c_X12_start_t l D ty A u C ma t0 mi g n1 n2 nL n4 n5 th rep bro hR 1 (by omega) (by omega)) (cwV 2 hts gX12_covered_X12_start rfl rfl rfl (by decide +kernel) ⟨Nat.le_of_ble_eq_true rfl, Nat.le_of_ble_eq_true rfl⟩) ⟨zBl mI_blind, (va_recv hK (hM.Pa hR.o.1 rfl hR.o.2) (ci := 13) (q0 := 0) rfl rfl), fun U h1 h2 => ⟨rfl, mI_pre hM hK hMS hS U h1 h2⟩⟩ rfl rfl hl.1 rfl (lv_room (Nat.le_of_ble_eq_true rfl)) dX12_covered_31 ⟨Nat.le_of_ble_eq_true rfl, Nat.le_of_ble_eq_true rfl⟩) hS (fun _ _ h => h) (fun _ h => h) (fun r_16 C_15 t H1 locs ht hvm hw hB9 hz1 hk1 hS => ?_)
        obtain ⟨hr_16, hR_17⟩ := hw
        obtain ⟨hM, -, -⟩ := hB9
        rw [ht] at hM
        clear hk1 hz1 hvm ht
        clear t
        generalize H1 = H at hM hS ⊢
        subst hr_16
        refine lv_if_ne (tgt := 62) hx hb dX12_covered_34 (by decide) (fun c_18 => ?_) (fun c_18 => ?_)
        · have c_18 := bI_t c_18
          refine lv_iconst (v := nI 0) hx hb dX12_covered_62 (by decide) ?_
          refine lv_goto (tgt := 75) hx hb dX12_covered_63 (by decide) ?_
          exact W.iret (v := nI 0) hx hb hr (fun t ht hW => ⟨⟨_, C_15, rfl, ⟨rfl, hR_17⟩, mI_pre hM hK hMS hS t ht hW⟩, hS.F ht⟩) hS.2.2 dX12_covered_75
        · have c_18 := bI_f c_18
          cases c_18
set_option maxHeartbeats 600000 in
set_option maxRecDepth 100000 in
theorem m_covered_x2 (l : Launch) (D : va_G) (ty : Nat → ClassId) (A : Nat → Prop) (u : Nat → Nat → Prop) (C : Nat → Nat → va_E) (ma : Nat → Nat → Nat) (t0 mi : Nat) (g : Nat → Nat → Int32) (n1 n2 nL n4 n5 : Nat) (th : Int32) (rep bro : Nat → Nat → Int32) (hR : mR ty t0 g n1 n2 nL n4 n5 th rep bro u C ma) (y x w0 d : Int32) (h1 : (bRd y || bNo n1 x || !inB w0 (nI 0) (nI 3)) = false) (h2 : (!inB d (nI 0) (nI 359)) = true) : Met l yX12_covered wsX12_covered ({ frames := 7, cells := 0, slots := 0, locals := 192 }) (va_Pc [.ref (ma 0 0), .int y, .int x, .int w0, .int d] (mI D ty A u C ma t0 mi)) (va_Qi (fun (v9 : Int32) (C2 : Nat → Nat → va_E) => v9 = nI 0 ∧ mR ty t0 g n1 n2 nL n4 n5 (nI 2) rep bro u C2 ma) (fun C2 t => mI D ty A u C2 ma t0 mi t) A) 0 0 A := by
  refine zMet (cc := cX12_covered) (maxL := 5) (ret := (some .int)) (by decide) rfl (Nat.le_of_ble_eq_true rfl) ?_
  intro p e s m below meth c hx hb hr hts hown hlocks hml hB ls hl
  obtain ⟨hM, hK, hMS⟩ := hB
  have hS : va_S A s.heap s.heap [] := va_S.rf
  have hbn := hR.I.b1
  have hbs := hR.I.b2
  have hbl := hR.I.bL
  have hbc := hR.I.b4
  have hbr := hR.I.b5
  have hl : lv_has ls 5 [(0, .ref (ma 0 0)), (1, .int y), (2, .int x), (3, .int w0), (4, .int d)] := hl
  refine lv_aload_n hx hb dX12_covered_0 rfl (lv_at hl 0 rfl) ?_
  refine lv_iload_n hx hb dX12_covered_1 rfl (lv_at hl 1 rfl) ?_
  refine zcSi (As := [.int y]) (rest := [.ref (ma 0 0)]) ⟨hx, hb, hml, hown, hts⟩ (c_X12_isNoReader l _ y) (cwS 1 hts gX12_covered_X12_isNoReader rfl rfl rfl (by decide +kernel) ⟨Nat.le_of_ble_eq_true rfl, Nat.le_of_ble_eq_true rfl⟩) (B := fun _ => True) (fun _ _ _ _ _ => trivial) (fun _ _ _ => trivial) rfl hl.1 rfl (Nat.le_of_ble_eq_true rfl) dX12_covered_2 ⟨Nat.le_of_ble_eq_true rfl, Nat.le_of_ble_eq_true rfl⟩ (fun r_1 hr_1 => ?_)
  subst hr_1
  refine lv_if_ne (tgt := 25) hx hb dX12_covered_5 (by decide) (fun c_2 => ?_) (fun c_2 => ?_)
  · have c_2 := bI_t c_2
    simp only [c_2, Bool.not_true, Bool.not_false, Bool.and_true, Bool.true_and, Bool.and_false, Bool.false_and, Bool.or_true, Bool.true_or, Bool.or_false, Bool.false_or, Bool.and_self, Bool.or_self, Bool.true_eq_false, Bool.false_eq_true] at h1
  · have c_2 := bI_f c_2
    refine lv_aload_n hx hb dX12_covered_8 rfl (lv_at hl 0 rfl) ?_
    refine lv_iload_n hx hb dX12_covered_9 rfl (lv_at hl 2 rfl) ?_
    refine zcVi (As := [.int x]) (rest := [.ref (ma 0 0)]) ⟨hx, hb, hml, hown, hts⟩ (c_X12_isNo l D ty A u C ma t0 mi g n1 n2 nL n4 n5 th rep bro hR x) (cwV 1 hts gX12_covered_X12_isNo rfl rfl rfl (by decide +kernel) ⟨Nat.le_of_ble_eq_true rfl, Nat.le_of_ble_eq_true rfl⟩) mI_blind (mI_pre hM hK hMS hS) (va_recv hK (hM.Pa hR.o.1 rfl hR.o.2) (ci := 13) (q0 := 0) rfl rfl) rfl hl.1 rfl (Nat.le_of_ble_eq_true rfl) dX12_covered_10 ⟨Nat.le_of_ble_eq_true rfl, Nat.le_of_ble_eq_true rfl⟩ (fun r_3 hr_3 => ?_)
    subst hr_3
    refine lv_if_ne (tgt := 25) hx hb dX12_covered_13 (by decide) (fun c_4 => ?_) (fun c_4 => ?_)
    · have c_4 := bI_t c_4
      simp only [c_2, c_4, Bool.not_true, Bool.not_false, Bool.and_true, Bool.true_and, Bool.and_false, Bool.false_and, Bool.or_true, Bool.true_or, Bool.or_false, Bool.false_or, Bool.and_self, Bool.or_self, Bool.true_eq_false, Bool.false_eq_true] at h1
    · have c_4 := bI_f c_4
      refine lv_iload_n hx hb dX12_covered_16 rfl (lv_at hl 3 rfl) ?_
      refine lv_iconst (v := nI 0) hx hb dX12_covered_17 (by decide) ?_
      refine lv_iconst (v := nI 3) hx hb dX12_covered_18 (by decide) ?_
      refine zcSi (As := [.int w0, .int (nI 0), .int (nI 3)]) (rest := [.ref (ma 0 0)]) ⟨hx, hb, hml, hown, hts⟩ (c_X12_isIn l _ w0 (nI 0) (nI 3)) (cwS 3 hts gX12_covered_X12_isIn rfl rfl rfl (by decide +kernel) ⟨Nat.le_of_ble_eq_true rfl, Nat.le_of_ble_eq_true rfl⟩) (B := fun _ => True) (fun _ _ _ _ _ => trivial) (fun _ _ _ => trivial) rfl hl.1 rfl (Nat.le_of_ble_eq_true rfl) dX12_covered_19 ⟨Nat.le_of_ble_eq_true rfl, Nat.le_of_ble_eq_true rfl⟩ (fun r_5 hr_5 => ?_)
      subst hr_5
      refine lv_if_ne (tgt := 29) hx hb dX12_covered_22 (by decide) (fun c_6 => ?_) (fun c_6 => ?_)
      · have c_6 := bI_t c_6
        refine lv_iconst (v := nI 0) hx hb dX12_covered_29 (by decide) ?_
        refine zeq (show nI 0 = bI false from rfl) ?_
        refine lv_iconst (v := nI 1) hx hb dX12_covered_30 (by decide) ?_
        refine va_calli (va_runV (As := [.int (bI false), .int (nI 1)]) (rest := []) ⟨hx, hb, hml, hown, hts⟩ (c_X12_start_f l D ty A u C ma t0 mi g n1 n2 nL n4 n5 th rep bro hR 1 (by omega) (by omega)) (cwV 2 hts gX12_covered_X12_start rfl rfl rfl (by decide +kernel) ⟨Nat.le_of_ble_eq_true rfl, Nat.le_of_ble_eq_true rfl⟩) ⟨zBl mI_blind, (va_recv hK (hM.Pa hR.o.1 rfl hR.o.2) (ci := 13) (q0 := 0) rfl rfl), fun U h1 h2 => ⟨rfl, mI_pre hM hK hMS hS U h1 h2⟩⟩ rfl rfl hl.1 rfl (lv_room (Nat.le_of_ble_eq_true rfl)) dX12_covered_31 ⟨Nat.le_of_ble_eq_true rfl, Nat.le_of_ble_eq_true rfl⟩) hS (fun _ _ h => h) (fun _ h => h) (fun r_8 C_7 t H1 locs ht hvm hw hB9 hz1 hk1 hS => ?_)
        obtain ⟨hr_8, hR_9⟩ := hw
        obtain ⟨hM, -, -⟩ := hB9
        rw [ht] at hM
        clear hk1 hz1 hvm ht
        clear t
        generalize H1 = H at hM hS ⊢
        subst hr_8
        refine lv_if_ne (tgt := 62) hx hb dX12_covered_34 (by decide) (fun c_10 => ?_) (fun c_10 => ?_)
        · have c_10 := bI_t c_10
          cases c_10
        · have c_10 := bI_f c_10
          refine lv_aload_n hx hb dX12_covered_37 rfl (lv_at hl 0 rfl) ?_
          refine lv_iload hx hb dX12_covered_38 (lv_at hl 4 rfl) ?_
          refine lv_iconst (v := nI 0) hx hb dX12_covered_40 (by decide) ?_
          refine lv_sipush (v := nI 359) hx hb dX12_covered_41 (by decide) ?_
          refine zcSi (As := [.int d, .int (nI 0), .int (nI 359)]) (rest := [.ref (ma 0 0)]) ⟨hx, hb, hml, hown, hts⟩ (c_X12_isIn l _ d (nI 0) (nI 359)) (cwS 3 hts gX12_covered_X12_isIn rfl rfl rfl (by decide +kernel) ⟨Nat.le_of_ble_eq_true rfl, Nat.le_of_ble_eq_true rfl⟩) (B := fun _ => True) (fun _ _ _ _ _ => trivial) (fun _ _ _ => trivial) rfl hl.1 rfl (Nat.le_of_ble_eq_true rfl) dX12_covered_44 ⟨Nat.le_of_ble_eq_true rfl, Nat.le_of_ble_eq_true rfl⟩ (fun r_11 hr_11 => ?_)
          subst hr_11
          refine lv_if_ne (tgt := 54) hx hb dX12_covered_47 (by decide) (fun c_12 => ?_) (fun c_12 => ?_)
          · have c_12 := bI_t c_12
            simp only [c_2, c_4, c_6, c_10, c_12, Bool.not_true, Bool.not_false, Bool.and_true, Bool.true_and, Bool.and_false, Bool.false_and, Bool.or_true, Bool.true_or, Bool.or_false, Bool.false_or, Bool.and_self, Bool.or_self, Bool.true_eq_false, Bool.false_eq_true] at h2
          · have c_12 := bI_f c_12
            refine lv_iconst (v := nI 1) hx hb dX12_covered_50 (by decide) ?_
            refine zeq (show nI 1 = bI true from rfl) ?_
            refine lv_goto (tgt := 55) hx hb dX12_covered_51 (by decide) ?_
            refine lv_iconst (v := nI 2) hx hb dX12_covered_55 (by decide) ?_
            refine va_calli (va_runV (As := [.int (bI true), .int (nI 2)]) (rest := []) ⟨hx, hb, hml, hown, hts⟩ (c_X12_refuse_t l D ty A u C_7 ma t0 mi g n1 n2 nL n4 n5 (nI 0) rep bro hR_9 rfl 2 (by omega) (by omega)) (cwV 2 hts gX12_covered_X12_refuse rfl rfl rfl (by decide +kernel) ⟨Nat.le_of_ble_eq_true rfl, Nat.le_of_ble_eq_true rfl⟩) ⟨zBl mI_blind, (va_recv hK (hM.Pa hR_9.o.1 rfl hR_9.o.2) (ci := 13) (q0 := 0) rfl rfl), fun U h1 h2 => ⟨rfl, mI_pre hM hK hMS hS U h1 h2⟩⟩ rfl rfl hl.1 rfl (lv_room (Nat.le_of_ble_eq_true rfl)) dX12_covered_56 ⟨Nat.le_of_ble_eq_true rfl, Nat.le_of_ble_eq_true rfl⟩) hS (fun _ _ h => h) (fun _ h => h) (fun r_14 C_13 t H1 locs ht hvm hw hB9 hz1 hk1 hS => ?_)
            obtain ⟨hr_14, hR_15⟩ := hw
            obtain ⟨hM, -, -⟩ := hB9
            rw [ht] at hM
            clear hk1 hz1 hvm ht
            clear t
            generalize H1 = H at hM hS ⊢
            subst hr_14
            refine lv_if_eq (tgt := 66) hx hb dX12_covered_59 (by decide) (fun c_16 => ?_) (fun c_16 => ?_)
            · have c_16 := bI_f c_16
              cases c_16
            · have c_16 := bI_t c_16
              refine lv_iconst (v := nI 0) hx hb dX12_covered_62 (by decide) ?_
              refine lv_goto (tgt := 75) hx hb dX12_covered_63 (by decide) ?_
              exact W.iret (v := nI 0) hx hb hr (fun t ht hW => ⟨⟨_, C_13, rfl, ⟨rfl, hR_15⟩, mI_pre hM hK hMS hS t ht hW⟩, hS.F ht⟩) hS.2.2 dX12_covered_75
      · have c_6 := bI_f c_6
        simp only [c_2, c_4, c_6, Bool.not_true, Bool.not_false, Bool.and_true, Bool.true_and, Bool.and_false, Bool.false_and, Bool.or_true, Bool.true_or, Bool.or_false, Bool.false_or, Bool.and_self, Bool.or_self, Bool.true_eq_false, Bool.false_eq_true] at h1
set_option maxHeartbeats 600000 in
set_option maxRecDepth 100000 in
theorem m_ofRead (l : Launch) (D : va_G) (ty : Nat → ClassId) (A : Nat → Prop) (u : Nat → Nat → Prop) (C : Nat → Nat → va_E) (ma : Nat → Nat → Nat) (t0 mi : Nat) (g : Nat → Nat → Int32) (n1 n2 nL n4 n5 : Nat) (th : Int32) (rep bro : Nat → Nat → Int32) (hR : mR ty t0 g n1 n2 nL n4 n5 th rep bro u C ma) (r0 w0 : Nat) (hr0 : r0 < n5) (hw : w0 < 12) : Met l yX12_ofRead wsX12_ofRead ({ frames := 7, cells := 58, slots := 356, locals := 192 }) (va_Pc [.ref (ma 0 0), .int (nI r0), .int (nI w0)] (mI D ty A u C ma t0 mi)) (va_Qi (fun (v9 : Int32) (C2 : Nat → Nat → va_E) => v9 = ofReadN g r0 w0 ∧ mR ty t0 g n1 n2 nL n4 n5 (nI 0) rep bro u C2 ma) (fun C2 t => mI D ty A u C2 ma t0 mi t) A) 58 356 A := by
  refine zMet (cc := cX12_ofRead) (maxL := 3) (ret := (some .int)) (by decide) rfl (Nat.le_of_ble_eq_true rfl) ?_
  intro p e s m below meth c hx hb hr hts hown hlocks hml hB ls hl
  obtain ⟨hM, hK, hMS⟩ := hB
  have hS : va_S A s.heap s.heap [] := va_S.rf
  have hbn := hR.I.b1
  have hbs := hR.I.b2
  have hbl := hR.I.bL
  have hbc := hR.I.b4
  have hbr := hR.I.b5
  have h1 : (!inB (nI r0) (nI 0) (nI n5 - nI 1)) = false := by rw [inB_c (by omega) hr0]; rfl
  have h2 : (!inB (nI w0) (nI 0) (nI 11)) = false := by rw [inB_k (by omega) (by decide)]; rfl
  have hl : lv_has ls 3 [(0, .ref (ma 0 0)), (1, .int (nI r0)), (2, .int (nI w0))] := hl
  have hinX12 : ∀ w ∈ wsX120, w ∈ wsX12_ofRead := by decide +kernel
  have hk1 := hts (.fieldLink RX12 22 "DatamarketDeskModel" "reads" "Ljava/util/ArrayList;") (by decide +kernel)
  have hk2 := hts (.classLink RX12 152 "DatamarketDeskModel$Read") (by decide +kernel)
  refine lv_aload_n hx hb dX12_ofRead_0 rfl (lv_at hl 0 rfl) ?_
  refine lv_iload_n hx hb dX12_ofRead_1 rfl (lv_at hl 1 rfl) ?_
  refine lv_iconst (v := nI 0) hx hb dX12_ofRead_2 (by decide) ?_
  refine lv_aload_n hx hb dX12_ofRead_3 rfl (lv_at hl 0 rfl) ?_
  refine va_get hx hb hts hinX12 hown hK (hM.Pa hR.o.1 rfl hR.o.2) 0 rfl rfl 4 (by decide) (hk1) (fun _ h9 => h9) rfl dX12_ofRead_4 ?_
  obtain ⟨huz_1, hnz_1, mz_1, bz_1, hCz_1⟩ := isL.hd hR.l7
  refine zcVi (As := []) (rest := [.int (nI 0), .int (nI r0), .ref (ma 0 0)]) ⟨hx, hb, hml, hown, hts⟩ (c_size l D ty A u C ma t0 mi 7 0 n5 (ma 26) hR.l7) (cwV 0 hts gX12_ofRead_Jx4a65c_size_8abf5 rfl rfl rfl (by decide +kernel) ⟨Nat.le_of_ble_eq_true rfl, Nat.le_of_ble_eq_true rfl⟩) mI_blind (mI_pre hM hK hMS hS) (va_recv hK (hM.Pa huz_1 rfl hCz_1) (ci := 0) (q0 := 0) rfl rfl) rfl hl.1 rfl (Nat.le_of_ble_eq_true rfl) dX12_ofRead_7 ⟨Nat.le_of_ble_eq_true rfl, Nat.le_of_ble_eq_true rfl⟩ (fun r_2 hr_2 => ?_)
  subst hr_2
  refine lv_iconst (v := nI 1) hx hb dX12_ofRead_10 (by decide) ?_
  refine lv_isub hx hb dX12_ofRead_11 ?_
  refine zcSi (As := [.int (nI r0), .int (nI 0), .int ((nI n5) - (nI 1))]) (rest := [.ref (ma 0 0)]) ⟨hx, hb, hml, hown, hts⟩ (c_X12_isIn l _ (nI r0) (nI 0) ((nI n5) - (nI 1))) (cwS 3 hts gX12_ofRead_X12_isIn rfl rfl rfl (by decide +kernel) ⟨Nat.le_of_ble_eq_true rfl, Nat.le_of_ble_eq_true rfl⟩) (B := fun _ => True) (fun _ _ _ _ _ => trivial) (fun _ _ _ => trivial) rfl hl.1 rfl (Nat.le_of_ble_eq_true rfl) dX12_ofRead_12 ⟨Nat.le_of_ble_eq_true rfl, Nat.le_of_ble_eq_true rfl⟩ (fun r_3 hr_3 => ?_)
  subst hr_3
  refine lv_if_ne (tgt := 22) hx hb dX12_ofRead_15 (by decide) (fun c_4 => ?_) (fun c_4 => ?_)
  · have c_4 := bI_t c_4
    refine lv_iconst (v := nI 0) hx hb dX12_ofRead_22 (by decide) ?_
    refine zeq (show nI 0 = bI false from rfl) ?_
    refine lv_iconst (v := nI 1) hx hb dX12_ofRead_23 (by decide) ?_
    refine va_calli (va_runV (As := [.int (bI false), .int (nI 1)]) (rest := []) ⟨hx, hb, hml, hown, hts⟩ (c_X12_start_f l D ty A u C ma t0 mi g n1 n2 nL n4 n5 th rep bro hR 1 (by omega) (by omega)) (cwV 2 hts gX12_ofRead_X12_start rfl rfl rfl (by decide +kernel) ⟨Nat.le_of_ble_eq_true rfl, Nat.le_of_ble_eq_true rfl⟩) ⟨zBl mI_blind, (va_recv hK (hM.Pa hR.o.1 rfl hR.o.2) (ci := 13) (q0 := 0) rfl rfl), fun U h1 h2 => ⟨rfl, mI_pre hM hK hMS hS U h1 h2⟩⟩ rfl rfl hl.1 rfl (lv_room (Nat.le_of_ble_eq_true rfl)) dX12_ofRead_24 ⟨Nat.le_of_ble_eq_true rfl, Nat.le_of_ble_eq_true rfl⟩) hS (fun _ _ h => h) (fun _ h => h) (fun r_6 C_5 t H1 locs ht hvm hw hB9 hz1 hk1 hS => ?_)
    obtain ⟨hr_6, hR_7⟩ := hw
    obtain ⟨hM, -, -⟩ := hB9
    rw [ht] at hM
    clear hk1 hz1 hvm ht
    clear t
    generalize H1 = H at hM hS ⊢
    subst hr_6
    refine lv_if_ne (tgt := 53) hx hb dX12_ofRead_27 (by decide) (fun c_8 => ?_) (fun c_8 => ?_)
    · have c_8 := bI_t c_8
      cases c_8
    · have c_8 := bI_f c_8
      refine lv_aload_n hx hb dX12_ofRead_30 rfl (lv_at hl 0 rfl) ?_
      refine lv_iload_n hx hb dX12_ofRead_31 rfl (lv_at hl 2 rfl) ?_
      refine lv_iconst (v := nI 0) hx hb dX12_ofRead_32 (by decide) ?_
      refine lv_bipush (v := nI 11) hx hb dX12_ofRead_33 (by decide) ?_
      refine zcSi (As := [.int (nI w0), .int (nI 0), .int (nI 11)]) (rest := [.ref (ma 0 0)]) ⟨hx, hb, hml, hown, hts⟩ (c_X12_isIn l _ (nI w0) (nI 0) (nI 11)) (cwS 3 hts gX12_ofRead_X12_isIn rfl rfl rfl (by decide +kernel) ⟨Nat.le_of_ble_eq_true rfl, Nat.le_of_ble_eq_true rfl⟩) (B := fun _ => True) (fun _ _ _ _ _ => trivial) (fun _ _ _ => trivial) rfl hl.1 rfl (Nat.le_of_ble_eq_true rfl) dX12_ofRead_35 ⟨Nat.le_of_ble_eq_true rfl, Nat.le_of_ble_eq_true rfl⟩ (fun r_9 hr_9 => ?_)
      subst hr_9
      refine lv_if_ne (tgt := 45) hx hb dX12_ofRead_38 (by decide) (fun c_10 => ?_) (fun c_10 => ?_)
      · have c_10 := bI_t c_10
        refine lv_iconst (v := nI 0) hx hb dX12_ofRead_45 (by decide) ?_
        refine zeq (show nI 0 = bI false from rfl) ?_
        refine lv_iconst (v := nI 2) hx hb dX12_ofRead_46 (by decide) ?_
        refine zcVi (As := [.int (bI false), .int (nI 2)]) (rest := []) ⟨hx, hb, hml, hown, hts⟩ (c_X12_refuse_f l D ty A u C_5 ma t0 mi g n1 n2 nL n4 n5 (nI 0) rep bro hR_7 rfl (nI 2)) (cwV 2 hts gX12_ofRead_X12_refuse rfl rfl rfl (by decide +kernel) ⟨Nat.le_of_ble_eq_true rfl, Nat.le_of_ble_eq_true rfl⟩) mI_blind (mI_pre hM hK hMS hS) (va_recv hK (hM.Pa hR_7.o.1 rfl hR_7.o.2) (ci := 13) (q0 := 0) rfl rfl) rfl hl.1 rfl (Nat.le_of_ble_eq_true rfl) dX12_ofRead_47 ⟨Nat.le_of_ble_eq_true rfl, Nat.le_of_ble_eq_true rfl⟩ (fun r_11 hr_11 => ?_)
        subst hr_11
        refine lv_if_eq (tgt := 57) hx hb dX12_ofRead_50 (by decide) (fun c_12 => ?_) (fun c_12 => ?_)
        · have c_12 := bI_f c_12
          refine lv_aload_n hx hb dX12_ofRead_57 rfl (lv_at hl 0 rfl) ?_
          have hFc : ∀ q : Nat, H.size ≤ q → A q := fun q h => hM.2.2 q h
          refine va_callr (va_runV (As := []) (rest := []) ⟨hx, hb, hml, hown, hts⟩ (c_X12_harms l D ty A u C_5 ma t0 mi g n1 n2 nL n4 n5 (nI 0) rep bro hR_7 H.size) (cwV 0 hts gX12_ofRead_X12_harms rfl rfl rfl (by decide +kernel) ⟨Nat.le_of_ble_eq_true rfl, Nat.le_of_ble_eq_true rfl⟩) ⟨zBl mIs_blind, (va_recv hK (hM.Pa hR_7.o.1 rfl hR_7.o.2) (ci := 13) (q0 := 0) rfl rfl), fun U h1 h2 => ⟨rfl, mI_pre hM hK hMS hS U h1 h2, by rw [h1]⟩⟩ rfl rfl hl.1 rfl (lv_room (Nat.le_of_ble_eq_true rfl)) dX12_ofRead_58 ⟨Nat.le_of_ble_eq_true rfl, Nat.le_of_ble_eq_true rfl⟩) hS (fun q _ h => hFc q h) hFc (fun u9 ah t H1 locs ht hvm hw hB9 hz1 hk1 hS => ?_)
          have ho9 : ∀ q : Nat, q < H.size → H1[q]? = H[q]? := fun q hq => hk1 q hq (Nat.not_le.mpr hq)
          have hM := hM.ext (fun q hq _ => ho9 q hq) hz1
          obtain ⟨hmb, hmd, hA, hAd⟩ := hB9
          rw [ht] at hA
          clear hk1 hz1 hvm ht ho9 hFc
          clear t
          generalize H1 = H at hM hS hA ⊢
          refine lv_aload_n hx hb dX12_ofRead_61 rfl (lv_at hl 0 rfl) ?_
          refine va_get hx hb hts hinX12 hown hK (hM.Pa hR_7.o.1 rfl hR_7.o.2) 0 rfl rfl 4 (by decide) (hk1) (fun _ h9 => h9) rfl dX12_ofRead_62 ?_
          refine lv_iload_n hx hb dX12_ofRead_65 rfl (lv_at hl 1 rfl) ?_
          obtain ⟨huz_14, hnz_14, mz_14, bz_14, hCz_14⟩ := isL.hd hR_7.l7
          refine zcVr (x := .ref (ma 26 r0)) (As := [.int (nI r0)]) (rest := [.ref ah]) ⟨hx, hb, hml, hown, hts⟩ (c_get l D ty A u C_5 ma t0 mi 7 0 n5 (ma 26) hR_7.l7 r0 (by omega)) (cwV 1 hts gX12_ofRead_Jx4a65c_get_915e3 rfl rfl rfl (by decide +kernel) ⟨Nat.le_of_ble_eq_true rfl, Nat.le_of_ble_eq_true rfl⟩) mI_blind (mI_pre hM hK hMS hS) (va_recv hK (hM.Pa huz_14 rfl hCz_14) (ci := 0) (q0 := 0) rfl rfl) rfl hl.1 rfl (Nat.le_of_ble_eq_true rfl) dX12_ofRead_66 ⟨Nat.le_of_ble_eq_true rfl, Nat.le_of_ble_eq_true rfl⟩ ?_
          refine va_castS hx hb hown (hk2) ((hK.1 10 _ rfl).2) (va_recv hK (hM.Pa (hR_7.r26 (r := r0) (by omega)).1 rfl (hR_7.r26 (r := r0) (by omega)).2) (ci := 10) (q0 := 0) rfl rfl) dX12_ofRead_69 ?_
          refine lv_iload_n hx hb dX12_ofRead_72 rfl (lv_at hl 2 rfl) ?_
          have hFc : ∀ q : Nat, H.size ≤ q → A q := fun q h => hM.2.2 q h
          refine va_calli (va_runS (As := [.ref ah, .ref (ma 26 r0), .int (nI w0)]) (rest := []) ⟨hx, hb, hml, hown, hts⟩ (c_X12_ofReadNow l D ty A u C_5 ma t0 mi g n1 n2 nL n4 n5 (nI 0) rep bro hR_7 _ H.size r0 (by omega) w0 (by omega)) (cwS 3 hts gX12_ofRead_X12_ofReadNow rfl rfl rfl (by decide +kernel) ⟨Nat.le_of_ble_eq_true rfl, Nat.le_of_ble_eq_true rfl⟩) ⟨zBl mIhs_blind, fun U h1 h2 => ⟨rfl, mIh_pre hM hK hMS hS hA U h1 h2, by rw [h1]⟩⟩ rfl rfl hl.1 rfl (lv_room (Nat.le_of_ble_eq_true rfl)) dX12_ofRead_73 ⟨Nat.le_of_ble_eq_true rfl, Nat.le_of_ble_eq_true rfl⟩) hS (fun q _ h => hFc q h) hFc (fun r_16 u9 t H1 locs ht hvm hw hB9 hz1 hk1 hS => ?_)
          have ho9 : ∀ q : Nat, q < H.size → H1[q]? = H[q]? := fun q hq => hk1 q hq (Nat.not_le.mpr hq)
          have hM := hM.ext (fun q hq _ => ho9 q hq) hz1
          have hA := hA.kept ho9
          clear hk1 hz1 hvm ht hB9 ho9 hFc
          clear t
          generalize H1 = H at hM hS hA ⊢
          have hr_16 := hw
          subst hr_16
          refine W.widen (k := 58) (n := 356) (by omega) (by omega) ?_
          exact W.iret (v := ofReadN g r0 w0) hx hb hr (fun t ht hW => ⟨⟨_, C_5, rfl, ⟨rfl, hR_7⟩, mI_pre hM hK hMS hS t ht hW⟩, hS.F ht⟩) hS.2.2 dX12_ofRead_76
        · have c_12 := bI_t c_12
          cases c_12
      · have c_10 := bI_f c_10
        simp only [c_4, c_8, c_10, Bool.not_true, Bool.not_false, Bool.and_true, Bool.true_and, Bool.and_false, Bool.false_and, Bool.or_true, Bool.true_or, Bool.or_false, Bool.false_or, Bool.and_self, Bool.or_self, Bool.true_eq_false, Bool.false_eq_true] at h2
  · have c_4 := bI_f c_4
    simp only [c_4, Bool.not_true, Bool.not_false, Bool.and_true, Bool.true_and, Bool.and_false, Bool.false_and, Bool.or_true, Bool.true_or, Bool.or_false, Bool.false_or, Bool.and_self, Bool.or_self, Bool.true_eq_false, Bool.false_eq_true] at h1
set_option maxHeartbeats 600000 in
set_option maxRecDepth 100000 in
theorem m_ofRead_x1 (l : Launch) (D : va_G) (ty : Nat → ClassId) (A : Nat → Prop) (u : Nat → Nat → Prop) (C : Nat → Nat → va_E) (ma : Nat → Nat → Nat) (t0 mi : Nat) (g : Nat → Nat → Int32) (n1 n2 nL n4 n5 : Nat) (th : Int32) (rep bro : Nat → Nat → Int32) (hR : mR ty t0 g n1 n2 nL n4 n5 th rep bro u C ma) (y w0 : Int32) (h1 : (!inB y (nI 0) (nI n5 - nI 1)) = true) : Met l yX12_ofRead wsX12_ofRead ({ frames := 7, cells := 0, slots := 0, locals := 192 }) (va_Pc [.ref (ma 0 0), .int y, .int w0] (mI D ty A u C ma t0 mi)) (va_Qi (fun (v9 : Int32) (C2 : Nat → Nat → va_E) => v9 = nI 0 ∧ mR ty t0 g n1 n2 nL n4 n5 (nI 1) rep bro u C2 ma) (fun C2 t => mI D ty A u C2 ma t0 mi t) A) 0 0 A := by
  refine zMet (cc := cX12_ofRead) (maxL := 3) (ret := (some .int)) (by decide) rfl (Nat.le_of_ble_eq_true rfl) ?_
  intro p e s m below meth c hx hb hr hts hown hlocks hml hB ls hl
  obtain ⟨hM, hK, hMS⟩ := hB
  have hS : va_S A s.heap s.heap [] := va_S.rf
  have hbn := hR.I.b1
  have hbs := hR.I.b2
  have hbl := hR.I.bL
  have hbc := hR.I.b4
  have hbr := hR.I.b5
  have hl : lv_has ls 3 [(0, .ref (ma 0 0)), (1, .int y), (2, .int w0)] := hl
  have hinX12 : ∀ w ∈ wsX120, w ∈ wsX12_ofRead := by decide +kernel
  have hk1 := hts (.fieldLink RX12 22 "DatamarketDeskModel" "reads" "Ljava/util/ArrayList;") (by decide +kernel)
  refine lv_aload_n hx hb dX12_ofRead_0 rfl (lv_at hl 0 rfl) ?_
  refine lv_iload_n hx hb dX12_ofRead_1 rfl (lv_at hl 1 rfl) ?_
  refine lv_iconst (v := nI 0) hx hb dX12_ofRead_2 (by decide) ?_
  refine lv_aload_n hx hb dX12_ofRead_3 rfl (lv_at hl 0 rfl) ?_
  refine va_get hx hb hts hinX12 hown hK (hM.Pa hR.o.1 rfl hR.o.2) 0 rfl rfl 4 (by decide) (hk1) (fun _ h9 => h9) rfl dX12_ofRead_4 ?_
  obtain ⟨huz_1, hnz_1, mz_1, bz_1, hCz_1⟩ := isL.hd hR.l7
  refine zcVi (As := []) (rest := [.int (nI 0), .int y, .ref (ma 0 0)]) ⟨hx, hb, hml, hown, hts⟩ (c_size l D ty A u C ma t0 mi 7 0 n5 (ma 26) hR.l7) (cwV 0 hts gX12_ofRead_Jx4a65c_size_8abf5 rfl rfl rfl (by decide +kernel) ⟨Nat.le_of_ble_eq_true rfl, Nat.le_of_ble_eq_true rfl⟩) mI_blind (mI_pre hM hK hMS hS) (va_recv hK (hM.Pa huz_1 rfl hCz_1) (ci := 0) (q0 := 0) rfl rfl) rfl hl.1 rfl (Nat.le_of_ble_eq_true rfl) dX12_ofRead_7 ⟨Nat.le_of_ble_eq_true rfl, Nat.le_of_ble_eq_true rfl⟩ (fun r_2 hr_2 => ?_)
  subst hr_2
  refine lv_iconst (v := nI 1) hx hb dX12_ofRead_10 (by decide) ?_
  refine lv_isub hx hb dX12_ofRead_11 ?_
  refine zcSi (As := [.int y, .int (nI 0), .int ((nI n5) - (nI 1))]) (rest := [.ref (ma 0 0)]) ⟨hx, hb, hml, hown, hts⟩ (c_X12_isIn l _ y (nI 0) ((nI n5) - (nI 1))) (cwS 3 hts gX12_ofRead_X12_isIn rfl rfl rfl (by decide +kernel) ⟨Nat.le_of_ble_eq_true rfl, Nat.le_of_ble_eq_true rfl⟩) (B := fun _ => True) (fun _ _ _ _ _ => trivial) (fun _ _ _ => trivial) rfl hl.1 rfl (Nat.le_of_ble_eq_true rfl) dX12_ofRead_12 ⟨Nat.le_of_ble_eq_true rfl, Nat.le_of_ble_eq_true rfl⟩ (fun r_3 hr_3 => ?_)
  subst hr_3
  refine lv_if_ne (tgt := 22) hx hb dX12_ofRead_15 (by decide) (fun c_4 => ?_) (fun c_4 => ?_)
  · have c_4 := bI_t c_4
    simp only [c_4, Bool.not_true, Bool.not_false, Bool.and_true, Bool.true_and, Bool.and_false, Bool.false_and, Bool.or_true, Bool.true_or, Bool.or_false, Bool.false_or, Bool.and_self, Bool.or_self, Bool.true_eq_false, Bool.false_eq_true] at h1
  · have c_4 := bI_f c_4
    refine lv_iconst (v := nI 1) hx hb dX12_ofRead_18 (by decide) ?_
    refine zeq (show nI 1 = bI true from rfl) ?_
    refine lv_goto (tgt := 23) hx hb dX12_ofRead_19 (by decide) ?_
    refine lv_iconst (v := nI 1) hx hb dX12_ofRead_23 (by decide) ?_
    refine va_calli (va_runV (As := [.int (bI true), .int (nI 1)]) (rest := []) ⟨hx, hb, hml, hown, hts⟩ (c_X12_start_t l D ty A u C ma t0 mi g n1 n2 nL n4 n5 th rep bro hR 1 (by omega) (by omega)) (cwV 2 hts gX12_ofRead_X12_start rfl rfl rfl (by decide +kernel) ⟨Nat.le_of_ble_eq_true rfl, Nat.le_of_ble_eq_true rfl⟩) ⟨zBl mI_blind, (va_recv hK (hM.Pa hR.o.1 rfl hR.o.2) (ci := 13) (q0 := 0) rfl rfl), fun U h1 h2 => ⟨rfl, mI_pre hM hK hMS hS U h1 h2⟩⟩ rfl rfl hl.1 rfl (lv_room (Nat.le_of_ble_eq_true rfl)) dX12_ofRead_24 ⟨Nat.le_of_ble_eq_true rfl, Nat.le_of_ble_eq_true rfl⟩) hS (fun _ _ h => h) (fun _ h => h) (fun r_6 C_5 t H1 locs ht hvm hw hB9 hz1 hk1 hS => ?_)
    obtain ⟨hr_6, hR_7⟩ := hw
    obtain ⟨hM, -, -⟩ := hB9
    rw [ht] at hM
    clear hk1 hz1 hvm ht
    clear t
    generalize H1 = H at hM hS ⊢
    subst hr_6
    refine lv_if_ne (tgt := 53) hx hb dX12_ofRead_27 (by decide) (fun c_8 => ?_) (fun c_8 => ?_)
    · have c_8 := bI_t c_8
      refine lv_iconst (v := nI 0) hx hb dX12_ofRead_53 (by decide) ?_
      refine lv_goto (tgt := 76) hx hb dX12_ofRead_54 (by decide) ?_
      exact W.iret (v := nI 0) hx hb hr (fun t ht hW => ⟨⟨_, C_5, rfl, ⟨rfl, hR_7⟩, mI_pre hM hK hMS hS t ht hW⟩, hS.F ht⟩) hS.2.2 dX12_ofRead_76
    · have c_8 := bI_f c_8
      cases c_8
set_option maxHeartbeats 600000 in
set_option maxRecDepth 100000 in
theorem m_ofRead_x2 (l : Launch) (D : va_G) (ty : Nat → ClassId) (A : Nat → Prop) (u : Nat → Nat → Prop) (C : Nat → Nat → va_E) (ma : Nat → Nat → Nat) (t0 mi : Nat) (g : Nat → Nat → Int32) (n1 n2 nL n4 n5 : Nat) (th : Int32) (rep bro : Nat → Nat → Int32) (hR : mR ty t0 g n1 n2 nL n4 n5 th rep bro u C ma) (y w0 : Int32) (h1 : (!inB y (nI 0) (nI n5 - nI 1)) = false) (h2 : (!inB w0 (nI 0) (nI 11)) = true) : Met l yX12_ofRead wsX12_ofRead ({ frames := 7, cells := 0, slots := 0, locals := 192 }) (va_Pc [.ref (ma 0 0), .int y, .int w0] (mI D ty A u C ma t0 mi)) (va_Qi (fun (v9 : Int32) (C2 : Nat → Nat → va_E) => v9 = nI 0 ∧ mR ty t0 g n1 n2 nL n4 n5 (nI 2) rep bro u C2 ma) (fun C2 t => mI D ty A u C2 ma t0 mi t) A) 0 0 A := by
  refine zMet (cc := cX12_ofRead) (maxL := 3) (ret := (some .int)) (by decide) rfl (Nat.le_of_ble_eq_true rfl) ?_
  intro p e s m below meth c hx hb hr hts hown hlocks hml hB ls hl
  obtain ⟨hM, hK, hMS⟩ := hB
  have hS : va_S A s.heap s.heap [] := va_S.rf
  have hbn := hR.I.b1
  have hbs := hR.I.b2
  have hbl := hR.I.bL
  have hbc := hR.I.b4
  have hbr := hR.I.b5
  have hl : lv_has ls 3 [(0, .ref (ma 0 0)), (1, .int y), (2, .int w0)] := hl
  have hinX12 : ∀ w ∈ wsX120, w ∈ wsX12_ofRead := by decide +kernel
  have hk1 := hts (.fieldLink RX12 22 "DatamarketDeskModel" "reads" "Ljava/util/ArrayList;") (by decide +kernel)
  refine lv_aload_n hx hb dX12_ofRead_0 rfl (lv_at hl 0 rfl) ?_
  refine lv_iload_n hx hb dX12_ofRead_1 rfl (lv_at hl 1 rfl) ?_
  refine lv_iconst (v := nI 0) hx hb dX12_ofRead_2 (by decide) ?_
  refine lv_aload_n hx hb dX12_ofRead_3 rfl (lv_at hl 0 rfl) ?_
  refine va_get hx hb hts hinX12 hown hK (hM.Pa hR.o.1 rfl hR.o.2) 0 rfl rfl 4 (by decide) (hk1) (fun _ h9 => h9) rfl dX12_ofRead_4 ?_
  obtain ⟨huz_1, hnz_1, mz_1, bz_1, hCz_1⟩ := isL.hd hR.l7
  refine zcVi (As := []) (rest := [.int (nI 0), .int y, .ref (ma 0 0)]) ⟨hx, hb, hml, hown, hts⟩ (c_size l D ty A u C ma t0 mi 7 0 n5 (ma 26) hR.l7) (cwV 0 hts gX12_ofRead_Jx4a65c_size_8abf5 rfl rfl rfl (by decide +kernel) ⟨Nat.le_of_ble_eq_true rfl, Nat.le_of_ble_eq_true rfl⟩) mI_blind (mI_pre hM hK hMS hS) (va_recv hK (hM.Pa huz_1 rfl hCz_1) (ci := 0) (q0 := 0) rfl rfl) rfl hl.1 rfl (Nat.le_of_ble_eq_true rfl) dX12_ofRead_7 ⟨Nat.le_of_ble_eq_true rfl, Nat.le_of_ble_eq_true rfl⟩ (fun r_2 hr_2 => ?_)
  subst hr_2
  refine lv_iconst (v := nI 1) hx hb dX12_ofRead_10 (by decide) ?_
  refine lv_isub hx hb dX12_ofRead_11 ?_
  refine zcSi (As := [.int y, .int (nI 0), .int ((nI n5) - (nI 1))]) (rest := [.ref (ma 0 0)]) ⟨hx, hb, hml, hown, hts⟩ (c_X12_isIn l _ y (nI 0) ((nI n5) - (nI 1))) (cwS 3 hts gX12_ofRead_X12_isIn rfl rfl rfl (by decide +kernel) ⟨Nat.le_of_ble_eq_true rfl, Nat.le_of_ble_eq_true rfl⟩) (B := fun _ => True) (fun _ _ _ _ _ => trivial) (fun _ _ _ => trivial) rfl hl.1 rfl (Nat.le_of_ble_eq_true rfl) dX12_ofRead_12 ⟨Nat.le_of_ble_eq_true rfl, Nat.le_of_ble_eq_true rfl⟩ (fun r_3 hr_3 => ?_)
  subst hr_3
  refine lv_if_ne (tgt := 22) hx hb dX12_ofRead_15 (by decide) (fun c_4 => ?_) (fun c_4 => ?_)
  · have c_4 := bI_t c_4
    refine lv_iconst (v := nI 0) hx hb dX12_ofRead_22 (by decide) ?_
    refine zeq (show nI 0 = bI false from rfl) ?_
    refine lv_iconst (v := nI 1) hx hb dX12_ofRead_23 (by decide) ?_
    refine va_calli (va_runV (As := [.int (bI false), .int (nI 1)]) (rest := []) ⟨hx, hb, hml, hown, hts⟩ (c_X12_start_f l D ty A u C ma t0 mi g n1 n2 nL n4 n5 th rep bro hR 1 (by omega) (by omega)) (cwV 2 hts gX12_ofRead_X12_start rfl rfl rfl (by decide +kernel) ⟨Nat.le_of_ble_eq_true rfl, Nat.le_of_ble_eq_true rfl⟩) ⟨zBl mI_blind, (va_recv hK (hM.Pa hR.o.1 rfl hR.o.2) (ci := 13) (q0 := 0) rfl rfl), fun U h1 h2 => ⟨rfl, mI_pre hM hK hMS hS U h1 h2⟩⟩ rfl rfl hl.1 rfl (lv_room (Nat.le_of_ble_eq_true rfl)) dX12_ofRead_24 ⟨Nat.le_of_ble_eq_true rfl, Nat.le_of_ble_eq_true rfl⟩) hS (fun _ _ h => h) (fun _ h => h) (fun r_6 C_5 t H1 locs ht hvm hw hB9 hz1 hk1 hS => ?_)
    obtain ⟨hr_6, hR_7⟩ := hw
    obtain ⟨hM, -, -⟩ := hB9
    rw [ht] at hM
    clear hk1 hz1 hvm ht
    clear t
    generalize H1 = H at hM hS ⊢
    subst hr_6
    refine lv_if_ne (tgt := 53) hx hb dX12_ofRead_27 (by decide) (fun c_8 => ?_) (fun c_8 => ?_)
    · have c_8 := bI_t c_8
      cases c_8
    · have c_8 := bI_f c_8
      refine lv_aload_n hx hb dX12_ofRead_30 rfl (lv_at hl 0 rfl) ?_
      refine lv_iload_n hx hb dX12_ofRead_31 rfl (lv_at hl 2 rfl) ?_
      refine lv_iconst (v := nI 0) hx hb dX12_ofRead_32 (by decide) ?_
      refine lv_bipush (v := nI 11) hx hb dX12_ofRead_33 (by decide) ?_
      refine zcSi (As := [.int w0, .int (nI 0), .int (nI 11)]) (rest := [.ref (ma 0 0)]) ⟨hx, hb, hml, hown, hts⟩ (c_X12_isIn l _ w0 (nI 0) (nI 11)) (cwS 3 hts gX12_ofRead_X12_isIn rfl rfl rfl (by decide +kernel) ⟨Nat.le_of_ble_eq_true rfl, Nat.le_of_ble_eq_true rfl⟩) (B := fun _ => True) (fun _ _ _ _ _ => trivial) (fun _ _ _ => trivial) rfl hl.1 rfl (Nat.le_of_ble_eq_true rfl) dX12_ofRead_35 ⟨Nat.le_of_ble_eq_true rfl, Nat.le_of_ble_eq_true rfl⟩ (fun r_9 hr_9 => ?_)
      subst hr_9
      refine lv_if_ne (tgt := 45) hx hb dX12_ofRead_38 (by decide) (fun c_10 => ?_) (fun c_10 => ?_)
      · have c_10 := bI_t c_10
        simp only [c_4, c_8, c_10, Bool.not_true, Bool.not_false, Bool.and_true, Bool.true_and, Bool.and_false, Bool.false_and, Bool.or_true, Bool.true_or, Bool.or_false, Bool.false_or, Bool.and_self, Bool.or_self, Bool.true_eq_false, Bool.false_eq_true] at h2
      · have c_10 := bI_f c_10
        refine lv_iconst (v := nI 1) hx hb dX12_ofRead_41 (by decide) ?_
        refine zeq (show nI 1 = bI true from rfl) ?_
        refine lv_goto (tgt := 46) hx hb dX12_ofRead_42 (by decide) ?_
        refine lv_iconst (v := nI 2) hx hb dX12_ofRead_46 (by decide) ?_
        refine va_calli (va_runV (As := [.int (bI true), .int (nI 2)]) (rest := []) ⟨hx, hb, hml, hown, hts⟩ (c_X12_refuse_t l D ty A u C_5 ma t0 mi g n1 n2 nL n4 n5 (nI 0) rep bro hR_7 rfl 2 (by omega) (by omega)) (cwV 2 hts gX12_ofRead_X12_refuse rfl rfl rfl (by decide +kernel) ⟨Nat.le_of_ble_eq_true rfl, Nat.le_of_ble_eq_true rfl⟩) ⟨zBl mI_blind, (va_recv hK (hM.Pa hR_7.o.1 rfl hR_7.o.2) (ci := 13) (q0 := 0) rfl rfl), fun U h1 h2 => ⟨rfl, mI_pre hM hK hMS hS U h1 h2⟩⟩ rfl rfl hl.1 rfl (lv_room (Nat.le_of_ble_eq_true rfl)) dX12_ofRead_47 ⟨Nat.le_of_ble_eq_true rfl, Nat.le_of_ble_eq_true rfl⟩) hS (fun _ _ h => h) (fun _ h => h) (fun r_12 C_11 t H1 locs ht hvm hw hB9 hz1 hk1 hS => ?_)
        obtain ⟨hr_12, hR_13⟩ := hw
        obtain ⟨hM, -, -⟩ := hB9
        rw [ht] at hM
        clear hk1 hz1 hvm ht
        clear t
        generalize H1 = H at hM hS ⊢
        subst hr_12
        refine lv_if_eq (tgt := 57) hx hb dX12_ofRead_50 (by decide) (fun c_14 => ?_) (fun c_14 => ?_)
        · have c_14 := bI_f c_14
          cases c_14
        · have c_14 := bI_t c_14
          refine lv_iconst (v := nI 0) hx hb dX12_ofRead_53 (by decide) ?_
          refine lv_goto (tgt := 76) hx hb dX12_ofRead_54 (by decide) ?_
          exact W.iret (v := nI 0) hx hb hr (fun t ht hW => ⟨⟨_, C_11, rfl, ⟨rfl, hR_13⟩, mI_pre hM hK hMS hS t ht hW⟩, hS.F ht⟩) hS.2.2 dX12_ofRead_76
  · have c_4 := bI_f c_4
    simp only [c_4, Bool.not_true, Bool.not_false, Bool.and_true, Bool.true_and, Bool.and_false, Bool.false_and, Bool.or_true, Bool.true_or, Bool.or_false, Bool.false_or, Bool.and_self, Bool.or_self, Bool.true_eq_false, Bool.false_eq_true] at h1
set_option maxHeartbeats 600000 in
set_option maxRecDepth 100000 in
theorem m_ofReader (l : Launch) (D : va_G) (ty : Nat → ClassId) (A : Nat → Prop) (u : Nat → Nat → Prop) (C : Nat → Nat → va_E) (ma : Nat → Nat → Nat) (t0 mi : Nat) (g : Nat → Nat → Int32) (n1 n2 nL n4 n5 : Nat) (th : Int32) (rep bro : Nat → Nat → Int32) (hR : mR ty t0 g n1 n2 nL n4 n5 th rep bro u C ma) (R w0 : Nat) (hr6 : R < 6) (hw : w0 < 7) : Met l yX12_ofReader wsX12_ofReader ({ frames := 7, cells := 97, slots := 584, locals := 227 }) (va_Pc [.ref (ma 0 0), .int (nI R), .int (nI w0)] (mI D ty A u C ma t0 mi)) (va_Qi (fun (v9 : Int32) (C2 : Nat → Nat → va_E) => v9 = ofReaderN g n4 n5 R w0 ∧ mR ty t0 g n1 n2 nL n4 n5 (nI 0) rep bro u C2 ma) (fun C2 t => mI D ty A u C2 ma t0 mi t) A) 97 584 A := by
  refine zMet (cc := cX12_ofReader) (maxL := 3) (ret := (some .int)) (by decide) rfl (Nat.le_of_ble_eq_true rfl) ?_
  intro p e s m below meth c hx hb hr hts hown hlocks hml hB ls hl
  obtain ⟨hM, hK, hMS⟩ := hB
  have hS : va_S A s.heap s.heap [] := va_S.rf
  have hbn := hR.I.b1
  have hbs := hR.I.b2
  have hbl := hR.I.bL
  have hbc := hR.I.b4
  have hbr := hR.I.b5
  have h1 := bRd_ok hr6
  have h2 : (!inB (nI w0) (nI 0) (nI 6)) = false := by rw [inB_k (by omega) (by decide)]; rfl
  have hcq : cntR g R n5 ≤ 40 := by
    have q1 := cntS_le (g := g) (R := R + 1) (by omega) n5
    have q2 : cntS g n5 (R + 1) = cntS g n5 R + cntR g R n5 := rfl
    omega
  have hl : lv_has ls 3 [(0, .ref (ma 0 0)), (1, .int (nI R)), (2, .int (nI w0))] := hl
  refine lv_aload_n hx hb dX12_ofReader_0 rfl (lv_at hl 0 rfl) ?_
  refine lv_iload_n hx hb dX12_ofReader_1 rfl (lv_at hl 1 rfl) ?_
  refine zcSi (As := [.int (nI R)]) (rest := [.ref (ma 0 0)]) ⟨hx, hb, hml, hown, hts⟩ (c_X12_isNoReader l _ (nI R)) (cwS 1 hts gX12_ofReader_X12_isNoReader rfl rfl rfl (by decide +kernel) ⟨Nat.le_of_ble_eq_true rfl, Nat.le_of_ble_eq_true rfl⟩) (B := fun _ => True) (fun _ _ _ _ _ => trivial) (fun _ _ _ => trivial) rfl hl.1 rfl (Nat.le_of_ble_eq_true rfl) dX12_ofReader_2 ⟨Nat.le_of_ble_eq_true rfl, Nat.le_of_ble_eq_true rfl⟩ (fun r_1 hr_1 => ?_)
  subst hr_1
  refine zeq (show bI _ = bI false from by rw [h1]) ?_
  refine lv_iconst (v := nI 1) hx hb dX12_ofReader_5 (by decide) ?_
  refine va_calli (va_runV (As := [.int (bI false), .int (nI 1)]) (rest := []) ⟨hx, hb, hml, hown, hts⟩ (c_X12_start_f l D ty A u C ma t0 mi g n1 n2 nL n4 n5 th rep bro hR 1 (by omega) (by omega)) (cwV 2 hts gX12_ofReader_X12_start rfl rfl rfl (by decide +kernel) ⟨Nat.le_of_ble_eq_true rfl, Nat.le_of_ble_eq_true rfl⟩) ⟨zBl mI_blind, (va_recv hK (hM.Pa hR.o.1 rfl hR.o.2) (ci := 13) (q0 := 0) rfl rfl), fun U h1 h2 => ⟨rfl, mI_pre hM hK hMS hS U h1 h2⟩⟩ rfl rfl hl.1 rfl (lv_room (Nat.le_of_ble_eq_true rfl)) dX12_ofReader_6 ⟨Nat.le_of_ble_eq_true rfl, Nat.le_of_ble_eq_true rfl⟩) hS (fun _ _ h => h) (fun _ h => h) (fun r_3 C_2 t H1 locs ht hvm hw hB9 hz1 hk1 hS => ?_)
  obtain ⟨hr_3, hR_4⟩ := hw
  obtain ⟨hM, -, -⟩ := hB9
  rw [ht] at hM
  clear hk1 hz1 hvm ht
  clear t
  generalize H1 = H at hM hS ⊢
  subst hr_3
  refine lv_if_ne (tgt := 35) hx hb dX12_ofReader_9 (by decide) (fun c_5 => ?_) (fun c_5 => ?_)
  · have c_5 := bI_t c_5
    cases c_5
  · have c_5 := bI_f c_5
    refine lv_aload_n hx hb dX12_ofReader_12 rfl (lv_at hl 0 rfl) ?_
    refine lv_iload_n hx hb dX12_ofReader_13 rfl (lv_at hl 2 rfl) ?_
    refine lv_iconst (v := nI 0) hx hb dX12_ofReader_14 (by decide) ?_
    refine lv_bipush (v := nI 6) hx hb dX12_ofReader_15 (by decide) ?_
    refine zcSi (As := [.int (nI w0), .int (nI 0), .int (nI 6)]) (rest := [.ref (ma 0 0)]) ⟨hx, hb, hml, hown, hts⟩ (c_X12_isIn l _ (nI w0) (nI 0) (nI 6)) (cwS 3 hts gX12_ofReader_X12_isIn rfl rfl rfl (by decide +kernel) ⟨Nat.le_of_ble_eq_true rfl, Nat.le_of_ble_eq_true rfl⟩) (B := fun _ => True) (fun _ _ _ _ _ => trivial) (fun _ _ _ => trivial) rfl hl.1 rfl (Nat.le_of_ble_eq_true rfl) dX12_ofReader_17 ⟨Nat.le_of_ble_eq_true rfl, Nat.le_of_ble_eq_true rfl⟩ (fun r_6 hr_6 => ?_)
    subst hr_6
    refine lv_if_ne (tgt := 27) hx hb dX12_ofReader_20 (by decide) (fun c_7 => ?_) (fun c_7 => ?_)
    · have c_7 := bI_t c_7
      refine lv_iconst (v := nI 0) hx hb dX12_ofReader_27 (by decide) ?_
      refine zeq (show nI 0 = bI false from rfl) ?_
      refine lv_iconst (v := nI 2) hx hb dX12_ofReader_28 (by decide) ?_
      refine zcVi (As := [.int (bI false), .int (nI 2)]) (rest := []) ⟨hx, hb, hml, hown, hts⟩ (c_X12_refuse_f l D ty A u C_2 ma t0 mi g n1 n2 nL n4 n5 (nI 0) rep bro hR_4 rfl (nI 2)) (cwV 2 hts gX12_ofReader_X12_refuse rfl rfl rfl (by decide +kernel) ⟨Nat.le_of_ble_eq_true rfl, Nat.le_of_ble_eq_true rfl⟩) mI_blind (mI_pre hM hK hMS hS) (va_recv hK (hM.Pa hR_4.o.1 rfl hR_4.o.2) (ci := 13) (q0 := 0) rfl rfl) rfl hl.1 rfl (Nat.le_of_ble_eq_true rfl) dX12_ofReader_29 ⟨Nat.le_of_ble_eq_true rfl, Nat.le_of_ble_eq_true rfl⟩ (fun r_8 hr_8 => ?_)
      subst hr_8
      refine lv_if_eq (tgt := 39) hx hb dX12_ofReader_32 (by decide) (fun c_9 => ?_) (fun c_9 => ?_)
      · have c_9 := bI_f c_9
        refine lv_aload_n hx hb dX12_ofReader_39 rfl (lv_at hl 0 rfl) ?_
        refine lv_aload_n hx hb dX12_ofReader_40 rfl (lv_at hl 0 rfl) ?_
        have hFc : ∀ q : Nat, H.size ≤ q → A q := fun q h => hM.2.2 q h
        refine va_callr (va_runV (As := []) (rest := [.ref (ma 0 0)]) ⟨hx, hb, hml, hown, hts⟩ (c_X12_harms l D ty A u C_2 ma t0 mi g n1 n2 nL n4 n5 (nI 0) rep bro hR_4 H.size) (cwV 0 hts gX12_ofReader_X12_harms rfl rfl rfl (by decide +kernel) ⟨Nat.le_of_ble_eq_true rfl, Nat.le_of_ble_eq_true rfl⟩) ⟨zBl mIs_blind, (va_recv hK (hM.Pa hR_4.o.1 rfl hR_4.o.2) (ci := 13) (q0 := 0) rfl rfl), fun U h1 h2 => ⟨rfl, mI_pre hM hK hMS hS U h1 h2, by rw [h1]⟩⟩ rfl rfl hl.1 rfl (lv_room (Nat.le_of_ble_eq_true rfl)) dX12_ofReader_41 ⟨Nat.le_of_ble_eq_true rfl, Nat.le_of_ble_eq_true rfl⟩) hS (fun q _ h => hFc q h) hFc (fun u9 ah t H1 locs ht hvm hw hB9 hz1 hk1 hS => ?_)
        have ho9 : ∀ q : Nat, q < H.size → H1[q]? = H[q]? := fun q hq => hk1 q hq (Nat.not_le.mpr hq)
        have hM := hM.ext (fun q hq _ => ho9 q hq) hz1
        obtain ⟨hmb, hmd, hA, hAd⟩ := hB9
        rw [ht] at hA
        clear hk1 hz1 hvm ht ho9 hFc
        clear t
        generalize H1 = H at hM hS hA ⊢
        refine lv_iload_n hx hb dX12_ofReader_44 rfl (lv_at hl 1 rfl) ?_
        refine lv_iload_n hx hb dX12_ofReader_45 rfl (lv_at hl 2 rfl) ?_
        have hFc : ∀ q : Nat, H.size ≤ q → A q := fun q h => hM.2.2 q h
        refine va_calli (va_runV (As := [.ref ah, .int (nI R), .int (nI w0)]) (rest := []) ⟨hx, hb, hml, hown, hts⟩ (c_X12_ofReaderNow l D ty A u C_2 ma t0 mi g n1 n2 nL n4 n5 (nI 0) rep bro hR_4 _ H.size R (by omega) w0 (by omega)) (cwV 3 hts gX12_ofReader_X12_ofReaderNow rfl rfl rfl (by decide +kernel) ⟨Nat.le_of_ble_eq_true rfl, Nat.le_of_ble_eq_true rfl⟩) ⟨zBl mIhs_blind, (va_recv hK (hM.Pa hR_4.o.1 rfl hR_4.o.2) (ci := 13) (q0 := 0) rfl rfl), fun U h1 h2 => ⟨rfl, mIh_pre hM hK hMS hS hA U h1 h2, by rw [h1]⟩⟩ rfl rfl hl.1 rfl (lv_room (Nat.le_of_ble_eq_true rfl)) dX12_ofReader_46 ⟨by show _ + cntR g R n5 ≤ 97; omega, by show _ + 6 * cntR g R n5 ≤ 584; omega⟩) hS (fun q _ h => hFc q h) hFc (fun r_11 u9 t H1 locs ht hvm hw hB9 hz1 hk1 hS => ?_)
        have ho9 : ∀ q : Nat, q < H.size → H1[q]? = H[q]? := fun q hq => hk1 q hq (Nat.not_le.mpr hq)
        have hM := hM.ext (fun q hq _ => ho9 q hq) hz1
        have hA := hA.kept ho9
        clear hk1 hz1 hvm ht hB9 ho9 hFc
        clear t
        generalize H1 = H at hM hS hA ⊢
        have hr_11 := hw
        subst hr_11
        refine W.widen (k := 97) (n := 584) (by have := hcq; omega) (by have := hcq; omega) ?_
        exact W.iret (v := ofReaderN g n4 n5 R w0) hx hb hr (fun t ht hW => ⟨⟨_, C_2, rfl, ⟨rfl, hR_4⟩, mI_pre hM hK hMS hS t ht hW⟩, hS.F ht⟩) hS.2.2 dX12_ofReader_49
      · have c_9 := bI_t c_9
        cases c_9
    · have c_7 := bI_f c_7
      simp only [c_5, c_7, Bool.not_true, Bool.not_false, Bool.and_true, Bool.true_and, Bool.and_false, Bool.false_and, Bool.or_true, Bool.true_or, Bool.or_false, Bool.false_or, Bool.and_self, Bool.or_self, Bool.true_eq_false, Bool.false_eq_true] at h2
set_option maxHeartbeats 600000 in
set_option maxRecDepth 100000 in
theorem m_ofReader_x1 (l : Launch) (D : va_G) (ty : Nat → ClassId) (A : Nat → Prop) (u : Nat → Nat → Prop) (C : Nat → Nat → va_E) (ma : Nat → Nat → Nat) (t0 mi : Nat) (g : Nat → Nat → Int32) (n1 n2 nL n4 n5 : Nat) (th : Int32) (rep bro : Nat → Nat → Int32) (hR : mR ty t0 g n1 n2 nL n4 n5 th rep bro u C ma) (y w0 : Int32) (h1 : bRd y = true) : Met l yX12_ofReader wsX12_ofReader ({ frames := 7, cells := 0, slots := 0, locals := 192 }) (va_Pc [.ref (ma 0 0), .int y, .int w0] (mI D ty A u C ma t0 mi)) (va_Qi (fun (v9 : Int32) (C2 : Nat → Nat → va_E) => v9 = nI 0 ∧ mR ty t0 g n1 n2 nL n4 n5 (nI 1) rep bro u C2 ma) (fun C2 t => mI D ty A u C2 ma t0 mi t) A) 0 0 A := by
  refine zMet (cc := cX12_ofReader) (maxL := 3) (ret := (some .int)) (by decide) rfl (Nat.le_of_ble_eq_true rfl) ?_
  intro p e s m below meth c hx hb hr hts hown hlocks hml hB ls hl
  obtain ⟨hM, hK, hMS⟩ := hB
  have hS : va_S A s.heap s.heap [] := va_S.rf
  have hbn := hR.I.b1
  have hbs := hR.I.b2
  have hbl := hR.I.bL
  have hbc := hR.I.b4
  have hbr := hR.I.b5
  have hl : lv_has ls 3 [(0, .ref (ma 0 0)), (1, .int y), (2, .int w0)] := hl
  refine lv_aload_n hx hb dX12_ofReader_0 rfl (lv_at hl 0 rfl) ?_
  refine lv_iload_n hx hb dX12_ofReader_1 rfl (lv_at hl 1 rfl) ?_
  refine zcSi (As := [.int y]) (rest := [.ref (ma 0 0)]) ⟨hx, hb, hml, hown, hts⟩ (c_X12_isNoReader l _ y) (cwS 1 hts gX12_ofReader_X12_isNoReader rfl rfl rfl (by decide +kernel) ⟨Nat.le_of_ble_eq_true rfl, Nat.le_of_ble_eq_true rfl⟩) (B := fun _ => True) (fun _ _ _ _ _ => trivial) (fun _ _ _ => trivial) rfl hl.1 rfl (Nat.le_of_ble_eq_true rfl) dX12_ofReader_2 ⟨Nat.le_of_ble_eq_true rfl, Nat.le_of_ble_eq_true rfl⟩ (fun r_1 hr_1 => ?_)
  subst hr_1
  refine zeq (show bI _ = bI true from by rw [h1]) ?_
  refine lv_iconst (v := nI 1) hx hb dX12_ofReader_5 (by decide) ?_
  refine va_calli (va_runV (As := [.int (bI true), .int (nI 1)]) (rest := []) ⟨hx, hb, hml, hown, hts⟩ (c_X12_start_t l D ty A u C ma t0 mi g n1 n2 nL n4 n5 th rep bro hR 1 (by omega) (by omega)) (cwV 2 hts gX12_ofReader_X12_start rfl rfl rfl (by decide +kernel) ⟨Nat.le_of_ble_eq_true rfl, Nat.le_of_ble_eq_true rfl⟩) ⟨zBl mI_blind, (va_recv hK (hM.Pa hR.o.1 rfl hR.o.2) (ci := 13) (q0 := 0) rfl rfl), fun U h1 h2 => ⟨rfl, mI_pre hM hK hMS hS U h1 h2⟩⟩ rfl rfl hl.1 rfl (lv_room (Nat.le_of_ble_eq_true rfl)) dX12_ofReader_6 ⟨Nat.le_of_ble_eq_true rfl, Nat.le_of_ble_eq_true rfl⟩) hS (fun _ _ h => h) (fun _ h => h) (fun r_3 C_2 t H1 locs ht hvm hw hB9 hz1 hk1 hS => ?_)
  obtain ⟨hr_3, hR_4⟩ := hw
  obtain ⟨hM, -, -⟩ := hB9
  rw [ht] at hM
  clear hk1 hz1 hvm ht
  clear t
  generalize H1 = H at hM hS ⊢
  subst hr_3
  refine lv_if_ne (tgt := 35) hx hb dX12_ofReader_9 (by decide) (fun c_5 => ?_) (fun c_5 => ?_)
  · have c_5 := bI_t c_5
    refine lv_iconst (v := nI 0) hx hb dX12_ofReader_35 (by decide) ?_
    refine lv_goto (tgt := 49) hx hb dX12_ofReader_36 (by decide) ?_
    exact W.iret (v := nI 0) hx hb hr (fun t ht hW => ⟨⟨_, C_2, rfl, ⟨rfl, hR_4⟩, mI_pre hM hK hMS hS t ht hW⟩, hS.F ht⟩) hS.2.2 dX12_ofReader_49
  · have c_5 := bI_f c_5
    cases c_5
set_option maxHeartbeats 600000 in
set_option maxRecDepth 100000 in
theorem m_ofReader_x2 (l : Launch) (D : va_G) (ty : Nat → ClassId) (A : Nat → Prop) (u : Nat → Nat → Prop) (C : Nat → Nat → va_E) (ma : Nat → Nat → Nat) (t0 mi : Nat) (g : Nat → Nat → Int32) (n1 n2 nL n4 n5 : Nat) (th : Int32) (rep bro : Nat → Nat → Int32) (hR : mR ty t0 g n1 n2 nL n4 n5 th rep bro u C ma) (y w0 : Int32) (h1 : bRd y = false) (h2 : (!inB w0 (nI 0) (nI 6)) = true) : Met l yX12_ofReader wsX12_ofReader ({ frames := 7, cells := 0, slots := 0, locals := 192 }) (va_Pc [.ref (ma 0 0), .int y, .int w0] (mI D ty A u C ma t0 mi)) (va_Qi (fun (v9 : Int32) (C2 : Nat → Nat → va_E) => v9 = nI 0 ∧ mR ty t0 g n1 n2 nL n4 n5 (nI 2) rep bro u C2 ma) (fun C2 t => mI D ty A u C2 ma t0 mi t) A) 0 0 A := by
  refine zMet (cc := cX12_ofReader) (maxL := 3) (ret := (some .int)) (by decide) rfl (Nat.le_of_ble_eq_true rfl) ?_
  intro p e s m below meth c hx hb hr hts hown hlocks hml hB ls hl
  obtain ⟨hM, hK, hMS⟩ := hB
  have hS : va_S A s.heap s.heap [] := va_S.rf
  have hbn := hR.I.b1
  have hbs := hR.I.b2
  have hbl := hR.I.bL
  have hbc := hR.I.b4
  have hbr := hR.I.b5
  have hl : lv_has ls 3 [(0, .ref (ma 0 0)), (1, .int y), (2, .int w0)] := hl
  refine lv_aload_n hx hb dX12_ofReader_0 rfl (lv_at hl 0 rfl) ?_
  refine lv_iload_n hx hb dX12_ofReader_1 rfl (lv_at hl 1 rfl) ?_
  refine zcSi (As := [.int y]) (rest := [.ref (ma 0 0)]) ⟨hx, hb, hml, hown, hts⟩ (c_X12_isNoReader l _ y) (cwS 1 hts gX12_ofReader_X12_isNoReader rfl rfl rfl (by decide +kernel) ⟨Nat.le_of_ble_eq_true rfl, Nat.le_of_ble_eq_true rfl⟩) (B := fun _ => True) (fun _ _ _ _ _ => trivial) (fun _ _ _ => trivial) rfl hl.1 rfl (Nat.le_of_ble_eq_true rfl) dX12_ofReader_2 ⟨Nat.le_of_ble_eq_true rfl, Nat.le_of_ble_eq_true rfl⟩ (fun r_1 hr_1 => ?_)
  subst hr_1
  refine zeq (show bI _ = bI false from by rw [h1]) ?_
  refine lv_iconst (v := nI 1) hx hb dX12_ofReader_5 (by decide) ?_
  refine va_calli (va_runV (As := [.int (bI false), .int (nI 1)]) (rest := []) ⟨hx, hb, hml, hown, hts⟩ (c_X12_start_f l D ty A u C ma t0 mi g n1 n2 nL n4 n5 th rep bro hR 1 (by omega) (by omega)) (cwV 2 hts gX12_ofReader_X12_start rfl rfl rfl (by decide +kernel) ⟨Nat.le_of_ble_eq_true rfl, Nat.le_of_ble_eq_true rfl⟩) ⟨zBl mI_blind, (va_recv hK (hM.Pa hR.o.1 rfl hR.o.2) (ci := 13) (q0 := 0) rfl rfl), fun U h1 h2 => ⟨rfl, mI_pre hM hK hMS hS U h1 h2⟩⟩ rfl rfl hl.1 rfl (lv_room (Nat.le_of_ble_eq_true rfl)) dX12_ofReader_6 ⟨Nat.le_of_ble_eq_true rfl, Nat.le_of_ble_eq_true rfl⟩) hS (fun _ _ h => h) (fun _ h => h) (fun r_3 C_2 t H1 locs ht hvm hw hB9 hz1 hk1 hS => ?_)
  obtain ⟨hr_3, hR_4⟩ := hw
  obtain ⟨hM, -, -⟩ := hB9
  rw [ht] at hM
  clear hk1 hz1 hvm ht
  clear t
  generalize H1 = H at hM hS ⊢
  subst hr_3
  refine lv_if_ne (tgt := 35) hx hb dX12_ofReader_9 (by decide) (fun c_5 => ?_) (fun c_5 => ?_)
  · have c_5 := bI_t c_5
    cases c_5
  · have c_5 := bI_f c_5
    refine lv_aload_n hx hb dX12_ofReader_12 rfl (lv_at hl 0 rfl) ?_
    refine lv_iload_n hx hb dX12_ofReader_13 rfl (lv_at hl 2 rfl) ?_
    refine lv_iconst (v := nI 0) hx hb dX12_ofReader_14 (by decide) ?_
    refine lv_bipush (v := nI 6) hx hb dX12_ofReader_15 (by decide) ?_
    refine zcSi (As := [.int w0, .int (nI 0), .int (nI 6)]) (rest := [.ref (ma 0 0)]) ⟨hx, hb, hml, hown, hts⟩ (c_X12_isIn l _ w0 (nI 0) (nI 6)) (cwS 3 hts gX12_ofReader_X12_isIn rfl rfl rfl (by decide +kernel) ⟨Nat.le_of_ble_eq_true rfl, Nat.le_of_ble_eq_true rfl⟩) (B := fun _ => True) (fun _ _ _ _ _ => trivial) (fun _ _ _ => trivial) rfl hl.1 rfl (Nat.le_of_ble_eq_true rfl) dX12_ofReader_17 ⟨Nat.le_of_ble_eq_true rfl, Nat.le_of_ble_eq_true rfl⟩ (fun r_6 hr_6 => ?_)
    subst hr_6
    refine lv_if_ne (tgt := 27) hx hb dX12_ofReader_20 (by decide) (fun c_7 => ?_) (fun c_7 => ?_)
    · have c_7 := bI_t c_7
      simp only [c_5, c_7, Bool.not_true, Bool.not_false, Bool.and_true, Bool.true_and, Bool.and_false, Bool.false_and, Bool.or_true, Bool.true_or, Bool.or_false, Bool.false_or, Bool.and_self, Bool.or_self, Bool.true_eq_false, Bool.false_eq_true] at h2
    · have c_7 := bI_f c_7
      refine lv_iconst (v := nI 1) hx hb dX12_ofReader_23 (by decide) ?_
      refine zeq (show nI 1 = bI true from rfl) ?_
      refine lv_goto (tgt := 28) hx hb dX12_ofReader_24 (by decide) ?_
      refine lv_iconst (v := nI 2) hx hb dX12_ofReader_28 (by decide) ?_
      refine va_calli (va_runV (As := [.int (bI true), .int (nI 2)]) (rest := []) ⟨hx, hb, hml, hown, hts⟩ (c_X12_refuse_t l D ty A u C_2 ma t0 mi g n1 n2 nL n4 n5 (nI 0) rep bro hR_4 rfl 2 (by omega) (by omega)) (cwV 2 hts gX12_ofReader_X12_refuse rfl rfl rfl (by decide +kernel) ⟨Nat.le_of_ble_eq_true rfl, Nat.le_of_ble_eq_true rfl⟩) ⟨zBl mI_blind, (va_recv hK (hM.Pa hR_4.o.1 rfl hR_4.o.2) (ci := 13) (q0 := 0) rfl rfl), fun U h1 h2 => ⟨rfl, mI_pre hM hK hMS hS U h1 h2⟩⟩ rfl rfl hl.1 rfl (lv_room (Nat.le_of_ble_eq_true rfl)) dX12_ofReader_29 ⟨Nat.le_of_ble_eq_true rfl, Nat.le_of_ble_eq_true rfl⟩) hS (fun _ _ h => h) (fun _ h => h) (fun r_9 C_8 t H1 locs ht hvm hw hB9 hz1 hk1 hS => ?_)
      obtain ⟨hr_9, hR_10⟩ := hw
      obtain ⟨hM, -, -⟩ := hB9
      rw [ht] at hM
      clear hk1 hz1 hvm ht
      clear t
      generalize H1 = H at hM hS ⊢
      subst hr_9
      refine lv_if_eq (tgt := 39) hx hb dX12_ofReader_32 (by decide) (fun c_11 => ?_) (fun c_11 => ?_)
      · have c_11 := bI_f c_11
        cases c_11
      · have c_11 := bI_t c_11
        refine lv_iconst (v := nI 0) hx hb dX12_ofReader_35 (by decide) ?_
        refine lv_goto (tgt := 49) hx hb dX12_ofReader_36 (by decide) ?_
        exact W.iret (v := nI 0) hx hb hr (fun t ht hW => ⟨⟨_, C_8, rfl, ⟨rfl, hR_10⟩, mI_pre hM hK hMS hS t ht hW⟩, hS.F ht⟩) hS.2.2 dX12_ofReader_49
set_option maxHeartbeats 600000 in
set_option maxRecDepth 100000 in
theorem m_many (l : Launch) (D : va_G) (ty : Nat → ClassId) (A : Nat → Prop) (u : Nat → Nat → Prop) (C : Nat → Nat → va_E) (ma : Nat → Nat → Nat) (t0 mi : Nat) (g : Nat → Nat → Int32) (n1 n2 nL n4 n5 : Nat) (th : Int32) (rep bro : Nat → Nat → Int32) (hR : mR ty t0 g n1 n2 nL n4 n5 th rep bro u C ma) (w0 : Nat) (hw : w0 < 9) : Met l yX12_many wsX12_many ({ frames := 7, cells := 58, slots := 353, locals := 192 }) (va_Pc [.ref (ma 0 0), .int (nI w0)] (mI D ty A u C ma t0 mi)) (va_Qi (fun (v9 : Int32) (C2 : Nat → Nat → va_E) => v9 = manyN g n1 n5 w0 ∧ mR ty t0 g n1 n2 nL n4 n5 (nI 0) rep bro u C2 ma) (fun C2 t => mI D ty A u C2 ma t0 mi t) A) 58 353 A := by
  refine zMet (cc := cX12_many) (maxL := 2) (ret := (some .int)) (by decide) rfl (Nat.le_of_ble_eq_true rfl) ?_
  intro p e s m below meth c hx hb hr hts hown hlocks hml hB ls hl
  obtain ⟨hM, hK, hMS⟩ := hB
  have hS : va_S A s.heap s.heap [] := va_S.rf
  have hbn := hR.I.b1
  have hbs := hR.I.b2
  have hbl := hR.I.bL
  have hbc := hR.I.b4
  have hbr := hR.I.b5
  have h1 : (!inB (nI w0) (nI 0) (nI 8)) = false := by rw [inB_k (by omega) (by decide)]; rfl
  have hl : lv_has ls 2 [(0, .ref (ma 0 0)), (1, .int (nI w0))] := hl
  refine lv_aload_n hx hb dX12_many_0 rfl (lv_at hl 0 rfl) ?_
  refine lv_iload_n hx hb dX12_many_1 rfl (lv_at hl 1 rfl) ?_
  refine lv_iconst (v := nI 0) hx hb dX12_many_2 (by decide) ?_
  refine lv_bipush (v := nI 8) hx hb dX12_many_3 (by decide) ?_
  refine zcSi (As := [.int (nI w0), .int (nI 0), .int (nI 8)]) (rest := [.ref (ma 0 0)]) ⟨hx, hb, hml, hown, hts⟩ (c_X12_isIn l _ (nI w0) (nI 0) (nI 8)) (cwS 3 hts gX12_many_X12_isIn rfl rfl rfl (by decide +kernel) ⟨Nat.le_of_ble_eq_true rfl, Nat.le_of_ble_eq_true rfl⟩) (B := fun _ => True) (fun _ _ _ _ _ => trivial) (fun _ _ _ => trivial) rfl hl.1 rfl (Nat.le_of_ble_eq_true rfl) dX12_many_5 ⟨Nat.le_of_ble_eq_true rfl, Nat.le_of_ble_eq_true rfl⟩ (fun r_1 hr_1 => ?_)
  subst hr_1
  refine lv_if_ne (tgt := 15) hx hb dX12_many_8 (by decide) (fun c_2 => ?_) (fun c_2 => ?_)
  · have c_2 := bI_t c_2
    refine lv_iconst (v := nI 0) hx hb dX12_many_15 (by decide) ?_
    refine zeq (show nI 0 = bI false from rfl) ?_
    refine lv_iconst (v := nI 1) hx hb dX12_many_16 (by decide) ?_
    refine va_calli (va_runV (As := [.int (bI false), .int (nI 1)]) (rest := []) ⟨hx, hb, hml, hown, hts⟩ (c_X12_start_f l D ty A u C ma t0 mi g n1 n2 nL n4 n5 th rep bro hR 1 (by omega) (by omega)) (cwV 2 hts gX12_many_X12_start rfl rfl rfl (by decide +kernel) ⟨Nat.le_of_ble_eq_true rfl, Nat.le_of_ble_eq_true rfl⟩) ⟨zBl mI_blind, (va_recv hK (hM.Pa hR.o.1 rfl hR.o.2) (ci := 13) (q0 := 0) rfl rfl), fun U h1 h2 => ⟨rfl, mI_pre hM hK hMS hS U h1 h2⟩⟩ rfl rfl hl.1 rfl (lv_room (Nat.le_of_ble_eq_true rfl)) dX12_many_17 ⟨Nat.le_of_ble_eq_true rfl, Nat.le_of_ble_eq_true rfl⟩) hS (fun _ _ h => h) (fun _ h => h) (fun r_4 C_3 t H1 locs ht hvm hw hB9 hz1 hk1 hS => ?_)
    obtain ⟨hr_4, hR_5⟩ := hw
    obtain ⟨hM, -, -⟩ := hB9
    rw [ht] at hM
    clear hk1 hz1 hvm ht
    clear t
    generalize H1 = H at hM hS ⊢
    subst hr_4
    refine lv_if_eq (tgt := 27) hx hb dX12_many_20 (by decide) (fun c_6 => ?_) (fun c_6 => ?_)
    · have c_6 := bI_f c_6
      refine lv_aload_n hx hb dX12_many_27 rfl (lv_at hl 0 rfl) ?_
      refine lv_iload_n hx hb dX12_many_28 rfl (lv_at hl 1 rfl) ?_
      have hFc : ∀ q : Nat, H.size ≤ q → A q := fun q h => hM.2.2 q h
      refine va_calli (va_runV (As := [.int (nI w0)]) (rest := []) ⟨hx, hb, hml, hown, hts⟩ (c_X12_count l D ty A u C_3 ma t0 mi g n1 n2 nL n4 n5 (nI 0) rep bro hR_5 H.size w0 (by omega)) (cwV 1 hts gX12_many_X12_count rfl rfl rfl (by decide +kernel) ⟨Nat.le_of_ble_eq_true rfl, Nat.le_of_ble_eq_true rfl⟩) ⟨zBl mIs_blind, (va_recv hK (hM.Pa hR_5.o.1 rfl hR_5.o.2) (ci := 13) (q0 := 0) rfl rfl), fun U h1 h2 => ⟨rfl, mI_pre hM hK hMS hS U h1 h2, by rw [h1]⟩⟩ rfl rfl hl.1 rfl (lv_room (Nat.le_of_ble_eq_true rfl)) dX12_many_29 ⟨Nat.le_of_ble_eq_true rfl, Nat.le_of_ble_eq_true rfl⟩) hS (fun q _ h => hFc q h) hFc (fun r_7 u9 t H1 locs ht hvm hw hB9 hz1 hk1 hS => ?_)
      have ho9 : ∀ q : Nat, q < H.size → H1[q]? = H[q]? := fun q hq => hk1 q hq (Nat.not_le.mpr hq)
      have hM := hM.ext (fun q hq _ => ho9 q hq) hz1
      clear hk1 hz1 hvm ht hB9 ho9 hFc
      clear t
      generalize H1 = H at hM hS ⊢
      have hr_7 := hw
      subst hr_7
      refine W.widen (k := 58) (n := 353) (by omega) (by omega) ?_
      exact W.iret (v := manyN g n1 n5 w0) hx hb hr (fun t ht hW => ⟨⟨_, C_3, rfl, ⟨rfl, hR_5⟩, mI_pre hM hK hMS hS t ht hW⟩, hS.F ht⟩) hS.2.2 dX12_many_32
    · have c_6 := bI_t c_6
      cases c_6
  · have c_2 := bI_f c_2
    simp only [c_2, Bool.not_true, Bool.not_false, Bool.and_true, Bool.true_and, Bool.and_false, Bool.false_and, Bool.or_true, Bool.true_or, Bool.or_false, Bool.false_or, Bool.and_self, Bool.or_self, Bool.true_eq_false, Bool.false_eq_true] at h1
set_option maxHeartbeats 600000 in
set_option maxRecDepth 100000 in
theorem m_many_x1 (l : Launch) (D : va_G) (ty : Nat → ClassId) (A : Nat → Prop) (u : Nat → Nat → Prop) (C : Nat → Nat → va_E) (ma : Nat → Nat → Nat) (t0 mi : Nat) (g : Nat → Nat → Int32) (n1 n2 nL n4 n5 : Nat) (th : Int32) (rep bro : Nat → Nat → Int32) (hR : mR ty t0 g n1 n2 nL n4 n5 th rep bro u C ma) (w0 : Int32) (h1 : (!inB w0 (nI 0) (nI 8)) = true) : Met l yX12_many wsX12_many ({ frames := 7, cells := 0, slots := 0, locals := 192 }) (va_Pc [.ref (ma 0 0), .int w0] (mI D ty A u C ma t0 mi)) (va_Qi (fun (v9 : Int32) (C2 : Nat → Nat → va_E) => v9 = nI 0 ∧ mR ty t0 g n1 n2 nL n4 n5 (nI 1) rep bro u C2 ma) (fun C2 t => mI D ty A u C2 ma t0 mi t) A) 0 0 A := by
  refine zMet (cc := cX12_many) (maxL := 2) (ret := (some .int)) (by decide) rfl (Nat.le_of_ble_eq_true rfl) ?_
  intro p e s m below meth c hx hb hr hts hown hlocks hml hB ls hl
  obtain ⟨hM, hK, hMS⟩ := hB
  have hS : va_S A s.heap s.heap [] := va_S.rf
  have hbn := hR.I.b1
  have hbs := hR.I.b2
  have hbl := hR.I.bL
  have hbc := hR.I.b4
  have hbr := hR.I.b5
  have hl : lv_has ls 2 [(0, .ref (ma 0 0)), (1, .int w0)] := hl
  refine lv_aload_n hx hb dX12_many_0 rfl (lv_at hl 0 rfl) ?_
  refine lv_iload_n hx hb dX12_many_1 rfl (lv_at hl 1 rfl) ?_
  refine lv_iconst (v := nI 0) hx hb dX12_many_2 (by decide) ?_
  refine lv_bipush (v := nI 8) hx hb dX12_many_3 (by decide) ?_
  refine zcSi (As := [.int w0, .int (nI 0), .int (nI 8)]) (rest := [.ref (ma 0 0)]) ⟨hx, hb, hml, hown, hts⟩ (c_X12_isIn l _ w0 (nI 0) (nI 8)) (cwS 3 hts gX12_many_X12_isIn rfl rfl rfl (by decide +kernel) ⟨Nat.le_of_ble_eq_true rfl, Nat.le_of_ble_eq_true rfl⟩) (B := fun _ => True) (fun _ _ _ _ _ => trivial) (fun _ _ _ => trivial) rfl hl.1 rfl (Nat.le_of_ble_eq_true rfl) dX12_many_5 ⟨Nat.le_of_ble_eq_true rfl, Nat.le_of_ble_eq_true rfl⟩ (fun r_1 hr_1 => ?_)
  subst hr_1
  refine lv_if_ne (tgt := 15) hx hb dX12_many_8 (by decide) (fun c_2 => ?_) (fun c_2 => ?_)
  · have c_2 := bI_t c_2
    simp only [c_2, Bool.not_true, Bool.not_false, Bool.and_true, Bool.true_and, Bool.and_false, Bool.false_and, Bool.or_true, Bool.true_or, Bool.or_false, Bool.false_or, Bool.and_self, Bool.or_self, Bool.true_eq_false, Bool.false_eq_true] at h1
  · have c_2 := bI_f c_2
    refine lv_iconst (v := nI 1) hx hb dX12_many_11 (by decide) ?_
    refine zeq (show nI 1 = bI true from rfl) ?_
    refine lv_goto (tgt := 16) hx hb dX12_many_12 (by decide) ?_
    refine lv_iconst (v := nI 1) hx hb dX12_many_16 (by decide) ?_
    refine va_calli (va_runV (As := [.int (bI true), .int (nI 1)]) (rest := []) ⟨hx, hb, hml, hown, hts⟩ (c_X12_start_t l D ty A u C ma t0 mi g n1 n2 nL n4 n5 th rep bro hR 1 (by omega) (by omega)) (cwV 2 hts gX12_many_X12_start rfl rfl rfl (by decide +kernel) ⟨Nat.le_of_ble_eq_true rfl, Nat.le_of_ble_eq_true rfl⟩) ⟨zBl mI_blind, (va_recv hK (hM.Pa hR.o.1 rfl hR.o.2) (ci := 13) (q0 := 0) rfl rfl), fun U h1 h2 => ⟨rfl, mI_pre hM hK hMS hS U h1 h2⟩⟩ rfl rfl hl.1 rfl (lv_room (Nat.le_of_ble_eq_true rfl)) dX12_many_17 ⟨Nat.le_of_ble_eq_true rfl, Nat.le_of_ble_eq_true rfl⟩) hS (fun _ _ h => h) (fun _ h => h) (fun r_4 C_3 t H1 locs ht hvm hw hB9 hz1 hk1 hS => ?_)
    obtain ⟨hr_4, hR_5⟩ := hw
    obtain ⟨hM, -, -⟩ := hB9
    rw [ht] at hM
    clear hk1 hz1 hvm ht
    clear t
    generalize H1 = H at hM hS ⊢
    subst hr_4
    refine lv_if_eq (tgt := 27) hx hb dX12_many_20 (by decide) (fun c_6 => ?_) (fun c_6 => ?_)
    · have c_6 := bI_f c_6
      cases c_6
    · have c_6 := bI_t c_6
      refine lv_iconst (v := nI 0) hx hb dX12_many_23 (by decide) ?_
      refine lv_goto (tgt := 32) hx hb dX12_many_24 (by decide) ?_
      exact W.iret (v := nI 0) hx hb hr (fun t ht hW => ⟨⟨_, C_3, rfl, ⟨rfl, hR_5⟩, mI_pre hM hK hMS hS t ht hW⟩, hS.F ht⟩) hS.2.2 dX12_many_32
set_option maxHeartbeats 600000 in
set_option maxRecDepth 100000 in
theorem m_previews (l : Launch) (D : va_G) (ty : Nat → ClassId) (A : Nat → Prop) (u : Nat → Nat → Prop) (C : Nat → Nat → va_E) (ma : Nat → Nat → Nat) (t0 mi : Nat) (g : Nat → Nat → Int32) (n1 n2 nL n4 n5 : Nat) (th : Int32) (rep bro : Nat → Nat → Int32) (hR : mR ty t0 g n1 n2 nL n4 n5 th rep bro u C ma) (R i : Nat) (hr6 : R < 6) (hi : i < n1) : Met l yX12_previews wsX12_previews ({ frames := 7, cells := 0, slots := 0, locals := 192 }) (va_Pc [.ref (ma 0 0), .int (nI R), .int (nI i)] (mI D ty A u C ma t0 mi)) (va_Qi (fun (v9 : Int32) (C2 : Nat → Nat → va_E) => v9 = prevN g n4 R i ∧ mR ty t0 g n1 n2 nL n4 n5 (nI 0) rep bro u C2 ma) (fun C2 t => mI D ty A u C2 ma t0 mi t) A) 0 0 A := by
  refine zMet (cc := cX12_previews) (maxL := 3) (ret := (some .int)) (by decide) rfl (Nat.le_of_ble_eq_true rfl) ?_
  intro p e s m below meth c hx hb hr hts hown hlocks hml hB ls hl
  obtain ⟨hM, hK, hMS⟩ := hB
  have hS : va_S A s.heap s.heap [] := va_S.rf
  have hbn := hR.I.b1
  have hbs := hR.I.b2
  have hbl := hR.I.bL
  have hbc := hR.I.b4
  have hbr := hR.I.b5
  have h1 : (bRd (nI R) || bNo n1 (nI i)) = false := by rw [bRd_ok hr6, bNo_ok hR.I.b1 hi]; rfl
  have hl : lv_has ls 3 [(0, .ref (ma 0 0)), (1, .int (nI R)), (2, .int (nI i))] := hl
  refine lv_aload_n hx hb dX12_previews_0 rfl (lv_at hl 0 rfl) ?_
  refine lv_iload_n hx hb dX12_previews_1 rfl (lv_at hl 1 rfl) ?_
  refine zcSi (As := [.int (nI R)]) (rest := [.ref (ma 0 0)]) ⟨hx, hb, hml, hown, hts⟩ (c_X12_isNoReader l _ (nI R)) (cwS 1 hts gX12_previews_X12_isNoReader rfl rfl rfl (by decide +kernel) ⟨Nat.le_of_ble_eq_true rfl, Nat.le_of_ble_eq_true rfl⟩) (B := fun _ => True) (fun _ _ _ _ _ => trivial) (fun _ _ _ => trivial) rfl hl.1 rfl (Nat.le_of_ble_eq_true rfl) dX12_previews_2 ⟨Nat.le_of_ble_eq_true rfl, Nat.le_of_ble_eq_true rfl⟩ (fun r_1 hr_1 => ?_)
  subst hr_1
  refine lv_if_ne (tgt := 16) hx hb dX12_previews_5 (by decide) (fun c_2 => ?_) (fun c_2 => ?_)
  · have c_2 := bI_t c_2
    simp only [c_2, Bool.not_true, Bool.not_false, Bool.and_true, Bool.true_and, Bool.and_false, Bool.false_and, Bool.or_true, Bool.true_or, Bool.or_false, Bool.false_or, Bool.and_self, Bool.or_self, Bool.true_eq_false, Bool.false_eq_true] at h1
  · have c_2 := bI_f c_2
    refine lv_aload_n hx hb dX12_previews_8 rfl (lv_at hl 0 rfl) ?_
    refine lv_iload_n hx hb dX12_previews_9 rfl (lv_at hl 2 rfl) ?_
    refine zcVi (As := [.int (nI i)]) (rest := [.ref (ma 0 0)]) ⟨hx, hb, hml, hown, hts⟩ (c_X12_isNo l D ty A u C ma t0 mi g n1 n2 nL n4 n5 th rep bro hR (nI i)) (cwV 1 hts gX12_previews_X12_isNo rfl rfl rfl (by decide +kernel) ⟨Nat.le_of_ble_eq_true rfl, Nat.le_of_ble_eq_true rfl⟩) mI_blind (mI_pre hM hK hMS hS) (va_recv hK (hM.Pa hR.o.1 rfl hR.o.2) (ci := 13) (q0 := 0) rfl rfl) rfl hl.1 rfl (Nat.le_of_ble_eq_true rfl) dX12_previews_10 ⟨Nat.le_of_ble_eq_true rfl, Nat.le_of_ble_eq_true rfl⟩ (fun r_3 hr_3 => ?_)
    subst hr_3
    refine lv_if_eq (tgt := 20) hx hb dX12_previews_13 (by decide) (fun c_4 => ?_) (fun c_4 => ?_)
    · have c_4 := bI_f c_4
      refine lv_iconst (v := nI 0) hx hb dX12_previews_20 (by decide) ?_
      refine zeq (show nI 0 = bI false from rfl) ?_
      refine lv_iconst (v := nI 1) hx hb dX12_previews_21 (by decide) ?_
      refine va_calli (va_runV (As := [.int (bI false), .int (nI 1)]) (rest := []) ⟨hx, hb, hml, hown, hts⟩ (c_X12_start_f l D ty A u C ma t0 mi g n1 n2 nL n4 n5 th rep bro hR 1 (by omega) (by omega)) (cwV 2 hts gX12_previews_X12_start rfl rfl rfl (by decide +kernel) ⟨Nat.le_of_ble_eq_true rfl, Nat.le_of_ble_eq_true rfl⟩) ⟨zBl mI_blind, (va_recv hK (hM.Pa hR.o.1 rfl hR.o.2) (ci := 13) (q0 := 0) rfl rfl), fun U h1 h2 => ⟨rfl, mI_pre hM hK hMS hS U h1 h2⟩⟩ rfl rfl hl.1 rfl (lv_room (Nat.le_of_ble_eq_true rfl)) dX12_previews_22 ⟨Nat.le_of_ble_eq_true rfl, Nat.le_of_ble_eq_true rfl⟩) hS (fun _ _ h => h) (fun _ h => h) (fun r_6 C_5 t H1 locs ht hvm hw hB9 hz1 hk1 hS => ?_)
      obtain ⟨hr_6, hR_7⟩ := hw
      obtain ⟨hM, -, -⟩ := hB9
      rw [ht] at hM
      clear hk1 hz1 hvm ht
      clear t
      generalize H1 = H at hM hS ⊢
      subst hr_6
      refine lv_if_eq (tgt := 32) hx hb dX12_previews_25 (by decide) (fun c_8 => ?_) (fun c_8 => ?_)
      · have c_8 := bI_f c_8
        refine lv_aload_n hx hb dX12_previews_32 rfl (lv_at hl 0 rfl) ?_
        refine lv_iload_n hx hb dX12_previews_33 rfl (lv_at hl 1 rfl) ?_
        refine lv_iload_n hx hb dX12_previews_34 rfl (lv_at hl 2 rfl) ?_
        refine zcVi (As := [.int (nI R), .int (nI i)]) (rest := []) ⟨hx, hb, hml, hown, hts⟩ (c_X12_previewsNow l D ty A u C_5 ma t0 mi g n1 n2 nL n4 n5 (nI 0) rep bro hR_7 R i (by omega) (by omega)) (cwV 2 hts gX12_previews_X12_previewsNow rfl rfl rfl (by decide +kernel) ⟨Nat.le_of_ble_eq_true rfl, Nat.le_of_ble_eq_true rfl⟩) mI_blind (mI_pre hM hK hMS hS) (va_recv hK (hM.Pa hR_7.o.1 rfl hR_7.o.2) (ci := 13) (q0 := 0) rfl rfl) rfl hl.1 rfl (Nat.le_of_ble_eq_true rfl) dX12_previews_35 ⟨Nat.le_of_ble_eq_true rfl, Nat.le_of_ble_eq_true rfl⟩ (fun r_9 hr_9 => ?_)
        subst hr_9
        exact W.iret (v := prevN g n4 R i) hx hb hr (fun t ht hW => ⟨⟨_, C_5, rfl, ⟨rfl, hR_7⟩, mI_pre hM hK hMS hS t ht hW⟩, hS.F ht⟩) hS.2.2 dX12_previews_38
      · have c_8 := bI_t c_8
        cases c_8
    · have c_4 := bI_t c_4
      simp only [c_2, c_4, Bool.not_true, Bool.not_false, Bool.and_true, Bool.true_and, Bool.and_false, Bool.false_and, Bool.or_true, Bool.true_or, Bool.or_false, Bool.false_or, Bool.and_self, Bool.or_self, Bool.true_eq_false, Bool.false_eq_true] at h1
set_option maxHeartbeats 600000 in
set_option maxRecDepth 100000 in
theorem m_previews_x1 (l : Launch) (D : va_G) (ty : Nat → ClassId) (A : Nat → Prop) (u : Nat → Nat → Prop) (C : Nat → Nat → va_E) (ma : Nat → Nat → Nat) (t0 mi : Nat) (g : Nat → Nat → Int32) (n1 n2 nL n4 n5 : Nat) (th : Int32) (rep bro : Nat → Nat → Int32) (hR : mR ty t0 g n1 n2 nL n4 n5 th rep bro u C ma) (y x : Int32) (h1 : (bRd y || bNo n1 x) = true) : Met l yX12_previews wsX12_previews ({ frames := 7, cells := 0, slots := 0, locals := 192 }) (va_Pc [.ref (ma 0 0), .int y, .int x] (mI D ty A u C ma t0 mi)) (va_Qi (fun (v9 : Int32) (C2 : Nat → Nat → va_E) => v9 = nI 0 ∧ mR ty t0 g n1 n2 nL n4 n5 (nI 1) rep bro u C2 ma) (fun C2 t => mI D ty A u C2 ma t0 mi t) A) 0 0 A := by
  refine zMet (cc := cX12_previews) (maxL := 3) (ret := (some .int)) (by decide) rfl (Nat.le_of_ble_eq_true rfl) ?_
  intro p e s m below meth c hx hb hr hts hown hlocks hml hB ls hl
  obtain ⟨hM, hK, hMS⟩ := hB
  have hS : va_S A s.heap s.heap [] := va_S.rf
  have hbn := hR.I.b1
  have hbs := hR.I.b2
  have hbl := hR.I.bL
  have hbc := hR.I.b4
  have hbr := hR.I.b5
  have hl : lv_has ls 3 [(0, .ref (ma 0 0)), (1, .int y), (2, .int x)] := hl
  refine lv_aload_n hx hb dX12_previews_0 rfl (lv_at hl 0 rfl) ?_
  refine lv_iload_n hx hb dX12_previews_1 rfl (lv_at hl 1 rfl) ?_
  refine zcSi (As := [.int y]) (rest := [.ref (ma 0 0)]) ⟨hx, hb, hml, hown, hts⟩ (c_X12_isNoReader l _ y) (cwS 1 hts gX12_previews_X12_isNoReader rfl rfl rfl (by decide +kernel) ⟨Nat.le_of_ble_eq_true rfl, Nat.le_of_ble_eq_true rfl⟩) (B := fun _ => True) (fun _ _ _ _ _ => trivial) (fun _ _ _ => trivial) rfl hl.1 rfl (Nat.le_of_ble_eq_true rfl) dX12_previews_2 ⟨Nat.le_of_ble_eq_true rfl, Nat.le_of_ble_eq_true rfl⟩ (fun r_1 hr_1 => ?_)
  subst hr_1
  refine lv_if_ne (tgt := 16) hx hb dX12_previews_5 (by decide) (fun c_2 => ?_) (fun c_2 => ?_)
  · have c_2 := bI_t c_2
    refine lv_iconst (v := nI 1) hx hb dX12_previews_16 (by decide) ?_
    refine zeq (show nI 1 = bI true from rfl) ?_
    refine lv_goto (tgt := 21) hx hb dX12_previews_17 (by decide) ?_
    refine lv_iconst (v := nI 1) hx hb dX12_previews_21 (by decide) ?_
    refine va_calli (va_runV (As := [.int (bI true), .int (nI 1)]) (rest := []) ⟨hx, hb, hml, hown, hts⟩ (c_X12_start_t l D ty A u C ma t0 mi g n1 n2 nL n4 n5 th rep bro hR 1 (by omega) (by omega)) (cwV 2 hts gX12_previews_X12_start rfl rfl rfl (by decide +kernel) ⟨Nat.le_of_ble_eq_true rfl, Nat.le_of_ble_eq_true rfl⟩) ⟨zBl mI_blind, (va_recv hK (hM.Pa hR.o.1 rfl hR.o.2) (ci := 13) (q0 := 0) rfl rfl), fun U h1 h2 => ⟨rfl, mI_pre hM hK hMS hS U h1 h2⟩⟩ rfl rfl hl.1 rfl (lv_room (Nat.le_of_ble_eq_true rfl)) dX12_previews_22 ⟨Nat.le_of_ble_eq_true rfl, Nat.le_of_ble_eq_true rfl⟩) hS (fun _ _ h => h) (fun _ h => h) (fun r_4 C_3 t H1 locs ht hvm hw hB9 hz1 hk1 hS => ?_)
    obtain ⟨hr_4, hR_5⟩ := hw
    obtain ⟨hM, -, -⟩ := hB9
    rw [ht] at hM
    clear hk1 hz1 hvm ht
    clear t
    generalize H1 = H at hM hS ⊢
    subst hr_4
    refine lv_if_eq (tgt := 32) hx hb dX12_previews_25 (by decide) (fun c_6 => ?_) (fun c_6 => ?_)
    · have c_6 := bI_f c_6
      cases c_6
    · have c_6 := bI_t c_6
      refine lv_iconst (v := nI 0) hx hb dX12_previews_28 (by decide) ?_
      refine lv_goto (tgt := 38) hx hb dX12_previews_29 (by decide) ?_
      exact W.iret (v := nI 0) hx hb hr (fun t ht hW => ⟨⟨_, C_3, rfl, ⟨rfl, hR_5⟩, mI_pre hM hK hMS hS t ht hW⟩, hS.F ht⟩) hS.2.2 dX12_previews_38
  · have c_2 := bI_f c_2
    refine lv_aload_n hx hb dX12_previews_8 rfl (lv_at hl 0 rfl) ?_
    refine lv_iload_n hx hb dX12_previews_9 rfl (lv_at hl 2 rfl) ?_
    refine zcVi (As := [.int x]) (rest := [.ref (ma 0 0)]) ⟨hx, hb, hml, hown, hts⟩ (c_X12_isNo l D ty A u C ma t0 mi g n1 n2 nL n4 n5 th rep bro hR x) (cwV 1 hts gX12_previews_X12_isNo rfl rfl rfl (by decide +kernel) ⟨Nat.le_of_ble_eq_true rfl, Nat.le_of_ble_eq_true rfl⟩) mI_blind (mI_pre hM hK hMS hS) (va_recv hK (hM.Pa hR.o.1 rfl hR.o.2) (ci := 13) (q0 := 0) rfl rfl) rfl hl.1 rfl (Nat.le_of_ble_eq_true rfl) dX12_previews_10 ⟨Nat.le_of_ble_eq_true rfl, Nat.le_of_ble_eq_true rfl⟩ (fun r_7 hr_7 => ?_)
    subst hr_7
    refine lv_if_eq (tgt := 20) hx hb dX12_previews_13 (by decide) (fun c_8 => ?_) (fun c_8 => ?_)
    · have c_8 := bI_f c_8
      simp only [c_2, c_8, Bool.not_true, Bool.not_false, Bool.and_true, Bool.true_and, Bool.and_false, Bool.false_and, Bool.or_true, Bool.true_or, Bool.or_false, Bool.false_or, Bool.and_self, Bool.or_self, Bool.true_eq_false, Bool.false_eq_true] at h1
    · have c_8 := bI_t c_8
      refine lv_iconst (v := nI 1) hx hb dX12_previews_16 (by decide) ?_
      refine zeq (show nI 1 = bI true from rfl) ?_
      refine lv_goto (tgt := 21) hx hb dX12_previews_17 (by decide) ?_
      refine lv_iconst (v := nI 1) hx hb dX12_previews_21 (by decide) ?_
      refine va_calli (va_runV (As := [.int (bI true), .int (nI 1)]) (rest := []) ⟨hx, hb, hml, hown, hts⟩ (c_X12_start_t l D ty A u C ma t0 mi g n1 n2 nL n4 n5 th rep bro hR 1 (by omega) (by omega)) (cwV 2 hts gX12_previews_X12_start rfl rfl rfl (by decide +kernel) ⟨Nat.le_of_ble_eq_true rfl, Nat.le_of_ble_eq_true rfl⟩) ⟨zBl mI_blind, (va_recv hK (hM.Pa hR.o.1 rfl hR.o.2) (ci := 13) (q0 := 0) rfl rfl), fun U h1 h2 => ⟨rfl, mI_pre hM hK hMS hS U h1 h2⟩⟩ rfl rfl hl.1 rfl (lv_room (Nat.le_of_ble_eq_true rfl)) dX12_previews_22 ⟨Nat.le_of_ble_eq_true rfl, Nat.le_of_ble_eq_true rfl⟩) hS (fun _ _ h => h) (fun _ h => h) (fun r_10 C_9 t H1 locs ht hvm hw hB9 hz1 hk1 hS => ?_)
      obtain ⟨hr_10, hR_11⟩ := hw
      obtain ⟨hM, -, -⟩ := hB9
      rw [ht] at hM
      clear hk1 hz1 hvm ht
      clear t
      generalize H1 = H at hM hS ⊢
      subst hr_10
      refine lv_if_eq (tgt := 32) hx hb dX12_previews_25 (by decide) (fun c_12 => ?_) (fun c_12 => ?_)
      · have c_12 := bI_f c_12
        cases c_12
      · have c_12 := bI_t c_12
        refine lv_iconst (v := nI 0) hx hb dX12_previews_28 (by decide) ?_
        refine lv_goto (tgt := 38) hx hb dX12_previews_29 (by decide) ?_
        exact W.iret (v := nI 0) hx hb hr (fun t ht hW => ⟨⟨_, C_9, rfl, ⟨rfl, hR_11⟩, mI_pre hM hK hMS hS t ht hW⟩, hS.F ht⟩) hS.2.2 dX12_previews_38
set_option maxHeartbeats 600000 in
set_option maxRecDepth 100000 in
theorem c_X12_isNoContract_f (l : Launch) (D : va_G) (ty : Nat → ClassId) (A : Nat → Prop) (u : Nat → Nat → Prop) (C : Nat → Nat → va_E) (ma : Nat → Nat → Nat) (t0 mi : Nat) (g : Nat → Nat → Int32) (n1 n2 nL n4 n5 : Nat) (th : Int32) (rep bro : Nat → Nat → Int32) (hR : mR ty t0 g n1 n2 nL n4 n5 th rep bro u C ma) (y : Int32) (h1 : (!inB y (nI 0) (nI n4 - nI 1)) = false) : Met l yX12_isNoContract wsX12_isNoContract ({ frames := 7, cells := 0, slots := 0, locals := 192 }) (va_Pc [.ref (ma 0 0), .int y] (mI D ty A u C ma t0 mi)) (va_Qi (fun (v9 : Int32) (C2 : Nat → Nat → va_E) => v9 = bI false ∧ mR ty t0 g n1 n2 nL n4 n5 (nI 0) rep bro u C2 ma) (fun C2 t => mI D ty A u C2 ma t0 mi t) A) 0 0 A := by
  refine zMet (cc := cX12_isNoContract) (maxL := 2) (ret := (some .boolean)) (by decide) rfl (Nat.le_of_ble_eq_true rfl) ?_
  intro p e s m below meth c hx hb hr hts hown hlocks hml hB ls hl
  obtain ⟨hM, hK, hMS⟩ := hB
  have hS : va_S A s.heap s.heap [] := va_S.rf
  have hbn := hR.I.b1
  have hbs := hR.I.b2
  have hbl := hR.I.bL
  have hbc := hR.I.b4
  have hbr := hR.I.b5
  have hl : lv_has ls 2 [(0, .ref (ma 0 0)), (1, .int y)] := hl
  have hinX12 : ∀ w ∈ wsX120, w ∈ wsX12_isNoContract := by decide +kernel
  have hk1 := hts (.fieldLink RX12 19 "DatamarketDeskModel" "contracts" "Ljava/util/ArrayList;") (by decide +kernel)
  refine lv_aload_n hx hb dX12_isNoContract_0 rfl (lv_at hl 0 rfl) ?_
  refine lv_iload_n hx hb dX12_isNoContract_1 rfl (lv_at hl 1 rfl) ?_
  refine lv_iconst (v := nI 0) hx hb dX12_isNoContract_2 (by decide) ?_
  refine lv_aload_n hx hb dX12_isNoContract_3 rfl (lv_at hl 0 rfl) ?_
  refine va_get hx hb hts hinX12 hown hK (hM.Pa hR.o.1 rfl hR.o.2) 0 rfl rfl 3 (by decide) (hk1) (fun _ h9 => h9) rfl dX12_isNoContract_4 ?_
  obtain ⟨huz_1, hnz_1, mz_1, bz_1, hCz_1⟩ := isL.hd hR.l5
  refine zcVi (As := []) (rest := [.int (nI 0), .int y, .ref (ma 0 0)]) ⟨hx, hb, hml, hown, hts⟩ (c_size l D ty A u C ma t0 mi 5 0 n4 (ma 25) hR.l5) (cwV 0 hts gX12_isNoContract_Jx4a65c_size_8abf5 rfl rfl rfl (by decide +kernel) ⟨Nat.le_of_ble_eq_true rfl, Nat.le_of_ble_eq_true rfl⟩) mI_blind (mI_pre hM hK hMS hS) (va_recv hK (hM.Pa huz_1 rfl hCz_1) (ci := 0) (q0 := 0) rfl rfl) rfl hl.1 rfl (Nat.le_of_ble_eq_true rfl) dX12_isNoContract_7 ⟨Nat.le_of_ble_eq_true rfl, Nat.le_of_ble_eq_true rfl⟩ (fun r_2 hr_2 => ?_)
  subst hr_2
  refine lv_iconst (v := nI 1) hx hb dX12_isNoContract_10 (by decide) ?_
  refine lv_isub hx hb dX12_isNoContract_11 ?_
  refine zcSi (As := [.int y, .int (nI 0), .int ((nI n4) - (nI 1))]) (rest := [.ref (ma 0 0)]) ⟨hx, hb, hml, hown, hts⟩ (c_X12_isIn l _ y (nI 0) ((nI n4) - (nI 1))) (cwS 3 hts gX12_isNoContract_X12_isIn rfl rfl rfl (by decide +kernel) ⟨Nat.le_of_ble_eq_true rfl, Nat.le_of_ble_eq_true rfl⟩) (B := fun _ => True) (fun _ _ _ _ _ => trivial) (fun _ _ _ => trivial) rfl hl.1 rfl (Nat.le_of_ble_eq_true rfl) dX12_isNoContract_12 ⟨Nat.le_of_ble_eq_true rfl, Nat.le_of_ble_eq_true rfl⟩ (fun r_3 hr_3 => ?_)
  subst hr_3
  refine lv_if_ne (tgt := 22) hx hb dX12_isNoContract_15 (by decide) (fun c_4 => ?_) (fun c_4 => ?_)
  · have c_4 := bI_t c_4
    refine lv_iconst (v := nI 0) hx hb dX12_isNoContract_22 (by decide) ?_
    refine zeq (show nI 0 = bI false from rfl) ?_
    refine lv_iconst (v := nI 1) hx hb dX12_isNoContract_23 (by decide) ?_
    refine va_calli (va_runV (As := [.int (bI false), .int (nI 1)]) (rest := []) ⟨hx, hb, hml, hown, hts⟩ (c_X12_start_f l D ty A u C ma t0 mi g n1 n2 nL n4 n5 th rep bro hR 1 (by omega) (by omega)) (cwV 2 hts gX12_isNoContract_X12_start rfl rfl rfl (by decide +kernel) ⟨Nat.le_of_ble_eq_true rfl, Nat.le_of_ble_eq_true rfl⟩) ⟨zBl mI_blind, (va_recv hK (hM.Pa hR.o.1 rfl hR.o.2) (ci := 13) (q0 := 0) rfl rfl), fun U h1 h2 => ⟨rfl, mI_pre hM hK hMS hS U h1 h2⟩⟩ rfl rfl hl.1 rfl (lv_room (Nat.le_of_ble_eq_true rfl)) dX12_isNoContract_24 ⟨Nat.le_of_ble_eq_true rfl, Nat.le_of_ble_eq_true rfl⟩) hS (fun _ _ h => h) (fun _ h => h) (fun r_6 C_5 t H1 locs ht hvm hw hB9 hz1 hk1 hS => ?_)
    obtain ⟨hr_6, hR_7⟩ := hw
    obtain ⟨hM, -, -⟩ := hB9
    rw [ht] at hM
    clear hk1 hz1 hvm ht
    clear t
    generalize H1 = H at hM hS ⊢
    subst hr_6
    exact W.zret (v := bI false) hx hb hr (bI_nar _) (fun t ht hW => ⟨⟨_, C_5, rfl, ⟨rfl, hR_7⟩, mI_pre hM hK hMS hS t ht hW⟩, hS.F ht⟩) hS.2.2 dX12_isNoContract_27
  · have c_4 := bI_f c_4
    simp only [c_4, Bool.not_true, Bool.not_false, Bool.and_true, Bool.true_and, Bool.and_false, Bool.false_and, Bool.or_true, Bool.true_or, Bool.or_false, Bool.false_or, Bool.and_self, Bool.or_self, Bool.true_eq_false, Bool.false_eq_true] at h1
set_option maxHeartbeats 600000 in
set_option maxRecDepth 100000 in
theorem c_X12_isNoContract_t (l : Launch) (D : va_G) (ty : Nat → ClassId) (A : Nat → Prop) (u : Nat → Nat → Prop) (C : Nat → Nat → va_E) (ma : Nat → Nat → Nat) (t0 mi : Nat) (g : Nat → Nat → Int32) (n1 n2 nL n4 n5 : Nat) (th : Int32) (rep bro : Nat → Nat → Int32) (hR : mR ty t0 g n1 n2 nL n4 n5 th rep bro u C ma) (y : Int32) (h1 : (!inB y (nI 0) (nI n4 - nI 1)) = true) : Met l yX12_isNoContract wsX12_isNoContract ({ frames := 7, cells := 0, slots := 0, locals := 192 }) (va_Pc [.ref (ma 0 0), .int y] (mI D ty A u C ma t0 mi)) (va_Qi (fun (v9 : Int32) (C2 : Nat → Nat → va_E) => v9 = bI true ∧ mR ty t0 g n1 n2 nL n4 n5 (nI 1) rep bro u C2 ma) (fun C2 t => mI D ty A u C2 ma t0 mi t) A) 0 0 A := by
  refine zMet (cc := cX12_isNoContract) (maxL := 2) (ret := (some .boolean)) (by decide) rfl (Nat.le_of_ble_eq_true rfl) ?_
  intro p e s m below meth c hx hb hr hts hown hlocks hml hB ls hl
  obtain ⟨hM, hK, hMS⟩ := hB
  have hS : va_S A s.heap s.heap [] := va_S.rf
  have hbn := hR.I.b1
  have hbs := hR.I.b2
  have hbl := hR.I.bL
  have hbc := hR.I.b4
  have hbr := hR.I.b5
  have hl : lv_has ls 2 [(0, .ref (ma 0 0)), (1, .int y)] := hl
  have hinX12 : ∀ w ∈ wsX120, w ∈ wsX12_isNoContract := by decide +kernel
  have hk1 := hts (.fieldLink RX12 19 "DatamarketDeskModel" "contracts" "Ljava/util/ArrayList;") (by decide +kernel)
  refine lv_aload_n hx hb dX12_isNoContract_0 rfl (lv_at hl 0 rfl) ?_
  refine lv_iload_n hx hb dX12_isNoContract_1 rfl (lv_at hl 1 rfl) ?_
  refine lv_iconst (v := nI 0) hx hb dX12_isNoContract_2 (by decide) ?_
  refine lv_aload_n hx hb dX12_isNoContract_3 rfl (lv_at hl 0 rfl) ?_
  refine va_get hx hb hts hinX12 hown hK (hM.Pa hR.o.1 rfl hR.o.2) 0 rfl rfl 3 (by decide) (hk1) (fun _ h9 => h9) rfl dX12_isNoContract_4 ?_
  obtain ⟨huz_1, hnz_1, mz_1, bz_1, hCz_1⟩ := isL.hd hR.l5
  refine zcVi (As := []) (rest := [.int (nI 0), .int y, .ref (ma 0 0)]) ⟨hx, hb, hml, hown, hts⟩ (c_size l D ty A u C ma t0 mi 5 0 n4 (ma 25) hR.l5) (cwV 0 hts gX12_isNoContract_Jx4a65c_size_8abf5 rfl rfl rfl (by decide +kernel) ⟨Nat.le_of_ble_eq_true rfl, Nat.le_of_ble_eq_true rfl⟩) mI_blind (mI_pre hM hK hMS hS) (va_recv hK (hM.Pa huz_1 rfl hCz_1) (ci := 0) (q0 := 0) rfl rfl) rfl hl.1 rfl (Nat.le_of_ble_eq_true rfl) dX12_isNoContract_7 ⟨Nat.le_of_ble_eq_true rfl, Nat.le_of_ble_eq_true rfl⟩ (fun r_2 hr_2 => ?_)
  subst hr_2
  refine lv_iconst (v := nI 1) hx hb dX12_isNoContract_10 (by decide) ?_
  refine lv_isub hx hb dX12_isNoContract_11 ?_
  refine zcSi (As := [.int y, .int (nI 0), .int ((nI n4) - (nI 1))]) (rest := [.ref (ma 0 0)]) ⟨hx, hb, hml, hown, hts⟩ (c_X12_isIn l _ y (nI 0) ((nI n4) - (nI 1))) (cwS 3 hts gX12_isNoContract_X12_isIn rfl rfl rfl (by decide +kernel) ⟨Nat.le_of_ble_eq_true rfl, Nat.le_of_ble_eq_true rfl⟩) (B := fun _ => True) (fun _ _ _ _ _ => trivial) (fun _ _ _ => trivial) rfl hl.1 rfl (Nat.le_of_ble_eq_true rfl) dX12_isNoContract_12 ⟨Nat.le_of_ble_eq_true rfl, Nat.le_of_ble_eq_true rfl⟩ (fun r_3 hr_3 => ?_)
  subst hr_3
  refine lv_if_ne (tgt := 22) hx hb dX12_isNoContract_15 (by decide) (fun c_4 => ?_) (fun c_4 => ?_)
  · have c_4 := bI_t c_4
    simp only [c_4, Bool.not_true, Bool.not_false, Bool.and_true, Bool.true_and, Bool.and_false, Bool.false_and, Bool.or_true, Bool.true_or, Bool.or_false, Bool.false_or, Bool.and_self, Bool.or_self, Bool.true_eq_false, Bool.false_eq_true] at h1
  · have c_4 := bI_f c_4
    refine lv_iconst (v := nI 1) hx hb dX12_isNoContract_18 (by decide) ?_
    refine zeq (show nI 1 = bI true from rfl) ?_
    refine lv_goto (tgt := 23) hx hb dX12_isNoContract_19 (by decide) ?_
    refine lv_iconst (v := nI 1) hx hb dX12_isNoContract_23 (by decide) ?_
    refine va_calli (va_runV (As := [.int (bI true), .int (nI 1)]) (rest := []) ⟨hx, hb, hml, hown, hts⟩ (c_X12_start_t l D ty A u C ma t0 mi g n1 n2 nL n4 n5 th rep bro hR 1 (by omega) (by omega)) (cwV 2 hts gX12_isNoContract_X12_start rfl rfl rfl (by decide +kernel) ⟨Nat.le_of_ble_eq_true rfl, Nat.le_of_ble_eq_true rfl⟩) ⟨zBl mI_blind, (va_recv hK (hM.Pa hR.o.1 rfl hR.o.2) (ci := 13) (q0 := 0) rfl rfl), fun U h1 h2 => ⟨rfl, mI_pre hM hK hMS hS U h1 h2⟩⟩ rfl rfl hl.1 rfl (lv_room (Nat.le_of_ble_eq_true rfl)) dX12_isNoContract_24 ⟨Nat.le_of_ble_eq_true rfl, Nat.le_of_ble_eq_true rfl⟩) hS (fun _ _ h => h) (fun _ h => h) (fun r_6 C_5 t H1 locs ht hvm hw hB9 hz1 hk1 hS => ?_)
    obtain ⟨hr_6, hR_7⟩ := hw
    obtain ⟨hM, -, -⟩ := hB9
    rw [ht] at hM
    clear hk1 hz1 hvm ht
    clear t
    generalize H1 = H at hM hS ⊢
    subst hr_6
    exact W.zret (v := bI true) hx hb hr (bI_nar _) (fun t ht hW => ⟨⟨_, C_5, rfl, ⟨rfl, hR_7⟩, mI_pre hM hK hMS hS t ht hW⟩, hS.F ht⟩) hS.2.2 dX12_isNoContract_27
set_option maxHeartbeats 600000 in
set_option maxRecDepth 100000 in
theorem m_neededBy (l : Launch) (D : va_G) (ty : Nat → ClassId) (A : Nat → Prop) (u : Nat → Nat → Prop) (C : Nat → Nat → va_E) (ma : Nat → Nat → Nat) (t0 mi : Nat) (g : Nat → Nat → Int32) (n1 n2 nL n4 n5 : Nat) (th : Int32) (rep bro : Nat → Nat → Int32) (hR : mR ty t0 g n1 n2 nL n4 n5 th rep bro u C ma) (c0 : Nat) (hc0 : c0 < n4) : Met l yX12_neededBy wsX12_neededBy ({ frames := 8, cells := 0, slots := 0, locals := 213 }) (va_Pc [.ref (ma 0 0), .int (nI c0)] (mI D ty A u C ma t0 mi)) (va_Qi (fun (v9 : Int32) (C2 : Nat → Nat → va_E) => v9 = sumN (fNeed g n4 c0) n5 ∧ mR ty t0 g n1 n2 nL n4 n5 (nI 0) rep bro u C2 ma) (fun C2 t => mI D ty A u C2 ma t0 mi t) A) 0 0 A := by
  refine zMet (cc := cX12_neededBy) (maxL := 2) (ret := (some .int)) (by decide) rfl (Nat.le_of_ble_eq_true rfl) ?_
  intro p e s m below meth c hx hb hr hts hown hlocks hml hB ls hl
  obtain ⟨hM, hK, hMS⟩ := hB
  have hS : va_S A s.heap s.heap [] := va_S.rf
  have hbn := hR.I.b1
  have hbs := hR.I.b2
  have hbl := hR.I.bL
  have hbc := hR.I.b4
  have hbr := hR.I.b5
  have h1 : (!inB (nI c0) (nI 0) (nI n4 - nI 1)) = false := by rw [inB_c (by omega) hc0]; rfl
  have hl : lv_has ls 2 [(0, .ref (ma 0 0)), (1, .int (nI c0))] := hl
  refine lv_aload_n hx hb dX12_neededBy_0 rfl (lv_at hl 0 rfl) ?_
  refine lv_iload_n hx hb dX12_neededBy_1 rfl (lv_at hl 1 rfl) ?_
  refine va_calli (va_runV (As := [.int (nI c0)]) (rest := []) ⟨hx, hb, hml, hown, hts⟩ (c_X12_isNoContract_f l D ty A u C ma t0 mi g n1 n2 nL n4 n5 th rep bro hR (nI c0) h1) (cwV 1 hts gX12_neededBy_X12_isNoContract rfl rfl rfl (by decide +kernel) ⟨Nat.le_of_ble_eq_true rfl, Nat.le_of_ble_eq_true rfl⟩) ⟨zBl mI_blind, (va_recv hK (hM.Pa hR.o.1 rfl hR.o.2) (ci := 13) (q0 := 0) rfl rfl), fun U h1 h2 => ⟨rfl, mI_pre hM hK hMS hS U h1 h2⟩⟩ rfl rfl hl.1 rfl (lv_room (Nat.le_of_ble_eq_true rfl)) dX12_neededBy_2 ⟨Nat.le_of_ble_eq_true rfl, Nat.le_of_ble_eq_true rfl⟩) hS (fun _ _ h => h) (fun _ h => h) (fun r_2 C_1 t H1 locs ht hvm hw hB9 hz1 hk1 hS => ?_)
  obtain ⟨hr_2, hR_3⟩ := hw
  obtain ⟨hM, -, -⟩ := hB9
  rw [ht] at hM
  clear hk1 hz1 hvm ht
  clear t
  generalize H1 = H at hM hS ⊢
  subst hr_2
  refine lv_if_eq (tgt := 12) hx hb dX12_neededBy_5 (by decide) (fun c_4 => ?_) (fun c_4 => ?_)
  · have c_4 := bI_f c_4
    refine lv_aload_n hx hb dX12_neededBy_12 rfl (lv_at hl 0 rfl) ?_
    refine lv_iload_n hx hb dX12_neededBy_13 rfl (lv_at hl 1 rfl) ?_
    refine zcVi (As := [.int (nI c0)]) (rest := []) ⟨hx, hb, hml, hown, hts⟩ (c_X12_neededNow l D ty A u C_1 ma t0 mi g n1 n2 nL n4 n5 (nI 0) rep bro hR_3 c0 (by omega)) (cwV 1 hts gX12_neededBy_X12_neededNow rfl rfl rfl (by decide +kernel) ⟨Nat.le_of_ble_eq_true rfl, Nat.le_of_ble_eq_true rfl⟩) mI_blind (mI_pre hM hK hMS hS) (va_recv hK (hM.Pa hR_3.o.1 rfl hR_3.o.2) (ci := 13) (q0 := 0) rfl rfl) rfl hl.1 rfl (Nat.le_of_ble_eq_true rfl) dX12_neededBy_14 ⟨Nat.le_of_ble_eq_true rfl, Nat.le_of_ble_eq_true rfl⟩ (fun r_5 hr_5 => ?_)
    subst hr_5
    exact W.iret (v := sumN (fNeed g n4 c0) n5) hx hb hr (fun t ht hW => ⟨⟨_, C_1, rfl, ⟨rfl, hR_3⟩, mI_pre hM hK hMS hS t ht hW⟩, hS.F ht⟩) hS.2.2 dX12_neededBy_17
  · have c_4 := bI_t c_4
    cases c_4
set_option maxHeartbeats 600000 in
set_option maxRecDepth 100000 in
theorem m_neededBy_x1 (l : Launch) (D : va_G) (ty : Nat → ClassId) (A : Nat → Prop) (u : Nat → Nat → Prop) (C : Nat → Nat → va_E) (ma : Nat → Nat → Nat) (t0 mi : Nat) (g : Nat → Nat → Int32) (n1 n2 nL n4 n5 : Nat) (th : Int32) (rep bro : Nat → Nat → Int32) (hR : mR ty t0 g n1 n2 nL n4 n5 th rep bro u C ma) (y : Int32) (h1 : (!inB y (nI 0) (nI n4 - nI 1)) = true) : Met l yX12_neededBy wsX12_neededBy ({ frames := 8, cells := 0, slots := 0, locals := 213 }) (va_Pc [.ref (ma 0 0), .int y] (mI D ty A u C ma t0 mi)) (va_Qi (fun (v9 : Int32) (C2 : Nat → Nat → va_E) => v9 = nI 0 ∧ mR ty t0 g n1 n2 nL n4 n5 (nI 1) rep bro u C2 ma) (fun C2 t => mI D ty A u C2 ma t0 mi t) A) 0 0 A := by
  refine zMet (cc := cX12_neededBy) (maxL := 2) (ret := (some .int)) (by decide) rfl (Nat.le_of_ble_eq_true rfl) ?_
  intro p e s m below meth c hx hb hr hts hown hlocks hml hB ls hl
  obtain ⟨hM, hK, hMS⟩ := hB
  have hS : va_S A s.heap s.heap [] := va_S.rf
  have hbn := hR.I.b1
  have hbs := hR.I.b2
  have hbl := hR.I.bL
  have hbc := hR.I.b4
  have hbr := hR.I.b5
  have hl : lv_has ls 2 [(0, .ref (ma 0 0)), (1, .int y)] := hl
  refine lv_aload_n hx hb dX12_neededBy_0 rfl (lv_at hl 0 rfl) ?_
  refine lv_iload_n hx hb dX12_neededBy_1 rfl (lv_at hl 1 rfl) ?_
  refine va_calli (va_runV (As := [.int y]) (rest := []) ⟨hx, hb, hml, hown, hts⟩ (c_X12_isNoContract_t l D ty A u C ma t0 mi g n1 n2 nL n4 n5 th rep bro hR y h1) (cwV 1 hts gX12_neededBy_X12_isNoContract rfl rfl rfl (by decide +kernel) ⟨Nat.le_of_ble_eq_true rfl, Nat.le_of_ble_eq_true rfl⟩) ⟨zBl mI_blind, (va_recv hK (hM.Pa hR.o.1 rfl hR.o.2) (ci := 13) (q0 := 0) rfl rfl), fun U h1 h2 => ⟨rfl, mI_pre hM hK hMS hS U h1 h2⟩⟩ rfl rfl hl.1 rfl (lv_room (Nat.le_of_ble_eq_true rfl)) dX12_neededBy_2 ⟨Nat.le_of_ble_eq_true rfl, Nat.le_of_ble_eq_true rfl⟩) hS (fun _ _ h => h) (fun _ h => h) (fun r_2 C_1 t H1 locs ht hvm hw hB9 hz1 hk1 hS => ?_)
  obtain ⟨hr_2, hR_3⟩ := hw
  obtain ⟨hM, -, -⟩ := hB9
  rw [ht] at hM
  clear hk1 hz1 hvm ht
  clear t
  generalize H1 = H at hM hS ⊢
  subst hr_2
  refine lv_if_eq (tgt := 12) hx hb dX12_neededBy_5 (by decide) (fun c_4 => ?_) (fun c_4 => ?_)
  · have c_4 := bI_f c_4
    cases c_4
  · have c_4 := bI_t c_4
    refine lv_iconst (v := nI 0) hx hb dX12_neededBy_8 (by decide) ?_
    refine lv_goto (tgt := 17) hx hb dX12_neededBy_9 (by decide) ?_
    exact W.iret (v := nI 0) hx hb hr (fun t ht hW => ⟨⟨_, C_1, rfl, ⟨rfl, hR_3⟩, mI_pre hM hK hMS hS t ht hW⟩, hS.F ht⟩) hS.2.2 dX12_neededBy_17
