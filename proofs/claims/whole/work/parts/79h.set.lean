set_option maxHeartbeats 600000 in
set_option maxRecDepth 100000 in
theorem m_set_x1 (l : Launch) (D : va_G) (ty : Nat → ClassId) (A : Nat → Prop) (u : Nat → Nat → Prop) (C : Nat → Nat → va_E) (ma : Nat → Nat → Nat) (t0 mi : Nat) (g : Nat → Nat → Int32) (n1 n2 nL n4 n5 : Nat) (th : Int32) (rep bro : Nat → Nat → Int32) (hR : mR ty t0 g n1 n2 nL n4 n5 th rep bro u C ma) (x : Int32) (h1 : (!inB x (nI 1) (nI 6)) = true) : Met l yX12_set wsX12_set ({ frames := 7, cells := 0, slots := 0, locals := 192 }) (va_Pc [.ref (ma 0 0), .int x] (mI D ty A u C ma t0 mi)) (va_Qi (fun (v9 : Int32) (C2 : Nat → Nat → va_E) => v9 = nI 0 ∧ mR ty t0 g n1 n2 nL n4 n5 (nI 1) rep bro u C2 ma) (fun C2 t => mI D ty A u C2 ma t0 mi t) A) 0 0 A := by
  refine zMet (cc := cX12_set) (maxL := 2) (ret := (some .int)) (by decide) rfl (Nat.le_of_ble_eq_true rfl) ?_
  intro p e s m below meth c hx hb hr hts hown hlocks hml hB ls hl
  obtain ⟨hM, hK, hMS⟩ := hB
  have hS : va_S A s.heap s.heap [] := va_S.rf
  have hbn := hR.I.b1
  have hbs := hR.I.b2
  have hbl := hR.I.bL
  have hbc := hR.I.b4
  have hbr := hR.I.b5
  have hl : lv_has ls 2 [(0, .ref (ma 0 0)), (1, .int x)] := hl
  refine lv_aload_n hx hb dX12_set_0 rfl (lv_at hl 0 rfl) ?_
  refine lv_iload_n hx hb dX12_set_1 rfl (lv_at hl 1 rfl) ?_
  refine lv_iconst (v := nI 1) hx hb dX12_set_2 (by decide) ?_
  refine lv_bipush (v := nI 6) hx hb dX12_set_3 (by decide) ?_
  refine zcSi (As := [.int x, .int (nI 1), .int (nI 6)]) (rest := [.ref (ma 0 0)]) ⟨hx, hb, hml, hown, hts⟩ (c_X12_isIn l _ x (nI 1) (nI 6)) (cwS 3 hts gX12_set_X12_isIn rfl rfl rfl (by decide +kernel) ⟨Nat.le_of_ble_eq_true rfl, Nat.le_of_ble_eq_true rfl⟩) (B := fun _ => True) (fun _ _ _ _ _ => trivial) (fun _ _ _ => trivial) rfl hl.1 rfl (Nat.le_of_ble_eq_true rfl) dX12_set_5 ⟨Nat.le_of_ble_eq_true rfl, Nat.le_of_ble_eq_true rfl⟩ (fun r_1 hr_1 => ?_)
  subst hr_1
  refine lv_if_ne (tgt := 15) hx hb dX12_set_8 (by decide) (fun c_2 => ?_) (fun c_2 => ?_)
  · have c_2 := bI_t c_2
    simp only [c_2, Bool.not_true, Bool.not_false, Bool.and_true, Bool.true_and, Bool.and_false, Bool.false_and, Bool.or_true, Bool.true_or, Bool.or_false, Bool.false_or, Bool.and_self, Bool.or_self, Bool.true_eq_false, Bool.false_eq_true] at h1
  · have c_2 := bI_f c_2
    refine lv_iconst (v := nI 1) hx hb dX12_set_11 (by decide) ?_
    refine zeq (show nI 1 = bI true from rfl) ?_
    refine lv_goto (tgt := 16) hx hb dX12_set_12 (by decide) ?_
    refine lv_iconst (v := nI 1) hx hb dX12_set_16 (by decide) ?_
    refine va_calli (va_runV (As := [.int (bI true), .int (nI 1)]) (rest := []) ⟨hx, hb, hml, hown, hts⟩ (c_X12_start_t l D ty A u C ma t0 mi g n1 n2 nL n4 n5 th rep bro hR 1 (by omega) (by omega)) (cwV 2 hts gX12_set_X12_start rfl rfl rfl (by decide +kernel) ⟨Nat.le_of_ble_eq_true rfl, Nat.le_of_ble_eq_true rfl⟩) ⟨zBl mI_blind, (va_recv hK (hM.Pa hR.o.1 rfl hR.o.2) (ci := 13) (q0 := 0) rfl rfl), fun U h1 h2 => ⟨rfl, mI_pre hM hK hMS hS U h1 h2⟩⟩ rfl rfl hl.1 rfl (lv_room (Nat.le_of_ble_eq_true rfl)) dX12_set_17 ⟨Nat.le_of_ble_eq_true rfl, Nat.le_of_ble_eq_true rfl⟩) hS (fun _ _ h => h) (fun _ h => h) (fun r_4 C_3 t H1 locs ht hvm hw hB9 hz1 hk1 hS => ?_)
    obtain ⟨hr_4, hR_5⟩ := hw
    obtain ⟨hM, -, -⟩ := hB9
    rw [ht] at hM
    clear hk1 hz1 hvm ht
    clear t
    generalize H1 = H at hM hS ⊢
    subst hr_4
    refine lv_if_ne (tgt := 48) hx hb dX12_set_20 (by decide) (fun c_6 => ?_) (fun c_6 => ?_)
    · have c_6 := bI_t c_6
      refine lv_iconst (v := nI 0) hx hb dX12_set_48 (by decide) ?_
      exact W.iret (v := nI 0) hx hb hr (fun t ht hW => ⟨⟨_, C_3, rfl, ⟨rfl, hR_5⟩, mI_pre hM hK hMS hS t ht hW⟩, hS.F ht⟩) hS.2.2 dX12_set_49
    · have c_6 := bI_f c_6
      cases c_6
set_option maxHeartbeats 600000 in
set_option maxRecDepth 100000 in
theorem m_set_x2 (l : Launch) (D : va_G) (ty : Nat → ClassId) (A : Nat → Prop) (u : Nat → Nat → Prop) (C : Nat → Nat → va_E) (ma : Nat → Nat → Nat) (t0 mi : Nat) (g : Nat → Nat → Int32) (n1 n2 nL n4 n5 : Nat) (th : Int32) (rep bro : Nat → Nat → Int32) (hR : mR ty t0 g n1 n2 nL n4 n5 th rep bro u C ma) (k0 : Nat) (hw1 : 1 ≤ k0) (hw6 : k0 ≤ 6) (hn8 : n1 = 8) : Met l yX12_set wsX12_set ({ frames := 7, cells := 0, slots := 0, locals := 192 }) (va_Pc [.ref (ma 0 0), .int (nI k0)] (mI D ty A u C ma t0 mi)) (va_Qi (fun (v9 : Int32) (C2 : Nat → Nat → va_E) => v9 = nI 0 ∧ mR ty t0 g n1 n2 nL n4 n5 (nI 2) rep bro u C2 ma) (fun C2 t => mI D ty A u C2 ma t0 mi t) A) 0 0 A := by
  refine zMet (cc := cX12_set) (maxL := 2) (ret := (some .int)) (by decide) rfl (Nat.le_of_ble_eq_true rfl) ?_
  intro p e s m below meth c hx hb hr hts hown hlocks hml hB ls hl
  obtain ⟨hM, hK, hMS⟩ := hB
  have hS : va_S A s.heap s.heap [] := va_S.rf
  have hbn := hR.I.b1
  have hbs := hR.I.b2
  have hbl := hR.I.bL
  have hbc := hR.I.b4
  have hbr := hR.I.b5
  have h1 : (!inB (nI k0) (nI 1) (nI 6)) = false := by rw [inB_r (nI_nlt hw1 (by omega)) (nI_nlt hw6 (by decide))]; rfl
  have hl : lv_has ls 2 [(0, .ref (ma 0 0)), (1, .int (nI k0))] := hl
  have hinX12 : ∀ w ∈ wsX120, w ∈ wsX12_set := by decide +kernel
  have hk1 := hts (.fieldLink RX12 10 "DatamarketDeskModel" "sets" "Ljava/util/ArrayList;") (by decide +kernel)
  refine lv_aload_n hx hb dX12_set_0 rfl (lv_at hl 0 rfl) ?_
  refine lv_iload_n hx hb dX12_set_1 rfl (lv_at hl 1 rfl) ?_
  refine lv_iconst (v := nI 1) hx hb dX12_set_2 (by decide) ?_
  refine lv_bipush (v := nI 6) hx hb dX12_set_3 (by decide) ?_
  refine zcSi (As := [.int (nI k0), .int (nI 1), .int (nI 6)]) (rest := [.ref (ma 0 0)]) ⟨hx, hb, hml, hown, hts⟩ (c_X12_isIn l _ (nI k0) (nI 1) (nI 6)) (cwS 3 hts gX12_set_X12_isIn rfl rfl rfl (by decide +kernel) ⟨Nat.le_of_ble_eq_true rfl, Nat.le_of_ble_eq_true rfl⟩) (B := fun _ => True) (fun _ _ _ _ _ => trivial) (fun _ _ _ => trivial) rfl hl.1 rfl (Nat.le_of_ble_eq_true rfl) dX12_set_5 ⟨Nat.le_of_ble_eq_true rfl, Nat.le_of_ble_eq_true rfl⟩ (fun r_1 hr_1 => ?_)
  subst hr_1
  refine lv_if_ne (tgt := 15) hx hb dX12_set_8 (by decide) (fun c_2 => ?_) (fun c_2 => ?_)
  · have c_2 := bI_t c_2
    refine lv_iconst (v := nI 0) hx hb dX12_set_15 (by decide) ?_
    refine zeq (show nI 0 = bI false from rfl) ?_
    refine lv_iconst (v := nI 1) hx hb dX12_set_16 (by decide) ?_
    refine va_calli (va_runV (As := [.int (bI false), .int (nI 1)]) (rest := []) ⟨hx, hb, hml, hown, hts⟩ (c_X12_start_f l D ty A u C ma t0 mi g n1 n2 nL n4 n5 th rep bro hR 1 (by omega) (by omega)) (cwV 2 hts gX12_set_X12_start rfl rfl rfl (by decide +kernel) ⟨Nat.le_of_ble_eq_true rfl, Nat.le_of_ble_eq_true rfl⟩) ⟨zBl mI_blind, (va_recv hK (hM.Pa hR.o.1 rfl hR.o.2) (ci := 13) (q0 := 0) rfl rfl), fun U h1 h2 => ⟨rfl, mI_pre hM hK hMS hS U h1 h2⟩⟩ rfl rfl hl.1 rfl (lv_room (Nat.le_of_ble_eq_true rfl)) dX12_set_17 ⟨Nat.le_of_ble_eq_true rfl, Nat.le_of_ble_eq_true rfl⟩) hS (fun _ _ h => h) (fun _ h => h) (fun r_4 C_3 t H1 locs ht hvm hw hB9 hz1 hk1 hS => ?_)
    obtain ⟨hr_4, hR_5⟩ := hw
    obtain ⟨hM, -, -⟩ := hB9
    rw [ht] at hM
    clear hk1 hz1 hvm ht
    clear t
    generalize H1 = H at hM hS ⊢
    subst hr_4
    refine lv_if_ne (tgt := 48) hx hb dX12_set_20 (by decide) (fun c_6 => ?_) (fun c_6 => ?_)
    · have c_6 := bI_t c_6
      cases c_6
    · have c_6 := bI_f c_6
      refine lv_aload_n hx hb dX12_set_23 rfl (lv_at hl 0 rfl) ?_
      refine lv_aload_n hx hb dX12_set_24 rfl (lv_at hl 0 rfl) ?_
      refine va_get hx hb hts hinX12 hown hK (hM.Pa hR_5.o.1 rfl hR_5.o.2) 0 rfl rfl 1 (by decide) (hk1) (fun _ h9 => h9) rfl dX12_set_25 ?_
      obtain ⟨huz_7, hnz_7, mz_7, bz_7, hCz_7⟩ := isL.hd hR_5.l1
      refine zcVi (As := []) (rest := [.ref (ma 0 0)]) ⟨hx, hb, hml, hown, hts⟩ (c_size l D ty A u C_3 ma t0 mi 1 0 n1 (ma 9) hR_5.l1) (cwV 0 hts gX12_set_Jx4a65c_size_8abf5 rfl rfl rfl (by decide +kernel) ⟨Nat.le_of_ble_eq_true rfl, Nat.le_of_ble_eq_true rfl⟩) mI_blind (mI_pre hM hK hMS hS) (va_recv hK (hM.Pa huz_7 rfl hCz_7) (ci := 0) (q0 := 0) rfl rfl) rfl hl.1 rfl (Nat.le_of_ble_eq_true rfl) dX12_set_28 ⟨Nat.le_of_ble_eq_true rfl, Nat.le_of_ble_eq_true rfl⟩ (fun r_8 hr_8 => ?_)
      subst hr_8
      refine lv_bipush (v := nI 8) hx hb dX12_set_31 (by decide) ?_
      refine lv_icmp_ne (tgt := 40) hx hb dX12_set_33 (by decide) (fun c_9 => ?_) (fun c_9 => ?_)
      · have c_9 := zn_neT (a := n1) (b := 8) (by omega) (by omega) c_9
        omega
      · have c_9 := zn_neF (a := n1) (b := 8) (by omega) (by omega) c_9
        refine lv_iconst (v := nI 1) hx hb dX12_set_36 (by decide) ?_
        refine zeq (show nI 1 = bI true from rfl) ?_
        refine lv_goto (tgt := 41) hx hb dX12_set_37 (by decide) ?_
        refine lv_iconst (v := nI 2) hx hb dX12_set_41 (by decide) ?_
        refine va_calli (va_runV (As := [.int (bI true), .int (nI 2)]) (rest := []) ⟨hx, hb, hml, hown, hts⟩ (c_X12_refuse_t l D ty A u C_3 ma t0 mi g n1 n2 nL n4 n5 (nI 0) rep bro hR_5 rfl 2 (by omega) (by omega)) (cwV 2 hts gX12_set_X12_refuse rfl rfl rfl (by decide +kernel) ⟨Nat.le_of_ble_eq_true rfl, Nat.le_of_ble_eq_true rfl⟩) ⟨zBl mI_blind, (va_recv hK (hM.Pa hR_5.o.1 rfl hR_5.o.2) (ci := 13) (q0 := 0) rfl rfl), fun U h1 h2 => ⟨rfl, mI_pre hM hK hMS hS U h1 h2⟩⟩ rfl rfl hl.1 rfl (lv_room (Nat.le_of_ble_eq_true rfl)) dX12_set_42 ⟨Nat.le_of_ble_eq_true rfl, Nat.le_of_ble_eq_true rfl⟩) hS (fun _ _ h => h) (fun _ h => h) (fun r_11 C_10 t H1 locs ht hvm hw hB9 hz1 hk1 hS => ?_)
        obtain ⟨hr_11, hR_12⟩ := hw
        obtain ⟨hM, -, -⟩ := hB9
        rw [ht] at hM
        clear hk1 hz1 hvm ht
        clear t
        generalize H1 = H at hM hS ⊢
        subst hr_11
        refine lv_if_eq (tgt := 50) hx hb dX12_set_45 (by decide) (fun c_13 => ?_) (fun c_13 => ?_)
        · have c_13 := bI_f c_13
          cases c_13
        · have c_13 := bI_t c_13
          refine lv_iconst (v := nI 0) hx hb dX12_set_48 (by decide) ?_
          exact W.iret (v := nI 0) hx hb hr (fun t ht hW => ⟨⟨_, C_10, rfl, ⟨rfl, hR_12⟩, mI_pre hM hK hMS hS t ht hW⟩, hS.F ht⟩) hS.2.2 dX12_set_49
  · have c_2 := bI_f c_2
    simp only [c_2, Bool.not_true, Bool.not_false, Bool.and_true, Bool.true_and, Bool.and_false, Bool.false_and, Bool.or_true, Bool.true_or, Bool.or_false, Bool.false_or, Bool.and_self, Bool.or_self, Bool.true_eq_false, Bool.false_eq_true] at h1
set_option maxHeartbeats 1000000 in
set_option maxRecDepth 100000 in
theorem m_set (l : Launch) (D : va_G) (ty : Nat → ClassId) (A : Nat → Prop) (u : Nat → Nat → Prop) (C : Nat → Nat → va_E) (ma : Nat → Nat → Nat) (t0 mi : Nat) (g : Nat → Nat → Int32) (n1 n2 nL n4 n5 : Nat) (th : Int32) (rep bro : Nat → Nat → Int32) (hR : mR ty t0 g n1 n2 nL n4 n5 th rep bro u C ma) (k0 : Nat) (hw1 : 1 ≤ k0) (hw6 : k0 ≤ 6) (hn8 : n1 < 8) : Met l yX12_set wsX12_set ({ frames := 9, cells := 6, slots := 86, locals := 222 }) (va_Pc [.ref (ma 0 0), .int (nI k0)] (mI D ty A u C ma t0 mi)) (va_Qi (fun (v9 : Int32) (S : mSt) => v9 = nI n1 ∧ S.2.2 0 0 = ma 0 0 ∧ mR ty t0 (setM g n1 k0) (n1 + 1) n2 nL n4 n5 (nI 0) rep bro S.1 S.2.1 S.2.2) (fun S t => mI D ty A S.1 S.2.1 S.2.2 t0 mi t) A) 6 86 A := by
  refine zMet (cc := cX12_set) (maxL := 2) (ret := (some .int)) (by decide) rfl (Nat.le_of_ble_eq_true rfl) ?_
  intro p e s m below meth c hx hb hr hts hown hlocks hml hB ls hl
  obtain ⟨hM, hK, hMS⟩ := hB
  have hS : va_S A s.heap s.heap [] := va_S.rf
  have hbn := hR.I.b1
  have hbs := hR.I.b2
  have hbl := hR.I.bL
  have hbc := hR.I.b4
  have hbr := hR.I.b5
  have h1 : (!inB (nI k0) (nI 1) (nI 6)) = false := by rw [inB_r (nI_nlt hw1 (by omega)) (nI_nlt hw6 (by decide))]; rfl
  have hl : lv_has ls 2 [(0, .ref (ma 0 0)), (1, .int (nI k0))] := hl
  have hinX12 : ∀ w ∈ wsX120, w ∈ wsX12_set := by decide +kernel
  have hk1 := hts (.fieldLink RX12 10 "DatamarketDeskModel" "sets" "Ljava/util/ArrayList;") (by decide +kernel)
  have hinX7 : ∀ w ∈ wsX70, w ∈ wsX12_set := by decide +kernel
  refine lv_aload_n hx hb dX12_set_0 rfl (lv_at hl 0 rfl) ?_
  refine lv_iload_n hx hb dX12_set_1 rfl (lv_at hl 1 rfl) ?_
  refine lv_iconst (v := nI 1) hx hb dX12_set_2 (by decide) ?_
  refine lv_bipush (v := nI 6) hx hb dX12_set_3 (by decide) ?_
  refine zcSi (As := [.int (nI k0), .int (nI 1), .int (nI 6)]) (rest := [.ref (ma 0 0)]) ⟨hx, hb, hml, hown, hts⟩ (c_X12_isIn l _ (nI k0) (nI 1) (nI 6)) (cwS 3 hts gX12_set_X12_isIn rfl rfl rfl (by decide +kernel) ⟨Nat.le_of_ble_eq_true rfl, Nat.le_of_ble_eq_true rfl⟩) (B := fun _ => True) (fun _ _ _ _ _ => trivial) (fun _ _ _ => trivial) rfl hl.1 rfl (Nat.le_of_ble_eq_true rfl) dX12_set_5 ⟨Nat.le_of_ble_eq_true rfl, Nat.le_of_ble_eq_true rfl⟩ (fun r_1 hr_1 => ?_)
  subst hr_1
  refine lv_if_ne (tgt := 15) hx hb dX12_set_8 (by decide) (fun c_2 => ?_) (fun c_2 => ?_)
  · have c_2 := bI_t c_2
    refine lv_iconst (v := nI 0) hx hb dX12_set_15 (by decide) ?_
    refine zeq (show nI 0 = bI false from rfl) ?_
    refine lv_iconst (v := nI 1) hx hb dX12_set_16 (by decide) ?_
    refine va_calli (va_runV (As := [.int (bI false), .int (nI 1)]) (rest := []) ⟨hx, hb, hml, hown, hts⟩ (c_X12_start_f l D ty A u C ma t0 mi g n1 n2 nL n4 n5 th rep bro hR 1 (by omega) (by omega)) (cwV 2 hts gX12_set_X12_start rfl rfl rfl (by decide +kernel) ⟨Nat.le_of_ble_eq_true rfl, Nat.le_of_ble_eq_true rfl⟩) ⟨zBl mI_blind, (va_recv hK (hM.Pa hR.o.1 rfl hR.o.2) (ci := 13) (q0 := 0) rfl rfl), fun U h1 h2 => ⟨rfl, mI_pre hM hK hMS hS U h1 h2⟩⟩ rfl rfl hl.1 rfl (lv_room (Nat.le_of_ble_eq_true rfl)) dX12_set_17 ⟨Nat.le_of_ble_eq_true rfl, Nat.le_of_ble_eq_true rfl⟩) hS (fun _ _ h => h) (fun _ h => h) (fun r_4 C_3 t H1 locs ht hvm hw hB9 hz1 hk1 hS => ?_)
    obtain ⟨hr_4, hR_5⟩ := hw
    obtain ⟨hM, -, -⟩ := hB9
    rw [ht] at hM
    clear hk1 hz1 hvm ht
    clear t
    generalize H1 = H at hM hS ⊢
    subst hr_4
    refine lv_if_ne (tgt := 48) hx hb dX12_set_20 (by decide) (fun c_6 => ?_) (fun c_6 => ?_)
    · have c_6 := bI_t c_6
      cases c_6
    · have c_6 := bI_f c_6
      refine lv_aload_n hx hb dX12_set_23 rfl (lv_at hl 0 rfl) ?_
      refine lv_aload_n hx hb dX12_set_24 rfl (lv_at hl 0 rfl) ?_
      refine va_get hx hb hts hinX12 hown hK (hM.Pa hR_5.o.1 rfl hR_5.o.2) 0 rfl rfl 1 (by decide) (hk1) (fun _ h9 => h9) rfl dX12_set_25 ?_
      obtain ⟨huz_7, hnz_7, mz_7, bz_7, hCz_7⟩ := isL.hd hR_5.l1
      refine zcVi (As := []) (rest := [.ref (ma 0 0)]) ⟨hx, hb, hml, hown, hts⟩ (c_size l D ty A u C_3 ma t0 mi 1 0 n1 (ma 9) hR_5.l1) (cwV 0 hts gX12_set_Jx4a65c_size_8abf5 rfl rfl rfl (by decide +kernel) ⟨Nat.le_of_ble_eq_true rfl, Nat.le_of_ble_eq_true rfl⟩) mI_blind (mI_pre hM hK hMS hS) (va_recv hK (hM.Pa huz_7 rfl hCz_7) (ci := 0) (q0 := 0) rfl rfl) rfl hl.1 rfl (Nat.le_of_ble_eq_true rfl) dX12_set_28 ⟨Nat.le_of_ble_eq_true rfl, Nat.le_of_ble_eq_true rfl⟩ (fun r_8 hr_8 => ?_)
      subst hr_8
      refine lv_bipush (v := nI 8) hx hb dX12_set_31 (by decide) ?_
      refine lv_icmp_ne (tgt := 40) hx hb dX12_set_33 (by decide) (fun c_9 => ?_) (fun c_9 => ?_)
      · have c_9 := zn_neT (a := n1) (b := 8) (by omega) (by omega) c_9
        refine lv_iconst (v := nI 0) hx hb dX12_set_40 (by decide) ?_
        refine zeq (show nI 0 = bI false from rfl) ?_
        refine lv_iconst (v := nI 2) hx hb dX12_set_41 (by decide) ?_
        refine zcVi (As := [.int (bI false), .int (nI 2)]) (rest := []) ⟨hx, hb, hml, hown, hts⟩ (c_X12_refuse_f l D ty A u C_3 ma t0 mi g n1 n2 nL n4 n5 (nI 0) rep bro hR_5 rfl (nI 2)) (cwV 2 hts gX12_set_X12_refuse rfl rfl rfl (by decide +kernel) ⟨Nat.le_of_ble_eq_true rfl, Nat.le_of_ble_eq_true rfl⟩) mI_blind (mI_pre hM hK hMS hS) (va_recv hK (hM.Pa hR_5.o.1 rfl hR_5.o.2) (ci := 13) (q0 := 0) rfl rfl) rfl hl.1 rfl (Nat.le_of_ble_eq_true rfl) dX12_set_42 ⟨Nat.le_of_ble_eq_true rfl, Nat.le_of_ble_eq_true rfl⟩ (fun r_10 hr_10 => ?_)
        subst hr_10
        refine lv_if_eq (tgt := 50) hx hb dX12_set_45 (by decide) (fun c_11 => ?_) (fun c_11 => ?_)
        · have c_11 := bI_f c_11
          refine lv_aload_n hx hb dX12_set_50 rfl (lv_at hl 0 rfl) ?_
          refine va_get hx hb hts hinX12 hown hK (hM.Pa hR_5.o.1 rfl hR_5.o.2) 0 rfl rfl 1 (by decide) (hk1) (fun _ h9 => h9) rfl dX12_set_51 ?_
          refine mnew (Cn := RX7) (T := TX7) (N := 5) (ci := 8) (fs := [.int 0, .null, .null, .null, .null]) hx hb hts hinX7 tyX7 tyX7_ok hown (hts (.classLink RX12 49 RX7) (by decide +kernel)) (hts (.instantiable RX7 5) (by decide +kernel)) (hts (.initialized RX7) (by decide +kernel)) hK hM hS 9 n1 rfl (fun j hj => by rcases (show j = 0 ∨ j = 1 ∨ j = 2 ∨ j = 3 ∨ j = 4 by omega) with rfl | rfl | rfl | rfl | rfl <;> rfl) (Nat.le_of_ble_eq_true rfl) (Nat.le_of_ble_eq_true rfl) dX12_set_54 (fun H1 hM hS _ _ => ?_)
          generalize hq9 : Array.size H = q_12 at hM ⊢
          clear hq9
          generalize H1 = H at hM hS ⊢
          obtain ⟨u_13, eu_13⟩ : ∃ z, z = upU u 9 n1 := ⟨_, rfl⟩
          obtain ⟨C_14, eC_14⟩ : ∃ z, z = up2 C_3 9 n1 (eO 8 [.int 0, .null, .null, .null, .null]) := ⟨_, rfl⟩
          obtain ⟨ma_15, ema_15⟩ : ∃ z, z = up2 ma 9 n1 q_12 := ⟨_, rfl⟩
          have hM : mW D A u_13 C_14 ma_15 H := by rw [eu_13, eC_14, ema_15]; exact hM
          have hu_16 : u_13 9 n1 := by rw [eu_13]; exact upU_s
          have hC_17 : C_14 9 n1 = eO 8 [.int 0, .null, .null, .null, .null] := by rw [eC_14]; exact up2_s _ _ _ _
          have ha_18 : ma_15 9 n1 = q_12 := by rw [ema_15]; exact up2_s _ _ _ _
          have hR_19 : mR ty t0 g n1 n2 nL n4 n5 (nI 0) rep bro u_13 C_14 ma_15 := hR_5.ext (fun k9 x9 hm hu => ⟨by rw [eu_13]; exact upU_o hu, by rw [eC_14]; exact up2_n _ _ (fun z => by unfold mU at hm; omega), by rw [ema_15]; exact up2_n _ _ (fun z => by unfold mU at hm; omega)⟩)
          have hg_21 : ∀ k9 x9, mU g n1 n2 nL n4 n5 k9 x9 → (k9 ≠ 2 ∧ k9 ≠ 4 ∧ k9 ≠ 6 ∧ k9 ≠ 8) → ma_15 k9 x9 = ma k9 x9 := fun k9 x9 hm hn => by rw [ema_15, up2_n _ _ (fun z => by unfold mU at hm; omega)]
          refine lv_dup hx hb dX12_set_57 rfl ?_
          refine lv_iload_n hx hb dX12_set_58 rfl (lv_at hl 1 rfl) ?_
          have h_22 := c_X7_init l D ty A u_13 C_14 ma_15 t0 mi n1 hu_16 hC_17 (nI k0)
          first | dsimp only at h_22 | skip
          rw [(show ma_15 9 n1 = q_12 from ha_18)] at h_22
          refine va_callv (va_runI (As := [.int (nI k0)]) (rest := [.ref q_12, .ref (ma 1 0)]) ⟨hx, hb, hml, hown, hts⟩ (h_22) (cwI 1 hts gX12_set_X7_init rfl rfl rfl (hts (.initialized RX7) (by decide +kernel)) (hts (.methodLink RX12 107 yX7_init) (by decide +kernel)) (hts (.instanceMethod yX7_init) (by decide +kernel)) rfl (by decide +kernel) ⟨Nat.le_of_ble_eq_true rfl, Nat.le_of_ble_eq_true rfl⟩) ⟨zBl mI_blind, fun U h1 h2 => ⟨rfl, mI_pre hM hK hMS hS U h1 h2⟩⟩ rfl rfl hl.1 rfl (lv_room (Nat.le_of_ble_eq_true rfl)) dX12_set_59 ⟨Nat.le_of_ble_eq_true rfl, Nat.le_of_ble_eq_true rfl⟩) hS (fun _ _ h => h) (fun _ h => h) (fun S_23 t H1 locs ht hvm hw hB9 hz1 hk1 hS => ?_)
          obtain ⟨hM, -, -⟩ := hB9
          rw [ht] at hM
          clear hk1 hz1 hvm ht
          clear t
          generalize H1 = H at hM hS ⊢
          obtain ⟨u_24, C_25, ma_26⟩ := S_23
          obtain ⟨hX_27, hX_28, hX_29, hs_30, hs_31, hs_32, hs_33, hs_35⟩ := hw
          have hM : mW D A u_24 C_25 ma_26 H := hM
          have hX_27 : ∀ k9 x9, u_13 k9 x9 → u_24 k9 x9 := hX_27
          have hX_28 : ∀ k9 x9, ¬ (x9 = n1 ∧ (k9 = 9 ∨ k9 = 10 ∨ k9 = 11 ∨ k9 = 12 ∨ k9 = 14)) → C_25 k9 x9 = C_14 k9 x9 := hX_28
          have hX_29 : ∀ k9 x9, ¬ (x9 = n1 ∧ (k9 = 10 ∨ k9 = 11 ∨ k9 = 12 ∨ k9 = 14)) → ma_26 k9 x9 = ma_15 k9 x9 := hX_29
          have hs_30 : u_24 9 n1 ∧ C_25 9 n1 = eO 8 [.int (nI k0), .ref (ma_26 10 n1), .ref (ma_26 11 n1), .ref (ma_26 12 n1), .ref (ma_26 14 n1)] := hs_30
          have hs_31 : u_24 10 n1 ∧ C_25 10 n1 = eI (ty 0) 6 (row6 (fun _ => nI 10) 0) := hs_31
          have hs_32 : u_24 11 n1 ∧ C_25 11 n1 = eI (ty 0) 6 (row6 (fun _ => nI 1000) 0) := hs_32
          have hs_33 : u_24 12 n1 ∧ C_25 12 n1 = eO 0 [.int (nI 0), .ref t0, .int 0] := hs_33
          have hs_35 : u_24 14 n1 ∧ C_25 14 n1 = eI (ty 0) 6 (fun _ => 0) := hs_35
          have ha_36 : ma_26 9 n1 = q_12 := (hX_29 9 n1 (by omega)).trans ha_18
          have hR_38 : mR ty t0 g n1 n2 nL n4 n5 (nI 0) rep bro u_24 C_25 ma_26 := hR_19.ext (fun k9 x9 hm hu => ⟨hX_27 k9 x9 hu, hX_28 k9 x9 (fun z => by unfold mU at hm; omega), hX_29 k9 x9 (fun z => by unfold mU at hm; omega)⟩)
          have hg_37 : ∀ k9 x9, mU g n1 n2 nL n4 n5 k9 x9 → (k9 ≠ 2 ∧ k9 ≠ 4 ∧ k9 ≠ 6 ∧ k9 ≠ 8) → ma_26 k9 x9 = ma k9 x9 := fun k9 x9 hm hn => (hX_29 k9 x9 (fun z => by unfold mU at hm; omega)).trans (hg_21 k9 x9 hm hn)
          obtain ⟨huz_41, hnz_41, mz_41, bz_41, hCz_41⟩ := isL.hd hR_38.l1
          have h_42 := c_add l D ty A u_24 C_25 ma_26 t0 mi 1 0 n1 (ma_26 9) hR_38.l1 9 n1 8 _ _ hs_30.1 hs_30.2 rfl (by decide +kernel) (by omega) (by omega) (fun j hj => hR_38.e1 hj) (by omega)
          first | dsimp only at h_42 | skip
          rw [(show ma_26 1 0 = ma 1 0 from (hg_37 1 0 (by unfold mU; omega) (by decide))), (show ma_26 9 n1 = q_12 from ha_36)] at h_42
          refine va_calli (va_runV (As := [.ref q_12]) (rest := []) ⟨hx, hb, hml, hown, hts⟩ (h_42) (cwV 1 hts gX12_set_Jx4a65c_add_9ea2d rfl rfl rfl (by decide +kernel) ⟨Nat.le_of_ble_eq_true rfl, Nat.le_of_ble_eq_true rfl⟩) ⟨zBl mI_blind, (va_recv hK (hM.Pa huz_41 (hg_37 1 0 (by unfold mU; omega) (by decide)) hCz_41) (ci := 0) (q0 := 0) rfl rfl), fun U h1 h2 => ⟨rfl, mI_pre hM hK hMS hS U h1 h2⟩⟩ rfl rfl hl.1 rfl (lv_room (Nat.le_of_ble_eq_true rfl)) dX12_set_62 ⟨Nat.le_of_ble_eq_true rfl, Nat.le_of_ble_eq_true rfl⟩) hS (fun _ _ h => h) (fun _ h => h) (fun r_40 S_39 t H1 locs ht hvm hw hB9 hz1 hk1 hS => ?_)
          obtain ⟨hr_40, hchg, hL9⟩ := hw
          subst hr_40
          obtain ⟨hM, -, -⟩ := hB9
          rw [ht] at hM
          clear hk1 hz1 hvm ht
          clear t
          generalize H1 = H at hM hS ⊢
          have hR_46 := mR_set hR_38 hn8 hw1 hw6 hchg (by rw [ha_36]; exact hL9) hs_30 hs_31 hs_32 hs_33 hs_35
          have hg_47 : ∀ k9 x9, mU g n1 n2 nL n4 n5 k9 x9 → (k9 ≠ 2 ∧ k9 ≠ 4 ∧ k9 ≠ 6 ∧ k9 ≠ 8) → S_39.2.2 k9 x9 = ma k9 x9 := fun k9 x9 hm hn => (hchg.2.2 k9 x9 (fun z => by omega)).trans (hg_37 k9 x9 hm hn)
          have he_48 : S_39.2.2 9 n1 = q_12 := (hchg.2.2 9 n1 (by omega)).trans ha_36
          clear hchg hL9
          obtain ⟨u_43, C_44, ma_45⟩ := S_39
          have hM : mW D A u_43 C_44 ma_45 H := hM
          have hR_46 : mR ty t0 (setM g n1 k0) (n1 + 1) n2 nL n4 n5 (nI 0) rep bro u_43 C_44 ma_45 := hR_46
          have hg_47 : ∀ k9 x9, mU g n1 n2 nL n4 n5 k9 x9 → (k9 ≠ 2 ∧ k9 ≠ 4 ∧ k9 ≠ 6 ∧ k9 ≠ 8) → ma_45 k9 x9 = ma k9 x9 := fun k9 x9 hm hn => by
            exact hg_47 k9 x9 hm hn
          refine lv_pop hx hb dX12_set_65 rfl ?_
          refine lv_aload_n hx hb dX12_set_66 rfl (lv_at hl 0 rfl) ?_
          refine va_get hx hb hts hinX12 hown hK (hM.Pa hR_46.o.1 (hg_47 0 0 (by unfold mU; omega) (by decide)) hR_46.o.2) 0 rfl rfl 1 (by decide) (hk1) (fun _ h9 => h9) rfl dX12_set_67 ?_
          refine zeqv (y := .ref (ma 1 0)) (congrArg Value.ref (hg_47 1 0 (by unfold mU; omega) (by decide))) ?_
          have h_49 := c_size l D ty A u_43 C_44 ma_45 t0 mi 1 0 (n1 + 1) (ma_45 9) hR_46.l1
          first | dsimp only at h_49 | skip
          rw [(show ma_45 1 0 = ma 1 0 from (hg_47 1 0 (by unfold mU; omega) (by decide)))] at h_49
          obtain ⟨huz_50, hnz_50, mz_50, bz_50, hCz_50⟩ := isL.hd hR_46.l1
          refine zcVi (As := []) (rest := []) ⟨hx, hb, hml, hown, hts⟩ (h_49) (cwV 0 hts gX12_set_Jx4a65c_size_8abf5 rfl rfl rfl (by decide +kernel) ⟨Nat.le_of_ble_eq_true rfl, Nat.le_of_ble_eq_true rfl⟩) mI_blind (mI_pre hM hK hMS hS) (va_recv hK (hM.Pa huz_50 (hg_47 1 0 (by unfold mU; omega) (by decide)) hCz_50) (ci := 0) (q0 := 0) rfl rfl) rfl hl.1 rfl (Nat.le_of_ble_eq_true rfl) dX12_set_70 ⟨Nat.le_of_ble_eq_true rfl, Nat.le_of_ble_eq_true rfl⟩ (fun r_51 hr_51 => ?_)
          subst hr_51
          refine lv_iconst (v := nI 1) hx hb dX12_set_73 (by decide) ?_
          refine lv_isub hx hb dX12_set_74 ?_
          refine zeq (pk_sub (a := (n1 + 1)) (b := 1) (by omega)) ?_
          refine W.widen (k := 6) (n := 86) (by omega) (by omega) ?_
          exact W.iret (v := nI ((n1 + 1) - 1)) hx hb hr (fun t ht hW => ⟨⟨_, (u_43, C_44, ma_45), rfl, ⟨(congrArg nI (by omega)), (hg_47 0 0 (by unfold mU; omega) (by decide)), hR_46⟩, mI_pre hM hK hMS hS t ht hW⟩, hS.F ht⟩) hS.2.2 dX12_set_75
        · have c_11 := bI_t c_11
          cases c_11
      · have c_9 := zn_neF (a := n1) (b := 8) (by omega) (by omega) c_9
        omega
  · have c_2 := bI_f c_2
    simp only [c_2, Bool.not_true, Bool.not_false, Bool.and_true, Bool.true_and, Bool.and_false, Bool.false_and, Bool.or_true, Bool.true_or, Bool.or_false, Bool.false_or, Bool.and_self, Bool.or_self, Bool.true_eq_false, Bool.false_eq_true] at h1
