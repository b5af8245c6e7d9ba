set_option maxHeartbeats 1000000 in
set_option maxRecDepth 100000 in
theorem m_read (l : Launch) (D : va_G) (ty : Nat → ClassId) (A : Nat → Prop) (u : Nat → Nat → Prop) (C : Nat → Nat → va_E) (ma : Nat → Nat → Nat) (t0 mi : Nat) (g : Nat → Nat → Int32) (n1 n2 nL n4 n5 : Nat) (th : Int32) (rep bro : Nat → Nat → Int32) (hR : mR ty t0 g n1 n2 nL n4 n5 th rep bro u C ma) (R i P : Nat) (hr6 : R < 6) (hi : i < n1) (hp : P < 4) (F rw0 : Int32) (h2 : (bFds g i F || decide (rw0 < nI 1)) = false) (hF1 : ¬ F < nI 1) (hF2 : ¬ allF g i < F) (hv : 0 < nV g i) (hn40 : n5 < 40) (h3 : ¬ rowsL g i < rw0) (h4 : F &&& (covP g n4 (nI R) (nI i) (g 0 0) (nI P) ^^^ -1) = 0) : Met l yX12_read wsX12_read ({ frames := 7, cells := 3, slots := 76, locals := 215 }) (va_Pc [.ref (ma 0 0), .int (nI R), .int (nI i), .int F, .int rw0, .int (nI P)] (mI D ty A u C ma t0 mi)) (va_Qi (fun (v9 : Int32) (S : mSt) => v9 = chN (readG g n5 R i F rw0 P) n5 ∧ S.2.2 0 0 = ma 0 0 ∧ mR ty t0 (readG g n5 R i F rw0 P) n1 n2 nL n4 (n5 + 1) (nI 0) rep bro S.1 S.2.1 S.2.2) (fun S t => mI D ty A S.1 S.2.1 S.2.2 t0 mi t) A) 3 76 A := by
  refine zMet (cc := cX12_read) (maxL := 7) (ret := (some .int)) (by decide) rfl (Nat.le_of_ble_eq_true rfl) ?_
  intro p e s m below meth c hx hb hr hts hown hlocks hml hB ls hl
  obtain ⟨hM, hK, hMS⟩ := hB
  have hS : va_S A s.heap s.heap [] := va_S.rf
  have hbn := hR.I.b1
  have hbs := hR.I.b2
  have hbl := hR.I.bL
  have hbc := hR.I.b4
  have hbr := hR.I.b5
  have h1 : (bRd (nI R) || (bNo n1 (nI i) || !inB (nI P) (nI 0) (nI 3))) = false := by rw [bRd_ok hr6, bNo_ok hR.I.b1 hi, inB_k (by omega) (by decide)]; rfl
  have hl : lv_has ls 7 [(0, .ref (ma 0 0)), (1, .int (nI R)), (2, .int (nI i)), (3, .int F), (4, .int rw0), (5, .int (nI P))] := hl
  have hinX12 : ∀ w ∈ wsX120, w ∈ wsX12_read := by decide +kernel
  have hk1 := hts (.fieldLink RX12 22 "DatamarketDeskModel" "reads" "Ljava/util/ArrayList;") (by decide +kernel)
  have hk2 := hts (.fieldLink RX12 10 "DatamarketDeskModel" "sets" "Ljava/util/ArrayList;") (by decide +kernel)
  have hk3 := hts (.classLink RX12 49 "DatamarketDeskModel$DataSet") (by decide +kernel)
  have hk4 := hts (.fieldLink RX12 193 "DatamarketDeskModel" "today" "I") (by decide +kernel)
  refine lv_aload_n hx hb dX12_read_0 rfl (lv_at hl 0 rfl) ?_
  refine lv_iload_n hx hb dX12_read_1 rfl (lv_at hl 1 rfl) ?_
  refine zcSi (As := [.int (nI R)]) (rest := [.ref (ma 0 0)]) ⟨hx, hb, hml, hown, hts⟩ (c_X12_isNoReader l _ (nI R)) (cwS 1 hts gX12_read_X12_isNoReader rfl rfl rfl (by decide +kernel) ⟨Nat.le_of_ble_eq_true rfl, Nat.le_of_ble_eq_true rfl⟩) (B := fun _ => True) (fun _ _ _ _ _ => trivial) (fun _ _ _ => trivial) rfl hl.1 rfl (Nat.le_of_ble_eq_true rfl) dX12_read_2 ⟨Nat.le_of_ble_eq_true rfl, Nat.le_of_ble_eq_true rfl⟩ (fun r_1 hr_1 => ?_)
  subst hr_1
  refine lv_if_ne (tgt := 26) hx hb dX12_read_5 (by decide) (fun c_2 => ?_) (fun c_2 => ?_)
  · have c_2 := bI_t c_2
    simp only [c_2, Bool.not_true, Bool.not_false, Bool.and_true, Bool.true_and, Bool.and_false, Bool.false_and, Bool.or_true, Bool.true_or, Bool.or_false, Bool.false_or, Bool.and_self, Bool.or_self, Bool.true_eq_false, Bool.false_eq_true] at h1
  · have c_2 := bI_f c_2
    refine lv_aload_n hx hb dX12_read_8 rfl (lv_at hl 0 rfl) ?_
    refine lv_iload_n hx hb dX12_read_9 rfl (lv_at hl 2 rfl) ?_
    refine zcVi (As := [.int (nI i)]) (rest := [.ref (ma 0 0)]) ⟨hx, hb, hml, hown, hts⟩ (c_X12_isNo l D ty A u C ma t0 mi g n1 n2 nL n4 n5 th rep bro hR (nI i)) (cwV 1 hts gX12_read_X12_isNo rfl rfl rfl (by decide +kernel) ⟨Nat.le_of_ble_eq_true rfl, Nat.le_of_ble_eq_true rfl⟩) mI_blind (mI_pre hM hK hMS hS) (va_recv hK (hM.Pa hR.o.1 rfl hR.o.2) (ci := 13) (q0 := 0) rfl rfl) rfl hl.1 rfl (Nat.le_of_ble_eq_true rfl) dX12_read_10 ⟨Nat.le_of_ble_eq_true rfl, Nat.le_of_ble_eq_true rfl⟩ (fun r_3 hr_3 => ?_)
    subst hr_3
    refine lv_if_ne (tgt := 26) hx hb dX12_read_13 (by decide) (fun c_4 => ?_) (fun c_4 => ?_)
    · have c_4 := bI_t c_4
      simp only [c_2, c_4, Bool.not_true, Bool.not_false, Bool.and_true, Bool.true_and, Bool.and_false, Bool.false_and, Bool.or_true, Bool.true_or, Bool.or_false, Bool.false_or, Bool.and_self, Bool.or_self, Bool.true_eq_false, Bool.false_eq_true] at h1
    · have c_4 := bI_f c_4
      refine lv_iload hx hb dX12_read_16 (lv_at hl 5 rfl) ?_
      refine lv_iconst (v := nI 0) hx hb dX12_read_18 (by decide) ?_
      refine lv_iconst (v := nI 3) hx hb dX12_read_19 (by decide) ?_
      refine zcSi (As := [.int (nI P), .int (nI 0), .int (nI 3)]) (rest := [.ref (ma 0 0)]) ⟨hx, hb, hml, hown, hts⟩ (c_X12_isIn l _ (nI P) (nI 0) (nI 3)) (cwS 3 hts gX12_read_X12_isIn rfl rfl rfl (by decide +kernel) ⟨Nat.le_of_ble_eq_true rfl, Nat.le_of_ble_eq_true rfl⟩) (B := fun _ => True) (fun _ _ _ _ _ => trivial) (fun _ _ _ => trivial) rfl hl.1 rfl (Nat.le_of_ble_eq_true rfl) dX12_read_20 ⟨Nat.le_of_ble_eq_true rfl, Nat.le_of_ble_eq_true rfl⟩ (fun r_5 hr_5 => ?_)
      subst hr_5
      refine lv_if_ne (tgt := 30) hx hb dX12_read_23 (by decide) (fun c_6 => ?_) (fun c_6 => ?_)
      · have c_6 := bI_t c_6
        refine lv_iconst (v := nI 0) hx hb dX12_read_30 (by decide) ?_
        refine zeq (show nI 0 = bI false from rfl) ?_
        refine lv_iconst (v := nI 1) hx hb dX12_read_31 (by decide) ?_
        refine va_calli (va_runV (As := [.int (bI false), .int (nI 1)]) (rest := []) ⟨hx, hb, hml, hown, hts⟩ (c_X12_start_f l D ty A u C ma t0 mi g n1 n2 nL n4 n5 th rep bro hR 1 (by omega) (by omega)) (cwV 2 hts gX12_read_X12_start rfl rfl rfl (by decide +kernel) ⟨Nat.le_of_ble_eq_true rfl, Nat.le_of_ble_eq_true rfl⟩) ⟨zBl mI_blind, (va_recv hK (hM.Pa hR.o.1 rfl hR.o.2) (ci := 13) (q0 := 0) rfl rfl), fun U h1 h2 => ⟨rfl, mI_pre hM hK hMS hS U h1 h2⟩⟩ rfl rfl hl.1 rfl (lv_room (Nat.le_of_ble_eq_true rfl)) dX12_read_32 ⟨Nat.le_of_ble_eq_true rfl, Nat.le_of_ble_eq_true rfl⟩) hS (fun _ _ h => h) (fun _ h => h) (fun r_8 C_7 t H1 locs ht hvm hw hB9 hz1 hk1 hS => ?_)
        obtain ⟨hr_8, hR_9⟩ := hw
        obtain ⟨hM, -, -⟩ := hB9
        rw [ht] at hM
        clear hk1 hz1 hvm ht
        clear t
        generalize H1 = H at hM hS ⊢
        subst hr_8
        refine lv_if_ne (tgt := 66) hx hb dX12_read_35 (by decide) (fun c_10 => ?_) (fun c_10 => ?_)
        · have c_10 := bI_t c_10
          cases c_10
        · have c_10 := bI_f c_10
          refine lv_aload_n hx hb dX12_read_38 rfl (lv_at hl 0 rfl) ?_
          refine lv_aload_n hx hb dX12_read_39 rfl (lv_at hl 0 rfl) ?_
          refine lv_iload_n hx hb dX12_read_40 rfl (lv_at hl 2 rfl) ?_
          refine lv_iload_n hx hb dX12_read_41 rfl (lv_at hl 3 rfl) ?_
          refine zcVi (As := [.int (nI i), .int F]) (rest := [.ref (ma 0 0)]) ⟨hx, hb, hml, hown, hts⟩ (c_X12_isNoFields l D ty A u C_7 ma t0 mi g n1 n2 nL n4 n5 (nI 0) rep bro hR_9 i (by omega) F) (cwV 2 hts gX12_read_X12_isNoFields rfl rfl rfl (by decide +kernel) ⟨Nat.le_of_ble_eq_true rfl, Nat.le_of_ble_eq_true rfl⟩) mI_blind (mI_pre hM hK hMS hS) (va_recv hK (hM.Pa hR_9.o.1 rfl hR_9.o.2) (ci := 13) (q0 := 0) rfl rfl) rfl hl.1 rfl (Nat.le_of_ble_eq_true rfl) dX12_read_42 ⟨Nat.le_of_ble_eq_true rfl, Nat.le_of_ble_eq_true rfl⟩ (fun r_11 hr_11 => ?_)
          subst hr_11
          refine lv_if_ne (tgt := 54) hx hb dX12_read_45 (by decide) (fun c_12 => ?_) (fun c_12 => ?_)
          · have c_12 := bI_t c_12
            simp only [c_2, c_4, c_6, c_10, c_12, Bool.not_true, Bool.not_false, Bool.and_true, Bool.true_and, Bool.and_false, Bool.false_and, Bool.or_true, Bool.true_or, Bool.or_false, Bool.false_or, Bool.and_self, Bool.or_self, Bool.true_eq_false, Bool.false_eq_true] at h2
          · have c_12 := bI_f c_12
            refine lv_iload hx hb dX12_read_48 (lv_at hl 4 rfl) ?_
            refine lv_iconst (v := nI 1) hx hb dX12_read_50 (by decide) ?_
            refine lv_icmp_ge (tgt := 58) hx hb dX12_read_51 (by decide) (fun c_13 => ?_) (fun c_13 => ?_)
            · have c_13 : ¬ rw0 < nI 1 := Int32.not_lt.mpr c_13
              refine lv_iconst (v := nI 0) hx hb dX12_read_58 (by decide) ?_
              refine zeq (show nI 0 = bI false from rfl) ?_
              refine lv_iconst (v := nI 2) hx hb dX12_read_59 (by decide) ?_
              refine zcVi (As := [.int (bI false), .int (nI 2)]) (rest := []) ⟨hx, hb, hml, hown, hts⟩ (c_X12_refuse_f l D ty A u C_7 ma t0 mi g n1 n2 nL n4 n5 (nI 0) rep bro hR_9 rfl (nI 2)) (cwV 2 hts gX12_read_X12_refuse rfl rfl rfl (by decide +kernel) ⟨Nat.le_of_ble_eq_true rfl, Nat.le_of_ble_eq_true rfl⟩) mI_blind (mI_pre hM hK hMS hS) (va_recv hK (hM.Pa hR_9.o.1 rfl hR_9.o.2) (ci := 13) (q0 := 0) rfl rfl) rfl hl.1 rfl (Nat.le_of_ble_eq_true rfl) dX12_read_60 ⟨Nat.le_of_ble_eq_true rfl, Nat.le_of_ble_eq_true rfl⟩ (fun r_14 hr_14 => ?_)
              subst hr_14
              refine lv_if_eq (tgt := 68) hx hb dX12_read_63 (by decide) (fun c_15 => ?_) (fun c_15 => ?_)
              · have c_15 := bI_f c_15
                refine lv_aload_n hx hb dX12_read_68 rfl (lv_at hl 0 rfl) ?_
                refine lv_aload_n hx hb dX12_read_69 rfl (lv_at hl 0 rfl) ?_
                refine va_get hx hb hts hinX12 hown hK (hM.Pa hR_9.o.1 rfl hR_9.o.2) 0 rfl rfl 4 (by decide) (hk1) (fun _ h9 => h9) rfl dX12_read_70 ?_
                obtain ⟨huz_16, hnz_16, mz_16, bz_16, hCz_16⟩ := isL.hd hR_9.l7
                refine zcVi (As := []) (rest := [.ref (ma 0 0)]) ⟨hx, hb, hml, hown, hts⟩ (c_size l D ty A u C_7 ma t0 mi 7 0 n5 (ma 26) hR_9.l7) (cwV 0 hts gX12_read_Jx4a65c_size_8abf5 rfl rfl rfl (by decide +kernel) ⟨Nat.le_of_ble_eq_true rfl, Nat.le_of_ble_eq_true rfl⟩) mI_blind (mI_pre hM hK hMS hS) (va_recv hK (hM.Pa huz_16 rfl hCz_16) (ci := 0) (q0 := 0) rfl rfl) rfl hl.1 rfl (Nat.le_of_ble_eq_true rfl) dX12_read_73 ⟨Nat.le_of_ble_eq_true rfl, Nat.le_of_ble_eq_true rfl⟩ (fun r_17 hr_17 => ?_)
                subst hr_17
                refine lv_bipush (v := nI 40) hx hb dX12_read_76 (by decide) ?_
                refine lv_icmp_eq (tgt := 119) hx hb dX12_read_78 (by decide) (fun c_18 => ?_) (fun c_18 => ?_)
                · have c_18 := zn_eqT (a := n5) (b := 40) (by omega) (by omega) c_18
                  omega
                · have c_18 := zn_eqF (a := n5) (b := 40) (by omega) (by omega) c_18
                  refine lv_iload hx hb dX12_read_81 (lv_at hl 4 rfl) ?_
                  refine lv_aload_n hx hb dX12_read_83 rfl (lv_at hl 0 rfl) ?_
                  refine va_get hx hb hts hinX12 hown hK (hM.Pa hR_9.o.1 rfl hR_9.o.2) 0 rfl rfl 1 (by decide) (hk2) (fun _ h9 => h9) rfl dX12_read_84 ?_
                  refine lv_iload_n hx hb dX12_read_87 rfl (lv_at hl 2 rfl) ?_
                  obtain ⟨huz_19, hnz_19, mz_19, bz_19, hCz_19⟩ := isL.hd hR_9.l1
                  refine zcVr (x := .ref (ma 9 i)) (As := [.int (nI i)]) (rest := [.int rw0, .ref (ma 0 0)]) ⟨hx, hb, hml, hown, hts⟩ (c_get l D ty A u C_7 ma t0 mi 1 0 n1 (ma 9) hR_9.l1 i (by omega)) (cwV 1 hts gX12_read_Jx4a65c_get_915e3 rfl rfl rfl (by decide +kernel) ⟨Nat.le_of_ble_eq_true rfl, Nat.le_of_ble_eq_true rfl⟩) mI_blind (mI_pre hM hK hMS hS) (va_recv hK (hM.Pa huz_19 rfl hCz_19) (ci := 0) (q0 := 0) rfl rfl) rfl hl.1 rfl (Nat.le_of_ble_eq_true rfl) dX12_read_88 ⟨Nat.le_of_ble_eq_true rfl, Nat.le_of_ble_eq_true rfl⟩ ?_
                  refine va_castS hx hb hown (hk3) ((hK.1 8 _ rfl).2) (va_recv hK (hM.Pa (hR_9.s9 (i := i) (by omega)).1 rfl (hR_9.s9 (i := i) (by omega)).2) (ci := 8) (q0 := 0) rfl rfl) dX12_read_91 ?_
                  refine zcVi (As := []) (rest := [.int rw0, .ref (ma 0 0)]) ⟨hx, hb, hml, hown, hts⟩ (c_X7_rows l D ty A u C_7 ma t0 mi g n1 n2 nL n4 n5 (nI 0) rep bro hR_9 i (by omega)) (cwV 0 hts gX12_read_X7_rows rfl rfl rfl (by decide +kernel) ⟨Nat.le_of_ble_eq_true rfl, Nat.le_of_ble_eq_true rfl⟩) mI_blind (mI_pre hM hK hMS hS) (va_recv hK (hM.Pa (hR_9.s9 (i := i) (by omega)).1 rfl (hR_9.s9 (i := i) (by omega)).2) (ci := 8) (q0 := 0) rfl rfl) rfl hl.1 rfl (Nat.le_of_ble_eq_true rfl) dX12_read_94 ⟨Nat.le_of_ble_eq_true rfl, Nat.le_of_ble_eq_true rfl⟩ (fun r_21 hr_21 => ?_)
                  subst hr_21
                  refine lv_icmp_gt (tgt := 119) hx hb dX12_read_97 (by decide) (fun c_22 => ?_) (fun c_22 => ?_)
                  · first | exact absurd c_22 h3 | exact absurd h3 c_22 | exact absurd (Int32.not_lt.mpr c_22) (not_not_intro h3) | exact absurd (Int32.not_le.mpr h3) (not_not_intro c_22) | exact absurd (Int32.not_le.mp c_22) h3
                  · refine lv_iload_n hx hb dX12_read_100 rfl (lv_at hl 3 rfl) ?_
                    refine lv_aload_n hx hb dX12_read_101 rfl (lv_at hl 0 rfl) ?_
                    refine lv_iload_n hx hb dX12_read_102 rfl (lv_at hl 1 rfl) ?_
                    refine lv_iload_n hx hb dX12_read_103 rfl (lv_at hl 2 rfl) ?_
                    refine lv_iload hx hb dX12_read_104 (lv_at hl 5 rfl) ?_
                    refine lv_aload_n hx hb dX12_read_106 rfl (lv_at hl 0 rfl) ?_
                    refine va_get hx hb hts hinX12 hown hK (hM.Pa hR_9.o.1 rfl hR_9.o.2) 0 rfl rfl 5 (by decide) (hk4) (fun _ h9 => h9) rfl dX12_read_107 ?_
                    refine zcVi (As := [.int (nI R), .int (nI i), .int (nI P), .int (g 0 0)]) (rest := [.int F, .ref (ma 0 0)]) ⟨hx, hb, hml, hown, hts⟩ (c_X12_coveredNow l D ty A u C_7 ma t0 mi g n1 n2 nL n4 n5 (nI 0) rep bro hR_9 (nI R) (nI i) (nI P) (g 0 0)) (cwV 4 hts gX12_read_X12_coveredNow rfl rfl rfl (by decide +kernel) ⟨Nat.le_of_ble_eq_true rfl, Nat.le_of_ble_eq_true rfl⟩) mI_blind (mI_pre hM hK hMS hS) (va_recv hK (hM.Pa hR_9.o.1 rfl hR_9.o.2) (ci := 13) (q0 := 0) rfl rfl) rfl hl.1 rfl (Nat.le_of_ble_eq_true rfl) dX12_read_110 ⟨Nat.le_of_ble_eq_true rfl, Nat.le_of_ble_eq_true rfl⟩ (fun r_23 hr_23 => ?_)
                    subst hr_23
                    refine lv_iconst (v := -1) hx hb dX12_read_113 (by decide) ?_
                    refine lv_ixor hx hb dX12_read_114 ?_
                    refine lv_iand hx hb dX12_read_115 ?_
                    refine lv_if_eq (tgt := 123) hx hb dX12_read_116 (by decide) (fun c_24 => ?_) (fun c_24 => ?_)
                    · refine lv_iconst (v := nI 0) hx hb dX12_read_123 (by decide) ?_
                      refine zeq (show nI 0 = bI false from rfl) ?_
                      refine lv_iconst (v := nI 3) hx hb dX12_read_124 (by decide) ?_
                      refine zcVi (As := [.int (bI false), .int (nI 3)]) (rest := []) ⟨hx, hb, hml, hown, hts⟩ (c_X12_refuse_f l D ty A u C_7 ma t0 mi g n1 n2 nL n4 n5 (nI 0) rep bro hR_9 rfl (nI 3)) (cwV 2 hts gX12_read_X12_refuse rfl rfl rfl (by decide +kernel) ⟨Nat.le_of_ble_eq_true rfl, Nat.le_of_ble_eq_true rfl⟩) mI_blind (mI_pre hM hK hMS hS) (va_recv hK (hM.Pa hR_9.o.1 rfl hR_9.o.2) (ci := 13) (q0 := 0) rfl rfl) rfl hl.1 rfl (Nat.le_of_ble_eq_true rfl) dX12_read_125 ⟨Nat.le_of_ble_eq_true rfl, Nat.le_of_ble_eq_true rfl⟩ (fun r_25 hr_25 => ?_)
                      subst hr_25
                      refine lv_if_eq (tgt := 133) hx hb dX12_read_128 (by decide) (fun c_26 => ?_) (fun c_26 => ?_)
                      · have c_26 := bI_f c_26
                        refine lv_aload_n hx hb dX12_read_133 rfl (lv_at hl 0 rfl) ?_
                        refine lv_iload_n hx hb dX12_read_134 rfl (lv_at hl 1 rfl) ?_
                        refine lv_iload_n hx hb dX12_read_135 rfl (lv_at hl 2 rfl) ?_
                        refine lv_iload_n hx hb dX12_read_136 rfl (lv_at hl 3 rfl) ?_
                        refine lv_iload hx hb dX12_read_137 (lv_at hl 4 rfl) ?_
                        refine lv_iload hx hb dX12_read_139 (lv_at hl 5 rfl) ?_
                        refine va_callr (va_runV (As := [.int (nI R), .int (nI i), .int F, .int rw0, .int (nI P)]) (rest := []) ⟨hx, hb, hml, hown, hts⟩ (c_X12_made l D ty A u C_7 ma t0 mi g n1 n2 nL n4 n5 (nI 0) rep bro hR_9 R i P hr6 hi (by omega) (by have := hR.I.b5; omega) F rw0) (cwV 5 hts gX12_read_X12_made rfl rfl rfl (by decide +kernel) ⟨Nat.le_of_ble_eq_true rfl, Nat.le_of_ble_eq_true rfl⟩) ⟨zBl mI_blind, (va_recv hK (hM.Pa hR_9.o.1 rfl hR_9.o.2) (ci := 13) (q0 := 0) rfl rfl), fun U h1 h2 => ⟨rfl, mI_pre hM hK hMS hS U h1 h2⟩⟩ rfl rfl hl.1 rfl (lv_room (Nat.le_of_ble_eq_true rfl)) dX12_read_141 ⟨Nat.le_of_ble_eq_true rfl, Nat.le_of_ble_eq_true rfl⟩) hS (fun _ _ h => h) (fun _ h => h) (fun S_27 q_28 t H1 locs ht hvm hw hB9 hz1 hk1 hS => ?_)
                        obtain ⟨ha_38, hM, -, -⟩ := hB9
                        rw [ht] at hM
                        clear hk1 hz1 hvm ht
                        clear t
                        generalize H1 = H at hM hS ⊢
                        obtain ⟨u_29, C_30, ma_31⟩ := S_27
                        obtain ⟨hg_33, hR_32, hu_34, hC_35, hu_36, hC_37⟩ := hw
                        have hM : mW D A u_29 C_30 ma_31 H := hM
                        have hg_33 : ∀ k9 x9, mU g n1 n2 nL n4 n5 k9 x9 → (k9 ≠ 2 ∧ k9 ≠ 4 ∧ k9 ≠ 6 ∧ k9 ≠ 8) → ma_31 k9 x9 = ma k9 x9 := hg_33
                        have hR_32 : mR ty t0 g n1 n2 nL n4 n5 (nI 0) rep bro u_29 C_30 ma_31 := hR_32
                        have hC_35 : C_30 26 n5 = eO 10 [.int (nI R), .int (nI i), .int (nI (nV g i) - nI 1), .int F, .int rw0, .int (g 0 0), .int (nI P), .int (tierN (sumN (fUn g (nI R) (g 0 0)) n5)), .ref (ma_31 27 n5), .int 0] := hC_35
                        have hC_37 : C_30 27 n5 = eI (ty 0) 6 (row6 (mdF g i F rw0 (tierN (sumN (fUn g (nI R) (g 0 0)) n5))) 0) := hC_37
                        have ha_38 : ma_31 26 n5 = q_28 := ha_38.symm
                        refine lv_astore (lv' := [(6, .ref q_28), (0, .ref (ma 0 0)), (1, .int (nI R)), (2, .int (nI i)), (3, .int F), (4, .int rw0), (5, .int (nI P))]) hx hb dX12_read_144 hl (by decide) rfl (fun ls hl => ?_)
                        refine lv_aload_n hx hb dX12_read_146 rfl (lv_at hl 1 rfl) ?_
                        refine va_get hx hb hts hinX12 hown hK (hM.Pa hR_32.o.1 (hg_33 0 0 (by unfold mU; omega) (by decide)) hR_32.o.2) 0 rfl rfl 4 (by decide) (hk1) (fun _ h9 => h9) rfl dX12_read_147 ?_
                        refine zeqv (y := .ref (ma 7 0)) (congrArg Value.ref (hg_33 7 0 (by unfold mU; omega) (by decide))) ?_
                        refine lv_aload hx hb dX12_read_150 (lv_at hl 0 rfl) ?_
                        obtain ⟨huz_41, hnz_41, mz_41, bz_41, hCz_41⟩ := isL.hd hR_32.l7
                        have h_42 := c_add l D ty A u_29 C_30 ma_31 t0 mi 7 0 n5 (ma_31 26) hR_32.l7 26 n5 10 _ _ hu_34 hC_35 rfl (by decide +kernel) (by omega) (by omega) (fun j hj => hR_32.e7 hj) (by omega)
                        first | dsimp only at h_42 | skip
                        rw [(show ma_31 7 0 = ma 7 0 from (hg_33 7 0 (by unfold mU; omega) (by decide))), (show ma_31 26 n5 = q_28 from ha_38)] at h_42
                        refine va_calli (va_runV (As := [.ref q_28]) (rest := []) ⟨hx, hb, hml, hown, hts⟩ (h_42) (cwV 1 hts gX12_read_Jx4a65c_add_9ea2d rfl rfl rfl (by decide +kernel) ⟨Nat.le_of_ble_eq_true rfl, Nat.le_of_ble_eq_true rfl⟩) ⟨zBl mI_blind, (va_recv hK (hM.Pa huz_41 (hg_33 7 0 (by unfold mU; omega) (by decide)) hCz_41) (ci := 0) (q0 := 0) rfl rfl), fun U h1 h2 => ⟨rfl, mI_pre hM hK hMS hS U h1 h2⟩⟩ rfl rfl hl.1 rfl (lv_room (Nat.le_of_ble_eq_true rfl)) dX12_read_152 ⟨Nat.le_of_ble_eq_true rfl, Nat.le_of_ble_eq_true rfl⟩) hS (fun _ _ h => h) (fun _ h => h) (fun r_40 S_39 t H1 locs ht hvm hw hB9 hz1 hk1 hS => ?_)
                        obtain ⟨hr_40, hchg, hL9⟩ := hw
                        subst hr_40
                        obtain ⟨hM, -, -⟩ := hB9
                        rw [ht] at hM
                        clear hk1 hz1 hvm ht
                        clear t
                        generalize H1 = H at hM hS ⊢
                        have hR_46 := mR_read hR_32 hn40 hi hv hF1 hF2 hchg (by rw [ha_38]; exact hL9) hu_34 hC_35 hu_36 hC_37
                        have hg_47 : ∀ k9 x9, mU g n1 n2 nL n4 n5 k9 x9 → (k9 ≠ 2 ∧ k9 ≠ 4 ∧ k9 ≠ 6 ∧ k9 ≠ 8) → S_39.2.2 k9 x9 = ma k9 x9 := fun k9 x9 hm hn => (hchg.2.2 k9 x9 (fun z => by omega)).trans (hg_33 k9 x9 hm hn)
                        have he_48 : S_39.2.2 26 n5 = q_28 := (hchg.2.2 26 n5 (by omega)).trans ha_38
                        clear hchg hL9
                        obtain ⟨u_43, C_44, ma_45⟩ := S_39
                        have hM : mW D A u_43 C_44 ma_45 H := hM
                        have hR_46 : mR ty t0 (readG g n5 R i F rw0 P) n1 n2 nL n4 (n5 + 1) (nI 0) rep bro u_43 C_44 ma_45 := hR_46
                        have hg_47 : ∀ k9 x9, mU g n1 n2 nL n4 n5 k9 x9 → (k9 ≠ 2 ∧ k9 ≠ 4 ∧ k9 ≠ 6 ∧ k9 ≠ 8) → ma_45 k9 x9 = ma k9 x9 := fun k9 x9 hm hn => by
                          exact hg_47 k9 x9 hm hn
                        refine lv_pop hx hb dX12_read_155 rfl ?_
                        refine lv_aload hx hb dX12_read_156 (lv_at hl 0 rfl) ?_
                        have h_49 := c_X9_charge l D ty A u_43 C_44 ma_45 t0 mi (readG g n5 R i F rw0 P) n1 n2 nL n4 (n5 + 1) (nI 0) rep bro hR_46 n5 (by omega)
                        first | dsimp only at h_49 | skip
                        rw [(show ma_45 26 n5 = q_28 from he_48)] at h_49
                        refine zcVi (As := []) (rest := []) ⟨hx, hb, hml, hown, hts⟩ (h_49) (cwV 0 hts gX12_read_X9_charge rfl rfl rfl (by decide +kernel) ⟨Nat.le_of_ble_eq_true rfl, Nat.le_of_ble_eq_true rfl⟩) mI_blind (mI_pre hM hK hMS hS) (va_recv hK (hM.Pa (hR_46.r26 (r := n5) (by omega)).1 he_48 (hR_46.r26 (r := n5) (by omega)).2) (ci := 10) (q0 := 0) rfl rfl) rfl hl.1 rfl (Nat.le_of_ble_eq_true rfl) dX12_read_158 ⟨Nat.le_of_ble_eq_true rfl, Nat.le_of_ble_eq_true rfl⟩ (fun r_50 hr_50 => ?_)
                        subst hr_50
                        refine W.widen (k := 3) (n := 76) (by omega) (by omega) ?_
                        exact W.iret (v := chN (readG g n5 R i F rw0 P) n5) hx hb hr (fun t ht hW => ⟨⟨_, (u_43, C_44, ma_45), rfl, ⟨rfl, (hg_47 0 0 (by unfold mU; omega) (by decide)), hR_46⟩, mI_pre hM hK hMS hS t ht hW⟩, hS.F ht⟩) hS.2.2 dX12_read_161
                      · have c_26 := bI_t c_26
                        cases c_26
                    · first | exact absurd c_24 h4 | exact absurd h4 c_24 | exact absurd (Int32.not_lt.mpr c_24) (not_not_intro h4) | exact absurd (Int32.not_le.mpr h4) (not_not_intro c_24) | exact absurd (Int32.not_le.mp c_24) h4
              · have c_15 := bI_t c_15
                cases c_15
            · have c_13 : rw0 < nI 1 := Int32.not_le.mp c_13
              simp only [c_2, c_4, c_6, c_10, c_12, decide_eq_true c_13, Bool.not_true, Bool.not_false, Bool.and_true, Bool.true_and, Bool.and_false, Bool.false_and, Bool.or_true, Bool.true_or, Bool.or_false, Bool.false_or, Bool.and_self, Bool.or_self, Bool.true_eq_false, Bool.false_eq_true] at h2
      · have c_6 := bI_f c_6
        simp only [c_2, c_4, c_6, Bool.not_true, Bool.not_false, Bool.and_true, Bool.true_and, Bool.and_false, Bool.false_and, Bool.or_true, Bool.true_or, Bool.or_false, Bool.false_or, Bool.and_self, Bool.or_self, Bool.true_eq_false, Bool.false_eq_true] at h1
