set_option maxHeartbeats 400000 in
set_option maxRecDepth 100000 in
theorem c_X12_previewsNow (l : Launch) (D : va_G) (ty : Nat → ClassId) (A : Nat → Prop) (u : Nat → Nat → Prop) (C : Nat → Nat → va_E) (ma : Nat → Nat → Nat) (t0 mi : Nat) (g : Nat → Nat → Int32) (n1 n2 nL n4 n5 : Nat) (th : Int32) (rep bro : Nat → Nat → Int32) (hR : mR ty t0 g n1 n2 nL n4 n5 th rep bro u C ma) (R i : Nat) (hr : R < 6) (hi : i < n1) : Met l yX12_previewsNow wsX12_previewsNow ({ frames := 5, cells := 0, slots := 0, locals := 117 }) (va_Pc [.ref (ma 0 0), .int (nI R), .int (nI i)] (mI D ty A u C ma t0 mi)) (vp_Si (fun v_ => v_ = prevN g n4 R i)) 0 0 (fun _ => False) := by
  refine zMet (cc := cX12_previewsNow) (maxL := 5) (ret := (some .int)) (by decide) rfl (Nat.le_of_ble_eq_true rfl) ?_
  intro p e s m below meth c hx hb hr hts hown hlocks hml hB ls hl
  obtain ⟨hM, hK, hMS⟩ := hB
  have hS : va_S A s.heap s.heap [] := va_S.rf
  have hbn := hR.I.b1
  have hbs := hR.I.b2
  have hbl := hR.I.bL
  have hbc := hR.I.b4
  have hbr := hR.I.b5
  have hq7 := (hR.I.f7 hi).2.2
  obtain ⟨aN, haN⟩ : ∃ z, 2 ^ nF g i - 1 = z := ⟨_, rfl⟩
  have haNb : aN < 64 := by rw [← haN]; exact p2_64 hq7
  have haF : allF g i = nI aN := by rw [← haN]; exact allF_nat hq7
  have hl : lv_has ls 5 [(0, .ref (ma 0 0)), (1, .int (nI R)), (2, .int (nI i))] := hl
  have hinX12 : ∀ w ∈ wsX120, w ∈ wsX12_previewsNow := by decide +kernel
  have hk1 := hts (.fieldLink RX12 10 "DatamarketDeskModel" "sets" "Ljava/util/ArrayList;") (by decide +kernel)
  have hk2 := hts (.classLink RX12 49 "DatamarketDeskModel$DataSet") (by decide +kernel)
  refine lv_iconst (v := nI 0) hx hb dX12_previewsNow_0 (by decide) ?_
  refine lv_istore_n (lv' := [(3, .int (nI 0)), (0, .ref (ma 0 0)), (1, .int (nI R)), (2, .int (nI i))]) hx hb dX12_previewsNow_1 rfl hl (by decide) rfl (fun ls hl => ?_)
  refine lv_iconst (v := nI 1) hx hb dX12_previewsNow_2 (by decide) ?_
  refine lv_istore (lv' := [(4, .int (nI 1)), (3, .int (nI 0)), (0, .ref (ma 0 0)), (1, .int (nI R)), (2, .int (nI i))]) hx hb dX12_previewsNow_3 hl (by decide) rfl (fun ls hl => ?_)
  refine zloopP (τ := Unit) (fun k _ ls => lv_has ls 5 [(3, .int (sumN (fPv g n4 R i) k)), (4, .int (nI (k + 1))), (0, .ref (ma 0 0)), (1, .int (nI R)), (2, .int (nI i))]) aN ?_ 0 () ls (Nat.zero_le _) (lv_sub hl [1, 0, 2, 3, 4] rfl)
  intro k _ ls hi_k hl ih_k
  have hl : lv_has ls 5 [(3, .int (sumN (fPv g n4 R i) k)), (4, .int (nI (k + 1))), (0, .ref (ma 0 0)), (1, .int (nI R)), (2, .int (nI i))] := hl
  refine lv_iload hx hb dX12_previewsNow_5 (lv_at hl 1 rfl) ?_
  refine lv_aload_n hx hb dX12_previewsNow_7 rfl (lv_at hl 2 rfl) ?_
  refine va_get hx hb hts hinX12 hown hK (hM.Pa hR.o.1 rfl hR.o.2) 0 rfl rfl 1 (by decide) (hk1) (fun _ h9 => h9) rfl dX12_previewsNow_8 ?_
  refine lv_iload_n hx hb dX12_previewsNow_11 rfl (lv_at hl 4 rfl) ?_
  obtain ⟨huz_1, hnz_1, mz_1, bz_1, hCz_1⟩ := isL.hd hR.l1
  refine zcVr (x := .ref (ma 9 i)) (As := [.int (nI i)]) (rest := [.int (nI (k + 1))]) ⟨hx, hb, hml, hown, hts⟩ (c_get l D ty A u C ma t0 mi 1 0 n1 (ma 9) hR.l1 i (by omega)) (cwV 1 hts gX12_previewsNow_Jx4a65c_get_915e3 rfl rfl rfl (by decide +kernel) ⟨Nat.le_of_ble_eq_true rfl, Nat.le_of_ble_eq_true rfl⟩) mI_blind (mI_pre hM hK hMS hS) (va_recv hK (hM.Pa huz_1 rfl hCz_1) (ci := 0) (q0 := 0) rfl rfl) rfl hl.1 rfl (Nat.le_of_ble_eq_true rfl) dX12_previewsNow_12 ⟨Nat.le_of_ble_eq_true rfl, Nat.le_of_ble_eq_true rfl⟩ ?_
  refine va_castS hx hb hown (hk2) ((hK.1 8 _ rfl).2) (va_recv hK (hM.Pa (hR.s9 (i := i) (by omega)).1 rfl (hR.s9 (i := i) (by omega)).2) (ci := 8) (q0 := 0) rfl rfl) dX12_previewsNow_15 ?_
  refine zcVi (As := []) (rest := [.int (nI (k + 1))]) ⟨hx, hb, hml, hown, hts⟩ (c_X7_all l D ty A u C ma t0 mi g n1 n2 nL n4 n5 th rep bro hR i (by omega)) (cwV 0 hts gX12_previewsNow_X7_all rfl rfl rfl (by decide +kernel) ⟨Nat.le_of_ble_eq_true rfl, Nat.le_of_ble_eq_true rfl⟩) mI_blind (mI_pre hM hK hMS hS) (va_recv hK (hM.Pa (hR.s9 (i := i) (by omega)).1 rfl (hR.s9 (i := i) (by omega)).2) (ci := 8) (q0 := 0) rfl rfl) rfl hl.1 rfl (Nat.le_of_ble_eq_true rfl) dX12_previewsNow_18 ⟨Nat.le_of_ble_eq_true rfl, Nat.le_of_ble_eq_true rfl⟩ (fun r_3 hr_3 => ?_)
  subst hr_3
  refine zeq haF ?_
  refine lv_icmp_gt (tgt := 58) hx hb dX12_previewsNow_21 (by decide) (fun c_4 => ?_) (fun c_4 => ?_)
  · have c_4 := zn_gtT (a := (k + 1)) (b := aN) (by omega) (by omega) c_4
    obtain rfl : k = aN := by omega
    refine lv_iload_n hx hb dX12_previewsNow_58 rfl (lv_at hl 0 rfl) ?_
    exact W.iret (v := sumN (fPv g n4 R i) k) hx hb hr (fun t ht hW => ⟨_, rfl, (by rw [← fPv_e, haN]), ht⟩) (fun _ h => nomatch h) dX12_previewsNow_59
  · have c_4 := zn_gtF (a := (k + 1)) (b := aN) (by omega) (by omega) c_4
    refine lv_iload_n hx hb dX12_previewsNow_24 rfl (lv_at hl 0 rfl) ?_
    refine lv_iload hx hb dX12_previewsNow_25 (lv_at hl 1 rfl) ?_
    refine zcSi (As := [.int (nI (k + 1))]) (rest := [.int (sumN (fPv g n4 R i) k)]) ⟨hx, hb, hml, hown, hts⟩ (c_J6_bitCount l _ (nI (k + 1))) (va_cwS 1 hts gX12_previewsNow_J6_bitCount_0f7a4 rfl rfl rfl (by decide +kernel) ⟨Nat.le_of_ble_eq_true rfl, Nat.le_of_ble_eq_true rfl⟩) (B := fun _ => True) (fun _ _ _ _ _ => trivial) (fun _ _ _ => trivial) rfl hl.1 rfl (Nat.le_of_ble_eq_true rfl) dX12_previewsNow_27 ⟨Nat.le_of_ble_eq_true rfl, Nat.le_of_ble_eq_true rfl⟩ (fun r_5 hr_5 => ?_)
    subst hr_5
    refine lv_iconst (v := nI 2) hx hb dX12_previewsNow_30 (by decide) ?_
    refine lv_icmp_gt (tgt := 49) hx hb dX12_previewsNow_31 (by decide) (fun c_6 => ?_) (fun c_6 => ?_)
    · refine lv_iconst (v := nI 0) hx hb dX12_previewsNow_49 (by decide) ?_
      refine lv_iadd hx hb dX12_previewsNow_50 ?_
      refine lv_istore_n (lv' := [(3, .int ((sumN (fPv g n4 R i) k) + (nI 0))), (4, .int (nI (k + 1))), (0, .ref (ma 0 0)), (1, .int (nI R)), (2, .int (nI i))]) hx hb dX12_previewsNow_51 rfl hl (by decide) rfl (fun ls hl => ?_)
      refine lv_iinc (v := nI ((k + 1) + 1)) (lv' := [(4, .int (nI ((k + 1) + 1))), (3, .int ((sumN (fPv g n4 R i) k) + (nI 0))), (0, .ref (ma 0 0)), (1, .int (nI R)), (2, .int (nI i))]) hx hb dX12_previewsNow_52 hl (k := 1) rfl (nI_add (k + 1) 1) (by decide) rfl (fun ls hl => ?_)
      refine lv_goto (tgt := 5) hx hb dX12_previewsNow_55 (by decide) ?_
      refine ih_k () ls (by omega) (show lv_has ls 5 [(3, .int (sumN (fPv g n4 R i) (k + 1))), (4, .int (nI ((k + 1) + 1))), (0, .ref (ma 0 0)), (1, .int (nI R)), (2, .int (nI i))] from ?_)
      rw [show sumN (fPv g n4 R i) (k + 1) = (sumN (fPv g n4 R i) k) + (nI 0) from congrArg (fun z => (sumN (fPv g n4 R i) k) +  z) (show (fPv g n4 R i) k = (nI 0) from by unfold fPv; simp only [decide_eq_true c_6, Bool.not_true, Bool.not_false, Bool.and_true, Bool.true_and, Bool.and_false, Bool.false_and, Bool.or_true, Bool.true_or, Bool.or_false, Bool.false_or, Bool.and_self, Bool.or_self, if_true, Bool.false_eq_true, if_false] <;> rfl)]
      exact lv_sub hl [1, 0, 2, 3, 4] rfl
    · refine lv_aload_n hx hb dX12_previewsNow_34 rfl (lv_at hl 2 rfl) ?_
      refine lv_iload_n hx hb dX12_previewsNow_35 rfl (lv_at hl 3 rfl) ?_
      refine lv_iload_n hx hb dX12_previewsNow_36 rfl (lv_at hl 4 rfl) ?_
      refine lv_iload hx hb dX12_previewsNow_37 (lv_at hl 1 rfl) ?_
      refine zcVi (As := [.int (nI R), .int (nI i), .int (nI (k + 1))]) (rest := [.int (sumN (fPv g n4 R i) k)]) ⟨hx, hb, hml, hown, hts⟩ (c_X12_canPreview l D ty A u C ma t0 mi g n1 n2 nL n4 n5 th rep bro hR R i (by omega) (by omega) (nI (k + 1))) (cwV 3 hts gX12_previewsNow_X12_canPreview rfl rfl rfl (by decide +kernel) ⟨Nat.le_of_ble_eq_true rfl, Nat.le_of_ble_eq_true rfl⟩) mI_blind (mI_pre hM hK hMS hS) (va_recv hK (hM.Pa hR.o.1 rfl hR.o.2) (ci := 13) (q0 := 0) rfl rfl) rfl hl.1 rfl (Nat.le_of_ble_eq_true rfl) dX12_previewsNow_39 ⟨Nat.le_of_ble_eq_true rfl, Nat.le_of_ble_eq_true rfl⟩ (fun r_7 hr_7 => ?_)
      subst hr_7
      refine lv_if_eq (tgt := 49) hx hb dX12_previewsNow_42 (by decide) (fun c_8 => ?_) (fun c_8 => ?_)
      · have c_8 := bI_f c_8
        refine lv_iconst (v := nI 0) hx hb dX12_previewsNow_49 (by decide) ?_
        refine lv_iadd hx hb dX12_previewsNow_50 ?_
        refine lv_istore_n (lv' := [(3, .int ((sumN (fPv g n4 R i) k) + (nI 0))), (4, .int (nI (k + 1))), (0, .ref (ma 0 0)), (1, .int (nI R)), (2, .int (nI i))]) hx hb dX12_previewsNow_51 rfl hl (by decide) rfl (fun ls hl => ?_)
        refine lv_iinc (v := nI ((k + 1) + 1)) (lv' := [(4, .int (nI ((k + 1) + 1))), (3, .int ((sumN (fPv g n4 R i) k) + (nI 0))), (0, .ref (ma 0 0)), (1, .int (nI R)), (2, .int (nI i))]) hx hb dX12_previewsNow_52 hl (k := 1) rfl (nI_add (k + 1) 1) (by decide) rfl (fun ls hl => ?_)
        refine lv_goto (tgt := 5) hx hb dX12_previewsNow_55 (by decide) ?_
        refine ih_k () ls (by omega) (show lv_has ls 5 [(3, .int (sumN (fPv g n4 R i) (k + 1))), (4, .int (nI ((k + 1) + 1))), (0, .ref (ma 0 0)), (1, .int (nI R)), (2, .int (nI i))] from ?_)
        rw [show sumN (fPv g n4 R i) (k + 1) = (sumN (fPv g n4 R i) k) + (nI 0) from congrArg (fun z => (sumN (fPv g n4 R i) k) +  z) (show (fPv g n4 R i) k = (nI 0) from by unfold fPv; simp only [decide_eq_false c_6, c_8, Bool.not_true, Bool.not_false, Bool.and_true, Bool.true_and, Bool.and_false, Bool.false_and, Bool.or_true, Bool.true_or, Bool.or_false, Bool.false_or, Bool.and_self, Bool.or_self, if_true, Bool.false_eq_true, if_false] <;> rfl)]
        exact lv_sub hl [1, 0, 2, 3, 4] rfl
      · have c_8 := bI_t c_8
        refine lv_iconst (v := nI 1) hx hb dX12_previewsNow_45 (by decide) ?_
        refine lv_goto (tgt := 50) hx hb dX12_previewsNow_46 (by decide) ?_
        refine lv_iadd hx hb dX12_previewsNow_50 ?_
        refine lv_istore_n (lv' := [(3, .int ((sumN (fPv g n4 R i) k) + (nI 1))), (4, .int (nI (k + 1))), (0, .ref (ma 0 0)), (1, .int (nI R)), (2, .int (nI i))]) hx hb dX12_previewsNow_51 rfl hl (by decide) rfl (fun ls hl => ?_)
        refine lv_iinc (v := nI ((k + 1) + 1)) (lv' := [(4, .int (nI ((k + 1) + 1))), (3, .int ((sumN (fPv g n4 R i) k) + (nI 1))), (0, .ref (ma 0 0)), (1, .int (nI R)), (2, .int (nI i))]) hx hb dX12_previewsNow_52 hl (k := 1) rfl (nI_add (k + 1) 1) (by decide) rfl (fun ls hl => ?_)
        refine lv_goto (tgt := 5) hx hb dX12_previewsNow_55 (by decide) ?_
        refine ih_k () ls (by omega) (show lv_has ls 5 [(3, .int (sumN (fPv g n4 R i) (k + 1))), (4, .int (nI ((k + 1) + 1))), (0, .ref (ma 0 0)), (1, .int (nI R)), (2, .int (nI i))] from ?_)
        rw [show sumN (fPv g n4 R i) (k + 1) = (sumN (fPv g n4 R i) k) + (nI 1) from congrArg (fun z => (sumN (fPv g n4 R i) k) +  z) (show (fPv g n4 R i) k = (nI 1) from by unfold fPv; simp only [decide_eq_false c_6, c_8, Bool.not_true, Bool.not_false, Bool.and_true, Bool.true_and, Bool.and_false, Bool.false_and, Bool.or_true, Bool.true_or, Bool.or_false, Bool.false_or, Bool.and_self, Bool.or_self, if_true, Bool.false_eq_true, if_false] <;> rfl)]
        exact lv_sub hl [1, 0, 2, 3, 4] rfl
set_option maxHeartbeats 400000 in
set_option maxRecDepth 100000 in
theorem c_X12_neededNow (l : Launch) (D : va_G) (ty : Nat → ClassId) (A : Nat → Prop) (u : Nat → Nat → Prop) (C : Nat → Nat → va_E) (ma : Nat → Nat → Nat) (t0 mi : Nat) (g : Nat → Nat → Int32) (n1 n2 nL n4 n5 : Nat) (th : Int32) (rep bro : Nat → Nat → Int32) (hR : mR ty t0 g n1 n2 nL n4 n5 th rep bro u C ma) (c0 : Nat) (hc0 : c0 < n4) : Met l yX12_neededNow wsX12_neededNow ({ frames := 3, cells := 0, slots := 0, locals := 64 }) (va_Pc [.ref (ma 0 0), .int (nI c0)] (mI D ty A u C ma t0 mi)) (vp_Si (fun v_ => v_ = sumN (fNeed g n4 c0) n5)) 0 0 (fun _ => False) := by
  refine zMet (cc := cX12_neededNow) (maxL := 7) (ret := (some .int)) (by decide) rfl (Nat.le_of_ble_eq_true rfl) ?_
  intro p e s m below meth c hx hb hr hts hown hlocks hml hB ls hl
  obtain ⟨hM, hK, hMS⟩ := hB
  have hS : va_S A s.heap s.heap [] := va_S.rf
  have hbn := hR.I.b1
  have hbs := hR.I.b2
  have hbl := hR.I.bL
  have hbc := hR.I.b4
  have hbr := hR.I.b5
  have hl : lv_has ls 7 [(0, .ref (ma 0 0)), (1, .int (nI c0))] := hl
  have hinX12 : ∀ w ∈ wsX120, w ∈ wsX12_neededNow := by decide +kernel
  have hk1 := hts (.fieldLink RX12 22 "DatamarketDeskModel" "reads" "Ljava/util/ArrayList;") (by decide +kernel)
  have hk2 := hts (.classLink RX12 152 "DatamarketDeskModel$Read") (by decide +kernel)
  have hk3 := hts (.fieldLink RX12 19 "DatamarketDeskModel" "contracts" "Ljava/util/ArrayList;") (by decide +kernel)
  have hinX9 : ∀ w ∈ wsX90, w ∈ wsX12_neededNow := by decide +kernel
  have hk5 := hts (.fieldLink RX12 257 "DatamarketDeskModel$Read" "fields" "I") (by decide +kernel)
  have hk6 := hts (.classLink RX12 196 "DatamarketDeskModel$Contract") (by decide +kernel)
  have hk7 := hts (.fieldLink RX12 217 "DatamarketDeskModel$Read" "reader" "I") (by decide +kernel)
  have hk8 := hts (.fieldLink RX12 175 "DatamarketDeskModel$Read" "set" "I") (by decide +kernel)
  have hk9 := hts (.fieldLink RX12 263 "DatamarketDeskModel$Read" "purpose" "I") (by decide +kernel)
  have hk10 := hts (.fieldLink RX12 220 "DatamarketDeskModel$Read" "day" "I") (by decide +kernel)
  refine lv_iconst (v := nI 0) hx hb dX12_neededNow_0 (by decide) ?_
  refine lv_istore_n (lv' := [(2, .int (nI 0)), (0, .ref (ma 0 0)), (1, .int (nI c0))]) hx hb dX12_neededNow_1 rfl hl (by decide) rfl (fun ls hl => ?_)
  refine lv_iconst (v := nI 0) hx hb dX12_neededNow_2 (by decide) ?_
  refine lv_istore_n (lv' := [(3, .int (nI 0)), (2, .int (nI 0)), (0, .ref (ma 0 0)), (1, .int (nI c0))]) hx hb dX12_neededNow_3 rfl hl (by decide) rfl (fun ls hl => ?_)
  refine zloopP (τ := Unit) (fun j _ ls => lv_has ls 7 [(2, .int (sumN (fNd g n4 c0) j)), (3, .int (nI j)), (0, .ref (ma 0 0)), (1, .int (nI c0))]) n5 ?_ 0 () ls (Nat.zero_le _) (lv_sub hl [1, 0, 2, 3] rfl)
  intro j _ ls hi_j hl ih_j
  have hl : lv_has ls 7 [(2, .int (sumN (fNd g n4 c0) j)), (3, .int (nI j)), (0, .ref (ma 0 0)), (1, .int (nI c0))] := hl
  refine lv_iload_n hx hb dX12_neededNow_4 rfl (lv_at hl 1 rfl) ?_
  refine lv_aload_n hx hb dX12_neededNow_5 rfl (lv_at hl 2 rfl) ?_
  refine va_get hx hb hts hinX12 hown hK (hM.Pa hR.o.1 rfl hR.o.2) 0 rfl rfl 4 (by decide) (hk1) (fun _ h9 => h9) rfl dX12_neededNow_6 ?_
  obtain ⟨huz_1, hnz_1, mz_1, bz_1, hCz_1⟩ := isL.hd hR.l7
  refine zcVi (As := []) (rest := [.int (nI j)]) ⟨hx, hb, hml, hown, hts⟩ (c_size l D ty A u C ma t0 mi 7 0 n5 (ma 26) hR.l7) (cwV 0 hts gX12_neededNow_Jx4a65c_size_8abf5 rfl rfl rfl (by decide +kernel) ⟨Nat.le_of_ble_eq_true rfl, Nat.le_of_ble_eq_true rfl⟩) mI_blind (mI_pre hM hK hMS hS) (va_recv hK (hM.Pa huz_1 rfl hCz_1) (ci := 0) (q0 := 0) rfl rfl) rfl hl.1 rfl (Nat.le_of_ble_eq_true rfl) dX12_neededNow_9 ⟨Nat.le_of_ble_eq_true rfl, Nat.le_of_ble_eq_true rfl⟩ (fun r_2 hr_2 => ?_)
  subst hr_2
  refine lv_icmp_ge (tgt := 164) hx hb dX12_neededNow_12 (by decide) (fun c_3 => ?_) (fun c_3 => ?_)
  · have c_3 := zn_geT (a := j) (b := n5) (by omega) (by omega) c_3
    obtain rfl : j = n5 := by omega
    refine lv_iload_n hx hb dX12_neededNow_164 rfl (lv_at hl 0 rfl) ?_
    exact W.iret (v := sumN (fNd g n4 c0) j) hx hb hr (fun t ht hW => ⟨_, rfl, (by rw [← fNd_e]), ht⟩) (fun _ h => nomatch h) dX12_neededNow_165
  · have c_3 := zn_geF (a := j) (b := n5) (by omega) (by omega) c_3
    refine lv_aload_n hx hb dX12_neededNow_15 rfl (lv_at hl 2 rfl) ?_
    refine va_get hx hb hts hinX12 hown hK (hM.Pa hR.o.1 rfl hR.o.2) 0 rfl rfl 4 (by decide) (hk1) (fun _ h9 => h9) rfl dX12_neededNow_16 ?_
    refine lv_iload_n hx hb dX12_neededNow_19 rfl (lv_at hl 1 rfl) ?_
    obtain ⟨huz_4, hnz_4, mz_4, bz_4, hCz_4⟩ := isL.hd hR.l7
    refine zcVr (x := .ref (ma 26 j)) (As := [.int (nI j)]) (rest := []) ⟨hx, hb, hml, hown, hts⟩ (c_get l D ty A u C ma t0 mi 7 0 n5 (ma 26) hR.l7 j (by omega)) (cwV 1 hts gX12_neededNow_Jx4a65c_get_915e3 rfl rfl rfl (by decide +kernel) ⟨Nat.le_of_ble_eq_true rfl, Nat.le_of_ble_eq_true rfl⟩) mI_blind (mI_pre hM hK hMS hS) (va_recv hK (hM.Pa huz_4 rfl hCz_4) (ci := 0) (q0 := 0) rfl rfl) rfl hl.1 rfl (Nat.le_of_ble_eq_true rfl) dX12_neededNow_20 ⟨Nat.le_of_ble_eq_true rfl, Nat.le_of_ble_eq_true rfl⟩ ?_
    refine va_castS hx hb hown (hk2) ((hK.1 10 _ rfl).2) (va_recv hK (hM.Pa (hR.r26 (r := j) (by omega)).1 rfl (hR.r26 (r := j) (by omega)).2) (ci := 10) (q0 := 0) rfl rfl) dX12_neededNow_23 ?_
    refine lv_astore (lv' := [(4, .ref (ma 26 j)), (2, .int (sumN (fNd g n4 c0) j)), (3, .int (nI j)), (0, .ref (ma 0 0)), (1, .int (nI c0))]) hx hb dX12_neededNow_26 hl (by decide) rfl (fun ls hl => ?_)
    refine lv_iconst (v := nI 0) hx hb dX12_neededNow_28 (by decide) ?_
    refine lv_istore (lv' := [(5, .int (nI 0)), (4, .ref (ma 26 j)), (2, .int (sumN (fNd g n4 c0) j)), (3, .int (nI j)), (0, .ref (ma 0 0)), (1, .int (nI c0))]) hx hb dX12_neededNow_29 hl (by decide) rfl (fun ls hl => ?_)
    refine lv_iconst (v := nI 0) hx hb dX12_neededNow_31 (by decide) ?_
    refine lv_istore (lv' := [(6, .int (nI 0)), (5, .int (nI 0)), (4, .ref (ma 26 j)), (2, .int (sumN (fNd g n4 c0) j)), (3, .int (nI j)), (0, .ref (ma 0 0)), (1, .int (nI c0))]) hx hb dX12_neededNow_32 hl (by decide) rfl (fun ls hl => ?_)
    refine zloopP (τ := Unit) (fun k _ ls => lv_has ls 7 [(5, .int (orN (fOpen g (g 29 j) (g 30 j) (nI 1 <<< (g 34 j &&& 31)) (g 35 j) (nI c0)) k)), (6, .int (nI k)), (4, .ref (ma 26 j)), (2, .int (sumN (fNd g n4 c0) j)), (3, .int (nI j)), (0, .ref (ma 0 0)), (1, .int (nI c0))]) n4 ?_ 0 () ls (Nat.zero_le _) (lv_sub hl [1, 0, 2, 3, 4, 5, 6] rfl)
    intro k _ ls hi_k hl ih_k
    have hl : lv_has ls 7 [(5, .int (orN (fOpen g (g 29 j) (g 30 j) (nI 1 <<< (g 34 j &&& 31)) (g 35 j) (nI c0)) k)), (6, .int (nI k)), (4, .ref (ma 26 j)), (2, .int (sumN (fNd g n4 c0) j)), (3, .int (nI j)), (0, .ref (ma 0 0)), (1, .int (nI c0))] := hl
    refine lv_iload hx hb dX12_neededNow_34 (lv_at hl 1 rfl) ?_
    refine lv_aload_n hx hb dX12_neededNow_36 rfl (lv_at hl 5 rfl) ?_
    refine va_get hx hb hts hinX12 hown hK (hM.Pa hR.o.1 rfl hR.o.2) 0 rfl rfl 3 (by decide) (hk3) (fun _ h9 => h9) rfl dX12_neededNow_37 ?_
    obtain ⟨huz_6, hnz_6, mz_6, bz_6, hCz_6⟩ := isL.hd hR.l5
    refine zcVi (As := []) (rest := [.int (nI k)]) ⟨hx, hb, hml, hown, hts⟩ (c_size l D ty A u C ma t0 mi 5 0 n4 (ma 25) hR.l5) (cwV 0 hts gX12_neededNow_Jx4a65c_size_8abf5 rfl rfl rfl (by decide +kernel) ⟨Nat.le_of_ble_eq_true rfl, Nat.le_of_ble_eq_true rfl⟩) mI_blind (mI_pre hM hK hMS hS) (va_recv hK (hM.Pa huz_6 rfl hCz_6) (ci := 0) (q0 := 0) rfl rfl) rfl hl.1 rfl (Nat.le_of_ble_eq_true rfl) dX12_neededNow_40 ⟨Nat.le_of_ble_eq_true rfl, Nat.le_of_ble_eq_true rfl⟩ (fun r_7 hr_7 => ?_)
    subst hr_7
    refine lv_icmp_ge (tgt := 102) hx hb dX12_neededNow_43 (by decide) (fun c_8 => ?_) (fun c_8 => ?_)
    · have c_8 := zn_geT (a := k) (b := n4) (by omega) (by omega) c_8
      obtain rfl : n4 = k := by omega
      refine lv_iload_n hx hb dX12_neededNow_102 rfl (lv_at hl 3 rfl) ?_
      refine lv_aload hx hb dX12_neededNow_103 (lv_at hl 2 rfl) ?_
      refine va_get hx hb hts hinX9 hown hK (hM.Pa (hR.r26 (r := j) (by omega)).1 rfl (hR.r26 (r := j) (by omega)).2) 0 rfl rfl 3 (by decide) (hk5) (fun _ h9 => h9) rfl dX12_neededNow_105 ?_
      refine lv_aload_n hx hb dX12_neededNow_108 rfl (lv_at hl 5 rfl) ?_
      refine va_get hx hb hts hinX12 hown hK (hM.Pa hR.o.1 rfl hR.o.2) 0 rfl rfl 3 (by decide) (hk3) (fun _ h9 => h9) rfl dX12_neededNow_109 ?_
      refine lv_iload_n hx hb dX12_neededNow_112 rfl (lv_at hl 6 rfl) ?_
      obtain ⟨huz_9, hnz_9, mz_9, bz_9, hCz_9⟩ := isL.hd hR.l5
      refine zcVr (x := .ref (ma 25 c0)) (As := [.int (nI c0)]) (rest := [.int (g 32 j), .int (sumN (fNd g n4 c0) j)]) ⟨hx, hb, hml, hown, hts⟩ (c_get l D ty A u C ma t0 mi 5 0 n4 (ma 25) hR.l5 c0 (by omega)) (cwV 1 hts gX12_neededNow_Jx4a65c_get_915e3 rfl rfl rfl (by decide +kernel) ⟨Nat.le_of_ble_eq_true rfl, Nat.le_of_ble_eq_true rfl⟩) mI_blind (mI_pre hM hK hMS hS) (va_recv hK (hM.Pa huz_9 rfl hCz_9) (ci := 0) (q0 := 0) rfl rfl) rfl hl.1 rfl (Nat.le_of_ble_eq_true rfl) dX12_neededNow_113 ⟨Nat.le_of_ble_eq_true rfl, Nat.le_of_ble_eq_true rfl⟩ ?_
      refine va_castS hx hb hown (hk6) ((hK.1 7 _ rfl).2) (va_recv hK (hM.Pa (hR.c25 (c := c0) (by omega)).1 rfl (hR.c25 (c := c0) (by omega)).2) (ci := 7) (q0 := 0) rfl rfl) dX12_neededNow_116 ?_
      refine lv_aload hx hb dX12_neededNow_119 (lv_at hl 2 rfl) ?_
      refine va_get hx hb hts hinX9 hown hK (hM.Pa (hR.r26 (r := j) (by omega)).1 rfl (hR.r26 (r := j) (by omega)).2) 0 rfl rfl 0 (by decide) (hk7) (fun _ h9 => h9) rfl dX12_neededNow_121 ?_
      refine lv_aload hx hb dX12_neededNow_124 (lv_at hl 2 rfl) ?_
      refine va_get hx hb hts hinX9 hown hK (hM.Pa (hR.r26 (r := j) (by omega)).1 rfl (hR.r26 (r := j) (by omega)).2) 0 rfl rfl 1 (by decide) (hk8) (fun _ h9 => h9) rfl dX12_neededNow_126 ?_
      refine lv_aload hx hb dX12_neededNow_129 (lv_at hl 2 rfl) ?_
      refine va_get hx hb hts hinX9 hown hK (hM.Pa (hR.r26 (r := j) (by omega)).1 rfl (hR.r26 (r := j) (by omega)).2) 0 rfl rfl 6 (by decide) (hk9) (fun _ h9 => h9) rfl dX12_neededNow_131 ?_
      refine lv_aload hx hb dX12_neededNow_134 (lv_at hl 2 rfl) ?_
      refine va_get hx hb hts hinX9 hown hK (hM.Pa (hR.r26 (r := j) (by omega)).1 rfl (hR.r26 (r := j) (by omega)).2) 0 rfl rfl 5 (by decide) (hk10) (fun _ h9 => h9) rfl dX12_neededNow_136 ?_
      refine zcVi (As := [.int (g 29 j), .int (g 30 j), .int (g 34 j), .int (g 35 j)]) (rest := [.int (g 32 j), .int (sumN (fNd g n4 c0) j)]) ⟨hx, hb, hml, hown, hts⟩ (c_X6_covers l D ty A u C ma t0 mi g n1 n2 nL n4 n5 th rep bro hR c0 (by omega) (g 29 j) (g 30 j) (g 34 j) (g 35 j)) (cwV 4 hts gX12_neededNow_X6_covers rfl rfl rfl (by decide +kernel) ⟨Nat.le_of_ble_eq_true rfl, Nat.le_of_ble_eq_true rfl⟩) mI_blind (mI_pre hM hK hMS hS) (va_recv hK (hM.Pa (hR.c25 (c := c0) (by omega)).1 rfl (hR.c25 (c := c0) (by omega)).2) (ci := 7) (q0 := 0) rfl rfl) rfl hl.1 rfl (Nat.le_of_ble_eq_true rfl) dX12_neededNow_139 ⟨Nat.le_of_ble_eq_true rfl, Nat.le_of_ble_eq_true rfl⟩ (fun r_11 hr_11 => ?_)
      subst hr_11
      refine lv_iand hx hb dX12_neededNow_142 ?_
      refine lv_iload hx hb dX12_neededNow_143 (lv_at hl 0 rfl) ?_
      refine lv_iconst (v := -1) hx hb dX12_neededNow_145 (by decide) ?_
      refine lv_ixor hx hb dX12_neededNow_146 ?_
      refine lv_iand hx hb dX12_neededNow_147 ?_
      refine lv_if_eq (tgt := 155) hx hb dX12_neededNow_148 (by decide) (fun c_12 => ?_) (fun c_12 => ?_)
      · refine lv_iconst (v := nI 0) hx hb dX12_neededNow_155 (by decide) ?_
        refine lv_iadd hx hb dX12_neededNow_156 ?_
        refine lv_istore_n (lv' := [(2, .int ((sumN (fNd g n4 c0) j) + (nI 0))), (5, .int (orN (fOpen g (g 29 j) (g 30 j) (nI 1 <<< (g 34 j &&& 31)) (g 35 j) (nI c0)) n4)), (6, .int (nI n4)), (4, .ref (ma 26 j)), (3, .int (nI j)), (0, .ref (ma 0 0)), (1, .int (nI c0))]) hx hb dX12_neededNow_157 rfl hl (by decide) rfl (fun ls hl => ?_)
        refine lv_iinc (v := nI (j + 1)) (lv' := [(3, .int (nI (j + 1))), (2, .int ((sumN (fNd g n4 c0) j) + (nI 0))), (5, .int (orN (fOpen g (g 29 j) (g 30 j) (nI 1 <<< (g 34 j &&& 31)) (g 35 j) (nI c0)) n4)), (6, .int (nI n4)), (4, .ref (ma 26 j)), (0, .ref (ma 0 0)), (1, .int (nI c0))]) hx hb dX12_neededNow_158 hl (k := 4) rfl (nI_add j 1) (by decide) rfl (fun ls hl => ?_)
        refine lv_goto (tgt := 4) hx hb dX12_neededNow_161 (by decide) ?_
        refine ih_j () ls (by omega) (show lv_has ls 7 [(2, .int (sumN (fNd g n4 c0) (j + 1))), (3, .int (nI (j + 1))), (0, .ref (ma 0 0)), (1, .int (nI c0))] from ?_)
        rw [show sumN (fNd g n4 c0) (j + 1) = (sumN (fNd g n4 c0) j) + (nI 0) from congrArg (fun z => (sumN (fNd g n4 c0) j) +  z) (show (fNd g n4 c0) j = (nI 0) from by unfold fNd; simp only [decide_eq_true c_12, Bool.not_true, Bool.not_false, Bool.and_true, Bool.true_and, Bool.and_false, Bool.false_and, Bool.or_true, Bool.true_or, Bool.or_false, Bool.false_or, Bool.and_self, Bool.or_self, if_true, Bool.false_eq_true, if_false] <;> rfl)]
        exact lv_sub hl [1, 0, 5, 6] rfl
      · refine lv_iconst (v := nI 1) hx hb dX12_neededNow_151 (by decide) ?_
        refine lv_goto (tgt := 156) hx hb dX12_neededNow_152 (by decide) ?_
        refine lv_iadd hx hb dX12_neededNow_156 ?_
        refine lv_istore_n (lv' := [(2, .int ((sumN (fNd g n4 c0) j) + (nI 1))), (5, .int (orN (fOpen g (g 29 j) (g 30 j) (nI 1 <<< (g 34 j &&& 31)) (g 35 j) (nI c0)) n4)), (6, .int (nI n4)), (4, .ref (ma 26 j)), (3, .int (nI j)), (0, .ref (ma 0 0)), (1, .int (nI c0))]) hx hb dX12_neededNow_157 rfl hl (by decide) rfl (fun ls hl => ?_)
        refine lv_iinc (v := nI (j + 1)) (lv' := [(3, .int (nI (j + 1))), (2, .int ((sumN (fNd g n4 c0) j) + (nI 1))), (5, .int (orN (fOpen g (g 29 j) (g 30 j) (nI 1 <<< (g 34 j &&& 31)) (g 35 j) (nI c0)) n4)), (6, .int (nI n4)), (4, .ref (ma 26 j)), (0, .ref (ma 0 0)), (1, .int (nI c0))]) hx hb dX12_neededNow_158 hl (k := 4) rfl (nI_add j 1) (by decide) rfl (fun ls hl => ?_)
        refine lv_goto (tgt := 4) hx hb dX12_neededNow_161 (by decide) ?_
        refine ih_j () ls (by omega) (show lv_has ls 7 [(2, .int (sumN (fNd g n4 c0) (j + 1))), (3, .int (nI (j + 1))), (0, .ref (ma 0 0)), (1, .int (nI c0))] from ?_)
        rw [show sumN (fNd g n4 c0) (j + 1) = (sumN (fNd g n4 c0) j) + (nI 1) from congrArg (fun z => (sumN (fNd g n4 c0) j) +  z) (show (fNd g n4 c0) j = (nI 1) from by unfold fNd; simp only [decide_eq_false c_12, Bool.not_true, Bool.not_false, Bool.and_true, Bool.true_and, Bool.and_false, Bool.false_and, Bool.or_true, Bool.true_or, Bool.or_false, Bool.false_or, Bool.and_self, Bool.or_self, if_true, Bool.false_eq_true, if_false] <;> rfl)]
        exact lv_sub hl [1, 0, 5, 6] rfl
    · have c_8 := zn_geF (a := k) (b := n4) (by omega) (by omega) c_8
      refine lv_iload hx hb dX12_neededNow_46 (lv_at hl 0 rfl) ?_
      refine lv_iload hx hb dX12_neededNow_48 (lv_at hl 1 rfl) ?_
      refine lv_iload_n hx hb dX12_neededNow_50 rfl (lv_at hl 6 rfl) ?_
      refine lv_icmp_ne (tgt := 58) hx hb dX12_neededNow_51 (by decide) (fun c_13 => ?_) (fun c_13 => ?_)
      · have c_13 := zn_neT (a := k) (b := c0) (by omega) (by omega) c_13
        refine lv_aload_n hx hb dX12_neededNow_58 rfl (lv_at hl 5 rfl) ?_
        refine va_get hx hb hts hinX12 hown hK (hM.Pa hR.o.1 rfl hR.o.2) 0 rfl rfl 3 (by decide) (hk3) (fun _ h9 => h9) rfl dX12_neededNow_59 ?_
        refine lv_iload hx hb dX12_neededNow_62 (lv_at hl 1 rfl) ?_
        obtain ⟨huz_14, hnz_14, mz_14, bz_14, hCz_14⟩ := isL.hd hR.l5
        refine zcVr (x := .ref (ma 25 k)) (As := [.int (nI k)]) (rest := [.int (orN (fOpen g (g 29 j) (g 30 j) (nI 1 <<< (g 34 j &&& 31)) (g 35 j) (nI c0)) k)]) ⟨hx, hb, hml, hown, hts⟩ (c_get l D ty A u C ma t0 mi 5 0 n4 (ma 25) hR.l5 k (by omega)) (cwV 1 hts gX12_neededNow_Jx4a65c_get_915e3 rfl rfl rfl (by decide +kernel) ⟨Nat.le_of_ble_eq_true rfl, Nat.le_of_ble_eq_true rfl⟩) mI_blind (mI_pre hM hK hMS hS) (va_recv hK (hM.Pa huz_14 rfl hCz_14) (ci := 0) (q0 := 0) rfl rfl) rfl hl.1 rfl (Nat.le_of_ble_eq_true rfl) dX12_neededNow_64 ⟨Nat.le_of_ble_eq_true rfl, Nat.le_of_ble_eq_true rfl⟩ ?_
        refine va_castS hx hb hown (hk6) ((hK.1 7 _ rfl).2) (va_recv hK (hM.Pa (hR.c25 (c := k) (by omega)).1 rfl (hR.c25 (c := k) (by omega)).2) (ci := 7) (q0 := 0) rfl rfl) dX12_neededNow_67 ?_
        refine lv_aload hx hb dX12_neededNow_70 (lv_at hl 2 rfl) ?_
        refine va_get hx hb hts hinX9 hown hK (hM.Pa (hR.r26 (r := j) (by omega)).1 rfl (hR.r26 (r := j) (by omega)).2) 0 rfl rfl 0 (by decide) (hk7) (fun _ h9 => h9) rfl dX12_neededNow_72 ?_
        refine lv_aload hx hb dX12_neededNow_75 (lv_at hl 2 rfl) ?_
        refine va_get hx hb hts hinX9 hown hK (hM.Pa (hR.r26 (r := j) (by omega)).1 rfl (hR.r26 (r := j) (by omega)).2) 0 rfl rfl 1 (by decide) (hk8) (fun _ h9 => h9) rfl dX12_neededNow_77 ?_
        refine lv_aload hx hb dX12_neededNow_80 (lv_at hl 2 rfl) ?_
        refine va_get hx hb hts hinX9 hown hK (hM.Pa (hR.r26 (r := j) (by omega)).1 rfl (hR.r26 (r := j) (by omega)).2) 0 rfl rfl 6 (by decide) (hk9) (fun _ h9 => h9) rfl dX12_neededNow_82 ?_
        refine lv_aload hx hb dX12_neededNow_85 (lv_at hl 2 rfl) ?_
        refine va_get hx hb hts hinX9 hown hK (hM.Pa (hR.r26 (r := j) (by omega)).1 rfl (hR.r26 (r := j) (by omega)).2) 0 rfl rfl 5 (by decide) (hk10) (fun _ h9 => h9) rfl dX12_neededNow_87 ?_
        refine zcVi (As := [.int (g 29 j), .int (g 30 j), .int (g 34 j), .int (g 35 j)]) (rest := [.int (orN (fOpen g (g 29 j) (g 30 j) (nI 1 <<< (g 34 j &&& 31)) (g 35 j) (nI c0)) k)]) ⟨hx, hb, hml, hown, hts⟩ (c_X6_covers l D ty A u C ma t0 mi g n1 n2 nL n4 n5 th rep bro hR k (by omega) (g 29 j) (g 30 j) (g 34 j) (g 35 j)) (cwV 4 hts gX12_neededNow_X6_covers rfl rfl rfl (by decide +kernel) ⟨Nat.le_of_ble_eq_true rfl, Nat.le_of_ble_eq_true rfl⟩) mI_blind (mI_pre hM hK hMS hS) (va_recv hK (hM.Pa (hR.c25 (c := k) (by omega)).1 rfl (hR.c25 (c := k) (by omega)).2) (ci := 7) (q0 := 0) rfl rfl) rfl hl.1 rfl (Nat.le_of_ble_eq_true rfl) dX12_neededNow_90 ⟨Nat.le_of_ble_eq_true rfl, Nat.le_of_ble_eq_true rfl⟩ (fun r_16 hr_16 => ?_)
        subst hr_16
        refine lv_ior hx hb dX12_neededNow_93 ?_
        refine lv_istore (lv' := [(5, .int ((orN (fOpen g (g 29 j) (g 30 j) (nI 1 <<< (g 34 j &&& 31)) (g 35 j) (nI c0)) k) ||| (covN g k (g 29 j) (g 30 j) (g 34 j) (g 35 j)))), (6, .int (nI k)), (4, .ref (ma 26 j)), (2, .int (sumN (fNd g n4 c0) j)), (3, .int (nI j)), (0, .ref (ma 0 0)), (1, .int (nI c0))]) hx hb dX12_neededNow_94 hl (by decide) rfl (fun ls hl => ?_)
        refine lv_iinc (v := nI (k + 1)) (lv' := [(6, .int (nI (k + 1))), (5, .int ((orN (fOpen g (g 29 j) (g 30 j) (nI 1 <<< (g 34 j &&& 31)) (g 35 j) (nI c0)) k) ||| (covN g k (g 29 j) (g 30 j) (g 34 j) (g 35 j)))), (4, .ref (ma 26 j)), (2, .int (sumN (fNd g n4 c0) j)), (3, .int (nI j)), (0, .ref (ma 0 0)), (1, .int (nI c0))]) hx hb dX12_neededNow_96 hl (k := 1) rfl (nI_add k 1) (by decide) rfl (fun ls hl => ?_)
        refine lv_goto (tgt := 34) hx hb dX12_neededNow_99 (by decide) ?_
        refine ih_k () ls (by omega) (show lv_has ls 7 [(5, .int (orN (fOpen g (g 29 j) (g 30 j) (nI 1 <<< (g 34 j &&& 31)) (g 35 j) (nI c0)) (k + 1))), (6, .int (nI (k + 1))), (4, .ref (ma 26 j)), (2, .int (sumN (fNd g n4 c0) j)), (3, .int (nI j)), (0, .ref (ma 0 0)), (1, .int (nI c0))] from ?_)
        rw [show orN (fOpen g (g 29 j) (g 30 j) (nI 1 <<< (g 34 j &&& 31)) (g 35 j) (nI c0)) (k + 1) = (orN (fOpen g (g 29 j) (g 30 j) (nI 1 <<< (g 34 j &&& 31)) (g 35 j) (nI c0)) k) ||| (covN g k (g 29 j) (g 30 j) (g 34 j) (g 35 j)) from congrArg (fun z => (orN (fOpen g (g 29 j) (g 30 j) (nI 1 <<< (g 34 j &&& 31)) (g 35 j) (nI c0)) k) |||  z) (show (fOpen g (g 29 j) (g 30 j) (nI 1 <<< (g 34 j &&& 31)) (g 35 j) (nI c0)) k = (covN g k (g 29 j) (g 30 j) (g 34 j) (g 35 j)) from (cov_op2 (by omega) (by omega) c_13))]
        exact lv_sub hl [1, 0, 2, 3, 4, 5, 6] rfl
      · have c_13 := zn_neF (a := k) (b := c0) (by omega) (by omega) c_13
        refine lv_iconst (v := nI 0) hx hb dX12_neededNow_54 (by decide) ?_
        refine lv_goto (tgt := 93) hx hb dX12_neededNow_55 (by decide) ?_
        refine lv_ior hx hb dX12_neededNow_93 ?_
        refine lv_istore (lv' := [(5, .int ((orN (fOpen g (g 29 j) (g 30 j) (nI 1 <<< (g 34 j &&& 31)) (g 35 j) (nI c0)) k) ||| (nI 0))), (6, .int (nI k)), (4, .ref (ma 26 j)), (2, .int (sumN (fNd g n4 c0) j)), (3, .int (nI j)), (0, .ref (ma 0 0)), (1, .int (nI c0))]) hx hb dX12_neededNow_94 hl (by decide) rfl (fun ls hl => ?_)
        refine lv_iinc (v := nI (k + 1)) (lv' := [(6, .int (nI (k + 1))), (5, .int ((orN (fOpen g (g 29 j) (g 30 j) (nI 1 <<< (g 34 j &&& 31)) (g 35 j) (nI c0)) k) ||| (nI 0))), (4, .ref (ma 26 j)), (2, .int (sumN (fNd g n4 c0) j)), (3, .int (nI j)), (0, .ref (ma 0 0)), (1, .int (nI c0))]) hx hb dX12_neededNow_96 hl (k := 1) rfl (nI_add k 1) (by decide) rfl (fun ls hl => ?_)
        refine lv_goto (tgt := 34) hx hb dX12_neededNow_99 (by decide) ?_
        refine ih_k () ls (by omega) (show lv_has ls 7 [(5, .int (orN (fOpen g (g 29 j) (g 30 j) (nI 1 <<< (g 34 j &&& 31)) (g 35 j) (nI c0)) (k + 1))), (6, .int (nI (k + 1))), (4, .ref (ma 26 j)), (2, .int (sumN (fNd g n4 c0) j)), (3, .int (nI j)), (0, .ref (ma 0 0)), (1, .int (nI c0))] from ?_)
        rw [show orN (fOpen g (g 29 j) (g 30 j) (nI 1 <<< (g 34 j &&& 31)) (g 35 j) (nI c0)) (k + 1) = (orN (fOpen g (g 29 j) (g 30 j) (nI 1 <<< (g 34 j &&& 31)) (g 35 j) (nI c0)) k) ||| (nI 0) from congrArg (fun z => (orN (fOpen g (g 29 j) (g 30 j) (nI 1 <<< (g 34 j &&& 31)) (g 35 j) (nI c0)) k) |||  z) (show (fOpen g (g 29 j) (g 30 j) (nI 1 <<< (g 34 j &&& 31)) (g 35 j) (nI c0)) k = (nI 0) from (cov_op0 c_13))]
        exact lv_sub hl [1, 0, 2, 3, 4, 5, 6] rfl
set_option maxHeartbeats 400000 in
set_option maxRecDepth 100000 in
theorem c_X12_sourceOf_k (l : Launch) (D : va_G) (ty : Nat → ClassId) (A : Nat → Prop) (u : Nat → Nat → Prop) (C : Nat → Nat → va_E) (ma : Nat → Nat → Nat) (t0 mi : Nat) (g : Nat → Nat → Int32) (n1 n2 nL n4 n5 : Nat) (th : Int32) (rep bro : Nat → Nat → Int32) (hR : mR ty t0 g n1 n2 nL n4 n5 th rep bro u C ma) (i f i2 f2 : Nat) (hf : f < 6) (hf2 : f2 < 6) (hi : i < 8) (hi2 : i2 < 8) (j0 : Nat) (hj0 : j0 < n2) (hj1 : g 12 j0 = nI (i * 6 + f) ∧ g 13 j0 = nI (i2 * 6 + f2)) (hj2 : ∀ j, j < j0 → ¬ (g 12 j = nI (i * 6 + f) ∧ g 13 j = nI (i2 * 6 + f2))) : Met l yX12_sourceOf wsX12_sourceOf ({ frames := 4, cells := 0, slots := 0, locals := 90 }) (va_Pc [.ref (ma 0 0), .int (nI i), .int (nI f), .int (nI i2), .int (nI f2)] (mI D ty A u C ma t0 mi)) (va_Sr (fun _ => True) (fun _ => .ref (ma 24 j0))) 0 0 (fun _ => False) := by
  refine zMet (cc := cX12_sourceOf) (maxL := 7) (ret := (some (.object "DatamarketDeskModel$Source"))) (by decide) rfl (Nat.le_of_ble_eq_true rfl) ?_
  intro p e s m below meth c hx hb hr hts hown hlocks hml hB ls hl
  obtain ⟨hM, hK, hMS⟩ := hB
  have hS : va_S A s.heap s.heap [] := va_S.rf
  have hbn := hR.I.b1
  have hbs := hR.I.b2
  have hbl := hR.I.bL
  have hbc := hR.I.b4
  have hbr := hR.I.b5
  have hq1 : cn (g 12 j0) = i * 6 + f := by rw [hj1.1]; exact cn_nI (by omega)
  have hq2 : cn (g 13 j0) = i2 * 6 + f2 := by rw [hj1.2]; exact cn_nI (by omega)
  have hl : lv_has ls 7 [(0, .ref (ma 0 0)), (1, .int (nI i)), (2, .int (nI f)), (3, .int (nI i2)), (4, .int (nI f2))] := hl
  have hinX12 : ∀ w ∈ wsX120, w ∈ wsX12_sourceOf := by decide +kernel
  have hk1 := hts (.fieldLink RX12 16 "DatamarketDeskModel" "sources" "Ljava/util/ArrayList;") (by decide +kernel)
  have hk2 := hts (.classLink RX12 120 "DatamarketDeskModel$Source") (by decide +kernel)
  have hinX10 : ∀ w ∈ wsX100, w ∈ wsX12_sourceOf := by decide +kernel
  have hk4 := hts (.fieldLink RX12 122 "DatamarketDeskModel$Source" "set" "I") (by decide +kernel)
  have hk5 := hts (.fieldLink RX12 123 "DatamarketDeskModel$Source" "field" "I") (by decide +kernel)
  have hk6 := hts (.fieldLink RX12 124 "DatamarketDeskModel$Source" "from" "I") (by decide +kernel)
  have hk7 := hts (.fieldLink RX12 127 "DatamarketDeskModel$Source" "source" "I") (by decide +kernel)
  refine lv_iconst (v := nI 0) hx hb dX12_sourceOf_0 (by decide) ?_
  refine lv_istore (lv' := [(5, .int (nI 0)), (0, .ref (ma 0 0)), (1, .int (nI i)), (2, .int (nI f)), (3, .int (nI i2)), (4, .int (nI f2))]) hx hb dX12_sourceOf_1 hl (by decide) rfl (fun ls hl => ?_)
  refine zloopP (τ := Unit) (fun k _ ls => lv_has ls 7 [(5, .int (nI k)), (0, .ref (ma 0 0)), (1, .int (nI i)), (2, .int (nI f)), (3, .int (nI i2)), (4, .int (nI f2))]) j0 ?_ 0 () ls (Nat.zero_le _) (lv_sub hl [0, 1, 2, 3, 4, 5] rfl)
  intro k _ ls hi_k hl ih_k
  have hl : lv_has ls 7 [(5, .int (nI k)), (0, .ref (ma 0 0)), (1, .int (nI i)), (2, .int (nI f)), (3, .int (nI i2)), (4, .int (nI f2))] := hl
  refine lv_iload hx hb dX12_sourceOf_3 (lv_at hl 0 rfl) ?_
  refine lv_aload_n hx hb dX12_sourceOf_5 rfl (lv_at hl 1 rfl) ?_
  refine va_get hx hb hts hinX12 hown hK (hM.Pa hR.o.1 rfl hR.o.2) 0 rfl rfl 2 (by decide) (hk1) (fun _ h9 => h9) rfl dX12_sourceOf_6 ?_
  obtain ⟨huz_1, hnz_1, mz_1, bz_1, hCz_1⟩ := isL.hd hR.l3
  refine zcVi (As := []) (rest := [.int (nI k)]) ⟨hx, hb, hml, hown, hts⟩ (c_size l D ty A u C ma t0 mi 3 0 n2 (ma 24) hR.l3) (cwV 0 hts gX12_sourceOf_Jx4a65c_size_8abf5 rfl rfl rfl (by decide +kernel) ⟨Nat.le_of_ble_eq_true rfl, Nat.le_of_ble_eq_true rfl⟩) mI_blind (mI_pre hM hK hMS hS) (va_recv hK (hM.Pa huz_1 rfl hCz_1) (ci := 0) (q0 := 0) rfl rfl) rfl hl.1 rfl (Nat.le_of_ble_eq_true rfl) dX12_sourceOf_9 ⟨Nat.le_of_ble_eq_true rfl, Nat.le_of_ble_eq_true rfl⟩ (fun r_2 hr_2 => ?_)
  subst hr_2
  refine lv_icmp_ge (tgt := 75) hx hb dX12_sourceOf_12 (by decide) (fun c_3 => ?_) (fun c_3 => ?_)
  · have c_3 := zn_geT (a := k) (b := n2) (by omega) (by omega) c_3
    omega
  · have c_3 := zn_geF (a := k) (b := n2) (by omega) (by omega) c_3
    have hsk := hR.I.src (show k < n2 by omega)
    have hsa := hsk.1.2
    have hsb := hsk.2.1.2
    refine lv_aload_n hx hb dX12_sourceOf_15 rfl (lv_at hl 1 rfl) ?_
    refine va_get hx hb hts hinX12 hown hK (hM.Pa hR.o.1 rfl hR.o.2) 0 rfl rfl 2 (by decide) (hk1) (fun _ h9 => h9) rfl dX12_sourceOf_16 ?_
    refine lv_iload hx hb dX12_sourceOf_19 (lv_at hl 0 rfl) ?_
    obtain ⟨huz_4, hnz_4, mz_4, bz_4, hCz_4⟩ := isL.hd hR.l3
    refine zcVr (x := .ref (ma 24 k)) (As := [.int (nI k)]) (rest := []) ⟨hx, hb, hml, hown, hts⟩ (c_get l D ty A u C ma t0 mi 3 0 n2 (ma 24) hR.l3 k (by omega)) (cwV 1 hts gX12_sourceOf_Jx4a65c_get_915e3 rfl rfl rfl (by decide +kernel) ⟨Nat.le_of_ble_eq_true rfl, Nat.le_of_ble_eq_true rfl⟩) mI_blind (mI_pre hM hK hMS hS) (va_recv hK (hM.Pa huz_4 rfl hCz_4) (ci := 0) (q0 := 0) rfl rfl) rfl hl.1 rfl (Nat.le_of_ble_eq_true rfl) dX12_sourceOf_21 ⟨Nat.le_of_ble_eq_true rfl, Nat.le_of_ble_eq_true rfl⟩ ?_
    refine va_castS hx hb hown (hk2) ((hK.1 11 _ rfl).2) (va_recv hK (hM.Pa (hR.q24 (j := k) (by omega)).1 rfl (hR.q24 (j := k) (by omega)).2) (ci := 11) (q0 := 0) rfl rfl) dX12_sourceOf_24 ?_
    refine lv_astore (lv' := [(6, .ref (ma 24 k)), (5, .int (nI k)), (0, .ref (ma 0 0)), (1, .int (nI i)), (2, .int (nI f)), (3, .int (nI i2)), (4, .int (nI f2))]) hx hb dX12_sourceOf_27 hl (by decide) rfl (fun ls hl => ?_)
    refine lv_aload hx hb dX12_sourceOf_29 (lv_at hl 0 rfl) ?_
    refine va_get hx hb hts hinX10 hown hK (hM.Pa (hR.q24 (j := k) (by omega)).1 rfl (hR.q24 (j := k) (by omega)).2) 0 rfl rfl 0 (by decide) (hk4) (fun _ h9 => h9) rfl dX12_sourceOf_31 ?_
    refine lv_iload_n hx hb dX12_sourceOf_34 rfl (lv_at hl 3 rfl) ?_
    refine lv_icmp_ne (tgt := 69) hx hb dX12_sourceOf_35 (by decide) (fun c_6 => ?_) (fun c_6 => ?_)
    · have c_6 := zn_neT (a := (cn (g 12 k) / 6)) (b := i) (by omega) (by omega) c_6
      have hk9 : k ≠ j0 := fun e => c_6 (by rw [e, hq1]; omega)
      refine lv_iinc (v := nI (k + 1)) (lv' := [(5, .int (nI (k + 1))), (6, .ref (ma 24 k)), (0, .ref (ma 0 0)), (1, .int (nI i)), (2, .int (nI f)), (3, .int (nI i2)), (4, .int (nI f2))]) hx hb dX12_sourceOf_69 hl (k := 1) rfl (nI_add k 1) (by decide) rfl (fun ls hl => ?_)
      refine lv_goto (tgt := 3) hx hb dX12_sourceOf_72 (by decide) ?_
      exact ih_k () ls (by omega) (show lv_has ls 7 [(5, .int (nI (k + 1))), (0, .ref (ma 0 0)), (1, .int (nI i)), (2, .int (nI f)), (3, .int (nI i2)), (4, .int (nI f2))] from lv_sub hl [0, 2, 3, 4, 5, 6] rfl)
    · have c_6 := zn_neF (a := (cn (g 12 k) / 6)) (b := i) (by omega) (by omega) c_6
      refine lv_aload hx hb dX12_sourceOf_38 (lv_at hl 0 rfl) ?_
      refine va_get hx hb hts hinX10 hown hK (hM.Pa (hR.q24 (j := k) (by omega)).1 rfl (hR.q24 (j := k) (by omega)).2) 0 rfl rfl 1 (by decide) (hk5) (fun _ h9 => h9) rfl dX12_sourceOf_40 ?_
      refine lv_iload_n hx hb dX12_sourceOf_43 rfl (lv_at hl 4 rfl) ?_
      refine lv_icmp_ne (tgt := 69) hx hb dX12_sourceOf_44 (by decide) (fun c_7 => ?_) (fun c_7 => ?_)
      · have c_7 := zn_neT (a := (cn (g 12 k) % 6)) (b := f) (by omega) (by omega) c_7
        have hk9 : k ≠ j0 := fun e => c_7 (by rw [e, hq1]; omega)
        refine lv_iinc (v := nI (k + 1)) (lv' := [(5, .int (nI (k + 1))), (6, .ref (ma 24 k)), (0, .ref (ma 0 0)), (1, .int (nI i)), (2, .int (nI f)), (3, .int (nI i2)), (4, .int (nI f2))]) hx hb dX12_sourceOf_69 hl (k := 1) rfl (nI_add k 1) (by decide) rfl (fun ls hl => ?_)
        refine lv_goto (tgt := 3) hx hb dX12_sourceOf_72 (by decide) ?_
        exact ih_k () ls (by omega) (show lv_has ls 7 [(5, .int (nI (k + 1))), (0, .ref (ma 0 0)), (1, .int (nI i)), (2, .int (nI f)), (3, .int (nI i2)), (4, .int (nI f2))] from lv_sub hl [0, 2, 3, 4, 5, 6] rfl)
      · have c_7 := zn_neF (a := (cn (g 12 k) % 6)) (b := f) (by omega) (by omega) c_7
        refine lv_aload hx hb dX12_sourceOf_47 (lv_at hl 0 rfl) ?_
        refine va_get hx hb hts hinX10 hown hK (hM.Pa (hR.q24 (j := k) (by omega)).1 rfl (hR.q24 (j := k) (by omega)).2) 0 rfl rfl 2 (by decide) (hk6) (fun _ h9 => h9) rfl dX12_sourceOf_49 ?_
        refine lv_iload_n hx hb dX12_sourceOf_52 rfl (lv_at hl 5 rfl) ?_
        refine lv_icmp_ne (tgt := 69) hx hb dX12_sourceOf_53 (by decide) (fun c_8 => ?_) (fun c_8 => ?_)
        · have c_8 := zn_neT (a := (cn (g 13 k) / 6)) (b := i2) (by omega) (by omega) c_8
          have hk9 : k ≠ j0 := fun e => c_8 (by rw [e, hq2]; omega)
          refine lv_iinc (v := nI (k + 1)) (lv' := [(5, .int (nI (k + 1))), (6, .ref (ma 24 k)), (0, .ref (ma 0 0)), (1, .int (nI i)), (2, .int (nI f)), (3, .int (nI i2)), (4, .int (nI f2))]) hx hb dX12_sourceOf_69 hl (k := 1) rfl (nI_add k 1) (by decide) rfl (fun ls hl => ?_)
          refine lv_goto (tgt := 3) hx hb dX12_sourceOf_72 (by decide) ?_
          exact ih_k () ls (by omega) (show lv_has ls 7 [(5, .int (nI (k + 1))), (0, .ref (ma 0 0)), (1, .int (nI i)), (2, .int (nI f)), (3, .int (nI i2)), (4, .int (nI f2))] from lv_sub hl [0, 2, 3, 4, 5, 6] rfl)
        · have c_8 := zn_neF (a := (cn (g 13 k) / 6)) (b := i2) (by omega) (by omega) c_8
          refine lv_aload hx hb dX12_sourceOf_56 (lv_at hl 0 rfl) ?_
          refine va_get hx hb hts hinX10 hown hK (hM.Pa (hR.q24 (j := k) (by omega)).1 rfl (hR.q24 (j := k) (by omega)).2) 0 rfl rfl 3 (by decide) (hk7) (fun _ h9 => h9) rfl dX12_sourceOf_58 ?_
          refine lv_iload hx hb dX12_sourceOf_61 (lv_at hl 6 rfl) ?_
          refine lv_icmp_ne (tgt := 69) hx hb dX12_sourceOf_63 (by decide) (fun c_9 => ?_) (fun c_9 => ?_)
          · have c_9 := zn_neT (a := (cn (g 13 k) % 6)) (b := f2) (by omega) (by omega) c_9
            have hk9 : k ≠ j0 := fun e => c_9 (by rw [e, hq2]; omega)
            refine lv_iinc (v := nI (k + 1)) (lv' := [(5, .int (nI (k + 1))), (6, .ref (ma 24 k)), (0, .ref (ma 0 0)), (1, .int (nI i)), (2, .int (nI f)), (3, .int (nI i2)), (4, .int (nI f2))]) hx hb dX12_sourceOf_69 hl (k := 1) rfl (nI_add k 1) (by decide) rfl (fun ls hl => ?_)
            refine lv_goto (tgt := 3) hx hb dX12_sourceOf_72 (by decide) ?_
            exact ih_k () ls (by omega) (show lv_has ls 7 [(5, .int (nI (k + 1))), (0, .ref (ma 0 0)), (1, .int (nI i)), (2, .int (nI f)), (3, .int (nI i2)), (4, .int (nI f2))] from lv_sub hl [0, 2, 3, 4, 5, 6] rfl)
          · have c_9 := zn_neF (a := (cn (g 13 k) % 6)) (b := f2) (by omega) (by omega) c_9
            refine lv_aload hx hb dX12_sourceOf_66 (lv_at hl 0 rfl) ?_
            have e9 : k = j0 := Decidable.byContradiction fun h9 => hj2 k (by omega) ⟨by rw [(hR.I.src (show k < n2 by omega)).1.1]; exact congrArg nI (by omega), by rw [(hR.I.src (show k < n2 by omega)).2.1.1]; exact congrArg nI (by omega)⟩
            subst e9
            exact W.aret hx hb hr (Or.inl ⟨_, rfl⟩) (Or.inr ⟨_, rfl⟩) (fun t ht hW => ⟨0, rfl, trivial, ht⟩) (fun _ h => nomatch h) dX12_sourceOf_68
set_option maxHeartbeats 400000 in
set_option maxRecDepth 100000 in
theorem c_X12_sourceOf_n (l : Launch) (D : va_G) (ty : Nat → ClassId) (A : Nat → Prop) (u : Nat → Nat → Prop) (C : Nat → Nat → va_E) (ma : Nat → Nat → Nat) (t0 mi : Nat) (g : Nat → Nat → Int32) (n1 n2 nL n4 n5 : Nat) (th : Int32) (rep bro : Nat → Nat → Int32) (hR : mR ty t0 g n1 n2 nL n4 n5 th rep bro u C ma) (i f i2 f2 : Nat) (hf : f < 6) (hf2 : f2 < 6) (hi : i < 8) (hi2 : i2 < 8) (hj2 : ∀ j, j < n2 → ¬ (g 12 j = nI (i * 6 + f) ∧ g 13 j = nI (i2 * 6 + f2))) : Met l yX12_sourceOf wsX12_sourceOf ({ frames := 4, cells := 0, slots := 0, locals := 90 }) (va_Pc [.ref (ma 0 0), .int (nI i), .int (nI f), .int (nI i2), .int (nI f2)] (mI D ty A u C ma t0 mi)) (va_Sr (fun _ => True) (fun _ => .null)) 0 0 (fun _ => False) := by
  refine zMet (cc := cX12_sourceOf) (maxL := 7) (ret := (some (.object "DatamarketDeskModel$Source"))) (by decide) rfl (Nat.le_of_ble_eq_true rfl) ?_
  intro p e s m below meth c hx hb hr hts hown hlocks hml hB ls hl
  obtain ⟨hM, hK, hMS⟩ := hB
  have hS : va_S A s.heap s.heap [] := va_S.rf
  have hbn := hR.I.b1
  have hbs := hR.I.b2
  have hbl := hR.I.bL
  have hbc := hR.I.b4
  have hbr := hR.I.b5
  have hl : lv_has ls 7 [(0, .ref (ma 0 0)), (1, .int (nI i)), (2, .int (nI f)), (3, .int (nI i2)), (4, .int (nI f2))] := hl
  have hinX12 : ∀ w ∈ wsX120, w ∈ wsX12_sourceOf := by decide +kernel
  have hk1 := hts (.fieldLink RX12 16 "DatamarketDeskModel" "sources" "Ljava/util/ArrayList;") (by decide +kernel)
  have hk2 := hts (.classLink RX12 120 "DatamarketDeskModel$Source") (by decide +kernel)
  have hinX10 : ∀ w ∈ wsX100, w ∈ wsX12_sourceOf := by decide +kernel
  have hk4 := hts (.fieldLink RX12 122 "DatamarketDeskModel$Source" "set" "I") (by decide +kernel)
  have hk5 := hts (.fieldLink RX12 123 "DatamarketDeskModel$Source" "field" "I") (by decide +kernel)
  have hk6 := hts (.fieldLink RX12 124 "DatamarketDeskModel$Source" "from" "I") (by decide +kernel)
  have hk7 := hts (.fieldLink RX12 127 "DatamarketDeskModel$Source" "source" "I") (by decide +kernel)
  refine lv_iconst (v := nI 0) hx hb dX12_sourceOf_0 (by decide) ?_
  refine lv_istore (lv' := [(5, .int (nI 0)), (0, .ref (ma 0 0)), (1, .int (nI i)), (2, .int (nI f)), (3, .int (nI i2)), (4, .int (nI f2))]) hx hb dX12_sourceOf_1 hl (by decide) rfl (fun ls hl => ?_)
  refine zloopP (τ := Unit) (fun k _ ls => lv_has ls 7 [(5, .int (nI k)), (0, .ref (ma 0 0)), (1, .int (nI i)), (2, .int (nI f)), (3, .int (nI i2)), (4, .int (nI f2))]) n2 ?_ 0 () ls (Nat.zero_le _) (lv_sub hl [0, 1, 2, 3, 4, 5] rfl)
  intro k _ ls hi_k hl ih_k
  have hl : lv_has ls 7 [(5, .int (nI k)), (0, .ref (ma 0 0)), (1, .int (nI i)), (2, .int (nI f)), (3, .int (nI i2)), (4, .int (nI f2))] := hl
  refine lv_iload hx hb dX12_sourceOf_3 (lv_at hl 0 rfl) ?_
  refine lv_aload_n hx hb dX12_sourceOf_5 rfl (lv_at hl 1 rfl) ?_
  refine va_get hx hb hts hinX12 hown hK (hM.Pa hR.o.1 rfl hR.o.2) 0 rfl rfl 2 (by decide) (hk1) (fun _ h9 => h9) rfl dX12_sourceOf_6 ?_
  obtain ⟨huz_1, hnz_1, mz_1, bz_1, hCz_1⟩ := isL.hd hR.l3
  refine zcVi (As := []) (rest := [.int (nI k)]) ⟨hx, hb, hml, hown, hts⟩ (c_size l D ty A u C ma t0 mi 3 0 n2 (ma 24) hR.l3) (cwV 0 hts gX12_sourceOf_Jx4a65c_size_8abf5 rfl rfl rfl (by decide +kernel) ⟨Nat.le_of_ble_eq_true rfl, Nat.le_of_ble_eq_true rfl⟩) mI_blind (mI_pre hM hK hMS hS) (va_recv hK (hM.Pa huz_1 rfl hCz_1) (ci := 0) (q0 := 0) rfl rfl) rfl hl.1 rfl (Nat.le_of_ble_eq_true rfl) dX12_sourceOf_9 ⟨Nat.le_of_ble_eq_true rfl, Nat.le_of_ble_eq_true rfl⟩ (fun r_2 hr_2 => ?_)
  subst hr_2
  refine lv_icmp_ge (tgt := 75) hx hb dX12_sourceOf_12 (by decide) (fun c_3 => ?_) (fun c_3 => ?_)
  · have c_3 := zn_geT (a := k) (b := n2) (by omega) (by omega) c_3
    refine lv_null hx hb dX12_sourceOf_75 ?_
    exact W.aret hx hb hr (Or.inl ⟨_, rfl⟩) (Or.inl rfl) (fun t ht hW => ⟨0, rfl, trivial, ht⟩) (fun _ h => nomatch h) dX12_sourceOf_76
  · have c_3 := zn_geF (a := k) (b := n2) (by omega) (by omega) c_3
    have hsk := hR.I.src (show k < n2 by omega)
    have hsa := hsk.1.2
    have hsb := hsk.2.1.2
    refine lv_aload_n hx hb dX12_sourceOf_15 rfl (lv_at hl 1 rfl) ?_
    refine va_get hx hb hts hinX12 hown hK (hM.Pa hR.o.1 rfl hR.o.2) 0 rfl rfl 2 (by decide) (hk1) (fun _ h9 => h9) rfl dX12_sourceOf_16 ?_
    refine lv_iload hx hb dX12_sourceOf_19 (lv_at hl 0 rfl) ?_
    obtain ⟨huz_4, hnz_4, mz_4, bz_4, hCz_4⟩ := isL.hd hR.l3
    refine zcVr (x := .ref (ma 24 k)) (As := [.int (nI k)]) (rest := []) ⟨hx, hb, hml, hown, hts⟩ (c_get l D ty A u C ma t0 mi 3 0 n2 (ma 24) hR.l3 k (by omega)) (cwV 1 hts gX12_sourceOf_Jx4a65c_get_915e3 rfl rfl rfl (by decide +kernel) ⟨Nat.le_of_ble_eq_true rfl, Nat.le_of_ble_eq_true rfl⟩) mI_blind (mI_pre hM hK hMS hS) (va_recv hK (hM.Pa huz_4 rfl hCz_4) (ci := 0) (q0 := 0) rfl rfl) rfl hl.1 rfl (Nat.le_of_ble_eq_true rfl) dX12_sourceOf_21 ⟨Nat.le_of_ble_eq_true rfl, Nat.le_of_ble_eq_true rfl⟩ ?_
    refine va_castS hx hb hown (hk2) ((hK.1 11 _ rfl).2) (va_recv hK (hM.Pa (hR.q24 (j := k) (by omega)).1 rfl (hR.q24 (j := k) (by omega)).2) (ci := 11) (q0 := 0) rfl rfl) dX12_sourceOf_24 ?_
    refine lv_astore (lv' := [(6, .ref (ma 24 k)), (5, .int (nI k)), (0, .ref (ma 0 0)), (1, .int (nI i)), (2, .int (nI f)), (3, .int (nI i2)), (4, .int (nI f2))]) hx hb dX12_sourceOf_27 hl (by decide) rfl (fun ls hl => ?_)
    refine lv_aload hx hb dX12_sourceOf_29 (lv_at hl 0 rfl) ?_
    refine va_get hx hb hts hinX10 hown hK (hM.Pa (hR.q24 (j := k) (by omega)).1 rfl (hR.q24 (j := k) (by omega)).2) 0 rfl rfl 0 (by decide) (hk4) (fun _ h9 => h9) rfl dX12_sourceOf_31 ?_
    refine lv_iload_n hx hb dX12_sourceOf_34 rfl (lv_at hl 3 rfl) ?_
    refine lv_icmp_ne (tgt := 69) hx hb dX12_sourceOf_35 (by decide) (fun c_6 => ?_) (fun c_6 => ?_)
    · have c_6 := zn_neT (a := (cn (g 12 k) / 6)) (b := i) (by omega) (by omega) c_6
      refine lv_iinc (v := nI (k + 1)) (lv' := [(5, .int (nI (k + 1))), (6, .ref (ma 24 k)), (0, .ref (ma 0 0)), (1, .int (nI i)), (2, .int (nI f)), (3, .int (nI i2)), (4, .int (nI f2))]) hx hb dX12_sourceOf_69 hl (k := 1) rfl (nI_add k 1) (by decide) rfl (fun ls hl => ?_)
      refine lv_goto (tgt := 3) hx hb dX12_sourceOf_72 (by decide) ?_
      exact ih_k () ls (by omega) (show lv_has ls 7 [(5, .int (nI (k + 1))), (0, .ref (ma 0 0)), (1, .int (nI i)), (2, .int (nI f)), (3, .int (nI i2)), (4, .int (nI f2))] from lv_sub hl [0, 2, 3, 4, 5, 6] rfl)
    · have c_6 := zn_neF (a := (cn (g 12 k) / 6)) (b := i) (by omega) (by omega) c_6
      refine lv_aload hx hb dX12_sourceOf_38 (lv_at hl 0 rfl) ?_
      refine va_get hx hb hts hinX10 hown hK (hM.Pa (hR.q24 (j := k) (by omega)).1 rfl (hR.q24 (j := k) (by omega)).2) 0 rfl rfl 1 (by decide) (hk5) (fun _ h9 => h9) rfl dX12_sourceOf_40 ?_
      refine lv_iload_n hx hb dX12_sourceOf_43 rfl (lv_at hl 4 rfl) ?_
      refine lv_icmp_ne (tgt := 69) hx hb dX12_sourceOf_44 (by decide) (fun c_7 => ?_) (fun c_7 => ?_)
      · have c_7 := zn_neT (a := (cn (g 12 k) % 6)) (b := f) (by omega) (by omega) c_7
        refine lv_iinc (v := nI (k + 1)) (lv' := [(5, .int (nI (k + 1))), (6, .ref (ma 24 k)), (0, .ref (ma 0 0)), (1, .int (nI i)), (2, .int (nI f)), (3, .int (nI i2)), (4, .int (nI f2))]) hx hb dX12_sourceOf_69 hl (k := 1) rfl (nI_add k 1) (by decide) rfl (fun ls hl => ?_)
        refine lv_goto (tgt := 3) hx hb dX12_sourceOf_72 (by decide) ?_
        exact ih_k () ls (by omega) (show lv_has ls 7 [(5, .int (nI (k + 1))), (0, .ref (ma 0 0)), (1, .int (nI i)), (2, .int (nI f)), (3, .int (nI i2)), (4, .int (nI f2))] from lv_sub hl [0, 2, 3, 4, 5, 6] rfl)
      · have c_7 := zn_neF (a := (cn (g 12 k) % 6)) (b := f) (by omega) (by omega) c_7
        refine lv_aload hx hb dX12_sourceOf_47 (lv_at hl 0 rfl) ?_
        refine va_get hx hb hts hinX10 hown hK (hM.Pa (hR.q24 (j := k) (by omega)).1 rfl (hR.q24 (j := k) (by omega)).2) 0 rfl rfl 2 (by decide) (hk6) (fun _ h9 => h9) rfl dX12_sourceOf_49 ?_
        refine lv_iload_n hx hb dX12_sourceOf_52 rfl (lv_at hl 5 rfl) ?_
        refine lv_icmp_ne (tgt := 69) hx hb dX12_sourceOf_53 (by decide) (fun c_8 => ?_) (fun c_8 => ?_)
        · have c_8 := zn_neT (a := (cn (g 13 k) / 6)) (b := i2) (by omega) (by omega) c_8
          refine lv_iinc (v := nI (k + 1)) (lv' := [(5, .int (nI (k + 1))), (6, .ref (ma 24 k)), (0, .ref (ma 0 0)), (1, .int (nI i)), (2, .int (nI f)), (3, .int (nI i2)), (4, .int (nI f2))]) hx hb dX12_sourceOf_69 hl (k := 1) rfl (nI_add k 1) (by decide) rfl (fun ls hl => ?_)
          refine lv_goto (tgt := 3) hx hb dX12_sourceOf_72 (by decide) ?_
          exact ih_k () ls (by omega) (show lv_has ls 7 [(5, .int (nI (k + 1))), (0, .ref (ma 0 0)), (1, .int (nI i)), (2, .int (nI f)), (3, .int (nI i2)), (4, .int (nI f2))] from lv_sub hl [0, 2, 3, 4, 5, 6] rfl)
        · have c_8 := zn_neF (a := (cn (g 13 k) / 6)) (b := i2) (by omega) (by omega) c_8
          refine lv_aload hx hb dX12_sourceOf_56 (lv_at hl 0 rfl) ?_
          refine va_get hx hb hts hinX10 hown hK (hM.Pa (hR.q24 (j := k) (by omega)).1 rfl (hR.q24 (j := k) (by omega)).2) 0 rfl rfl 3 (by decide) (hk7) (fun _ h9 => h9) rfl dX12_sourceOf_58 ?_
          refine lv_iload hx hb dX12_sourceOf_61 (lv_at hl 6 rfl) ?_
          refine lv_icmp_ne (tgt := 69) hx hb dX12_sourceOf_63 (by decide) (fun c_9 => ?_) (fun c_9 => ?_)
          · have c_9 := zn_neT (a := (cn (g 13 k) % 6)) (b := f2) (by omega) (by omega) c_9
            refine lv_iinc (v := nI (k + 1)) (lv' := [(5, .int (nI (k + 1))), (6, .ref (ma 24 k)), (0, .ref (ma 0 0)), (1, .int (nI i)), (2, .int (nI f)), (3, .int (nI i2)), (4, .int (nI f2))]) hx hb dX12_sourceOf_69 hl (k := 1) rfl (nI_add k 1) (by decide) rfl (fun ls hl => ?_)
            refine lv_goto (tgt := 3) hx hb dX12_sourceOf_72 (by decide) ?_
            exact ih_k () ls (by omega) (show lv_has ls 7 [(5, .int (nI (k + 1))), (0, .ref (ma 0 0)), (1, .int (nI i)), (2, .int (nI f)), (3, .int (nI i2)), (4, .int (nI f2))] from lv_sub hl [0, 2, 3, 4, 5, 6] rfl)
          · have c_9 := zn_neF (a := (cn (g 13 k) % 6)) (b := f2) (by omega) (by omega) c_9
            refine lv_aload hx hb dX12_sourceOf_66 (lv_at hl 0 rfl) ?_
            exact (hj2 k (by omega) ⟨by rw [(hR.I.src (show k < n2 by omega)).1.1]; exact congrArg nI (by omega), by rw [(hR.I.src (show k < n2 by omega)).2.1.1]; exact congrArg nI (by omega)⟩).elim
