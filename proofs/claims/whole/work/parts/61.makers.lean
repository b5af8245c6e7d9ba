set_option maxHeartbeats 600000 in
set_option maxRecDepth 100000 in
theorem c_X12_credits (l : Launch) (D : va_G) (ty : Nat → ClassId) (A : Nat → Prop) (u : Nat → Nat → Prop) (C : Nat → Nat → va_E) (ma : Nat → Nat → Nat) (t0 mi : Nat) (g : Nat → Nat → Int32) (n1 n2 nL n4 n5 : Nat) (th : Int32) (rep bro : Nat → Nat → Int32) (hR : mR ty t0 g n1 n2 nL n4 n5 th rep bro u C ma) (sz : Nat) : Met l yX12_credits wsX12_credits ({ frames := 4, cells := 57, slots := 344, locals := 93 }) (va_Pc [.ref (ma 0 0)] (mIs D ty A u C ma t0 mi sz)) (mkQ sz (fun v_ => v_ = sumN (fCr g (-1) (-1) 21) n5)) 57 344 (fun q => sz ≤ q) := by
  refine zMet (cc := cX12_credits) (maxL := 4) (ret := (some .int)) (by decide) rfl (Nat.le_of_ble_eq_true rfl) ?_
  intro p e s m below meth c hx hb hr hts hown hlocks hml hB ls hl
  obtain ⟨⟨hM, hK, hMS⟩, hsz⟩ := hB
  subst hsz
  have hS : va_S (fun q => s.heap.size ≤ q) s.heap s.heap [] := va_S.rf
  have hbn := hR.I.b1
  have hbs := hR.I.b2
  have hbl := hR.I.bL
  have hbc := hR.I.b4
  have hbr := hR.I.b5
  have hl : lv_has ls 4 [(0, .ref (ma 0 0))] := hl
  have hinX12 : ∀ w ∈ wsX120, w ∈ wsX12_credits := by decide +kernel
  have hk1 := hts (.fieldLink RX12 22 "DatamarketDeskModel" "reads" "Ljava/util/ArrayList;") (by decide +kernel)
  have hk2 := hts (.classLink RX12 152 "DatamarketDeskModel$Read") (by decide +kernel)
  refine lv_aload_n hx hb dX12_credits_0 rfl (lv_at hl 0 rfl) ?_
  have hFc : ∀ q : Nat, s.heap.size ≤ q → s.heap.size ≤ q := fun q h => h
  refine va_callr (va_runV (As := []) (rest := []) ⟨hx, hb, hml, hown, hts⟩ (c_X12_harms l D ty A u C ma t0 mi g n1 n2 nL n4 n5 th rep bro hR s.heap.size) (cwV 0 hts gX12_credits_X12_harms rfl rfl rfl (by decide +kernel) ⟨Nat.le_of_ble_eq_true rfl, Nat.le_of_ble_eq_true rfl⟩) ⟨zBl mIs_blind, (va_recv hK ((hM.later hS).Pa hR.o.1 rfl hR.o.2) (ci := 13) (q0 := 0) rfl rfl), fun U h1 h2 => ⟨rfl, mI_preN hM hK hMS hS U h1 h2, by rw [h1]⟩⟩ rfl rfl hl.1 rfl (lv_room (Nat.le_of_ble_eq_true rfl)) dX12_credits_1 ⟨Nat.le_of_ble_eq_true rfl, Nat.le_of_ble_eq_true rfl⟩) hS (fun q _ h => hFc q h) hFc (fun u9 ah t H1 locs ht hvm hw hB9 hz1 hk1 hS => ?_)
  have ho9 : ∀ q : Nat, q < s.heap.size → H1[q]? = s.heap[q]? := fun q hq => hk1 q hq (Nat.not_le.mpr hq)
  obtain ⟨hmb, hmd, hA, hAd⟩ := hB9
  rw [ht] at hA
  clear hk1 hz1 hvm ht
  clear t
  clear ho9
  generalize H1 = H at hA hAd hS ⊢
  refine lv_astore_n (lv' := [(1, .ref ah), (0, .ref (ma 0 0))]) hx hb dX12_credits_4 rfl hl (by decide) rfl (fun ls hl => ?_)
  refine lv_iconst (v := nI 0) hx hb dX12_credits_5 (by decide) ?_
  refine lv_istore_n (lv' := [(2, .int (nI 0)), (1, .ref ah), (0, .ref (ma 0 0))]) hx hb dX12_credits_6 rfl hl (by decide) rfl (fun ls hl => ?_)
  refine lv_iconst (v := nI 0) hx hb dX12_credits_7 (by decide) ?_
  refine lv_istore_n (lv' := [(3, .int (nI 0)), (2, .int (nI 0)), (1, .ref ah), (0, .ref (ma 0 0))]) hx hb dX12_credits_8 rfl hl (by decide) rfl (fun ls hl => ?_)
  refine zloopP (τ := Unit) (fun k _ ls => lv_has ls 4 [(2, .int (sumN (fCr g (-1) (-1) 21) k)), (3, .int (nI k)), (1, .ref ah), (0, .ref (ma 0 0))]) n5 ?_ 0 () ls (Nat.zero_le _) (lv_sub hl [1, 0, 2, 3] rfl)
  intro k _ ls hi_k hl ih_k
  have hl : lv_has ls 4 [(2, .int (sumN (fCr g (-1) (-1) 21) k)), (3, .int (nI k)), (1, .ref ah), (0, .ref (ma 0 0))] := hl
  refine lv_iload_n hx hb dX12_credits_9 rfl (lv_at hl 1 rfl) ?_
  refine lv_aload_n hx hb dX12_credits_10 rfl (lv_at hl 3 rfl) ?_
  refine va_get hx hb hts hinX12 hown hK ((hM.later hS).Pa hR.o.1 rfl hR.o.2) 0 rfl rfl 4 (by decide) (hk1) (fun _ h9 => h9) rfl dX12_credits_11 ?_
  obtain ⟨huz_2, hnz_2, mz_2, bz_2, hCz_2⟩ := isL.hd hR.l7
  refine zcVi (As := []) (rest := [.int (nI k)]) ⟨hx, hb, hml, hown, hts⟩ (c_size l D ty A u C ma t0 mi 7 0 n5 (ma 26) hR.l7) (cwV 0 hts gX12_credits_Jx4a65c_size_8abf5 rfl rfl rfl (by decide +kernel) ⟨Nat.le_of_ble_eq_true rfl, Nat.le_of_ble_eq_true rfl⟩) (mI_blind) (mI_preN hM hK hMS hS) (va_recv hK ((hM.later hS).Pa huz_2 rfl hCz_2) (ci := 0) (q0 := 0) rfl rfl) rfl hl.1 rfl (Nat.le_of_ble_eq_true rfl) dX12_credits_14 ⟨Nat.le_of_ble_eq_true rfl, Nat.le_of_ble_eq_true rfl⟩ (fun r_3 hr_3 => ?_)
  subst hr_3
  refine lv_icmp_ge (tgt := 44) hx hb dX12_credits_17 (by decide) (fun c_4 => ?_) (fun c_4 => ?_)
  · have c_4 := zn_geT (a := k) (b := n5) (by omega) (by omega) c_4
    obtain rfl : k = n5 := by omega
    refine lv_iload_n hx hb dX12_credits_44 rfl (lv_at hl 0 rfl) ?_
    refine W.widen (k := 57) (n := 344) (by omega) (by omega) ?_
    exact W.iret (v := sumN (fCr g (-1) (-1) 21) k) hx hb hr (fun t ht hW => ⟨⟨_, (), rfl, rfl, trivial⟩, hS.F ht⟩) hS.2.2 dX12_credits_45
  · have c_4 := zn_geF (a := k) (b := n5) (by omega) (by omega) c_4
    refine lv_iload_n hx hb dX12_credits_20 rfl (lv_at hl 0 rfl) ?_
    refine lv_aload_n hx hb dX12_credits_21 rfl (lv_at hl 3 rfl) ?_
    refine va_get hx hb hts hinX12 hown hK ((hM.later hS).Pa hR.o.1 rfl hR.o.2) 0 rfl rfl 4 (by decide) (hk1) (fun _ h9 => h9) rfl dX12_credits_22 ?_
    refine lv_iload_n hx hb dX12_credits_25 rfl (lv_at hl 1 rfl) ?_
    obtain ⟨huz_5, hnz_5, mz_5, bz_5, hCz_5⟩ := isL.hd hR.l7
    refine zcVr (x := .ref (ma 26 k)) (As := [.int (nI k)]) (rest := [.int (sumN (fCr g (-1) (-1) 21) k)]) ⟨hx, hb, hml, hown, hts⟩ (c_get l D ty A u C ma t0 mi 7 0 n5 (ma 26) hR.l7 k (by omega)) (cwV 1 hts gX12_credits_Jx4a65c_get_915e3 rfl rfl rfl (by decide +kernel) ⟨Nat.le_of_ble_eq_true rfl, Nat.le_of_ble_eq_true rfl⟩) (mI_blind) (mI_preN hM hK hMS hS) (va_recv hK ((hM.later hS).Pa huz_5 rfl hCz_5) (ci := 0) (q0 := 0) rfl rfl) rfl hl.1 rfl (Nat.le_of_ble_eq_true rfl) dX12_credits_26 ⟨Nat.le_of_ble_eq_true rfl, Nat.le_of_ble_eq_true rfl⟩ ?_
    refine va_castS hx hb hown (hk2) ((hK.1 10 _ rfl).2) (va_recv hK ((hM.later hS).Pa (hR.r26 (r := k) (by omega)).1 rfl (hR.r26 (r := k) (by omega)).2) (ci := 10) (q0 := 0) rfl rfl) dX12_credits_29 ?_
    refine lv_aload_n hx hb dX12_credits_32 rfl (lv_at hl 2 rfl) ?_
    refine zcVi (As := [.ref ah]) (rest := [.int (sumN (fCr g (-1) (-1) 21) k)]) ⟨hx, hb, hml, hown, hts⟩ (c_X9_credit l D ty A u C ma t0 mi g n1 n2 nL n4 n5 th rep bro hR _ k (by omega)) (cwV 1 hts gX12_credits_X9_credit rfl rfl rfl (by decide +kernel) ⟨Nat.le_of_ble_eq_true rfl, Nat.le_of_ble_eq_true rfl⟩) (mIh_blind) (mIh_preM hM hK hMS hS hA) (va_recv hK ((hM.later hS).Pa (hR.r26 (r := k) (by omega)).1 rfl (hR.r26 (r := k) (by omega)).2) (ci := 10) (q0 := 0) rfl rfl) rfl hl.1 rfl (Nat.le_of_ble_eq_true rfl) dX12_credits_33 ⟨Nat.le_of_ble_eq_true rfl, Nat.le_of_ble_eq_true rfl⟩ (fun r_7 hr_7 => ?_)
    subst hr_7
    refine lv_iadd hx hb dX12_credits_36 ?_
    refine lv_istore_n (lv' := [(2, .int ((sumN (fCr g (-1) (-1) 21) k) + (crN g 21 k))), (3, .int (nI k)), (1, .ref ah), (0, .ref (ma 0 0))]) hx hb dX12_credits_37 rfl hl (by decide) rfl (fun ls hl => ?_)
    refine lv_iinc (v := nI (k + 1)) (lv' := [(3, .int (nI (k + 1))), (2, .int ((sumN (fCr g (-1) (-1) 21) k) + (crN g 21 k))), (1, .ref ah), (0, .ref (ma 0 0))]) hx hb dX12_credits_38 hl (k := 1) rfl (nI_add k 1) (by decide) rfl (fun ls hl => ?_)
    refine lv_goto (tgt := 9) hx hb dX12_credits_41 (by decide) ?_
    refine ih_k () ls (by omega) (show lv_has ls 4 [(2, .int (sumN (fCr g (-1) (-1) 21) (k + 1))), (3, .int (nI (k + 1))), (1, .ref ah), (0, .ref (ma 0 0))] from ?_)
    rw [show sumN (fCr g (-1) (-1) 21) (k + 1) = (sumN (fCr g (-1) (-1) 21) k) + (crN g 21 k) from congrArg (fun z => (sumN (fCr g (-1) (-1) 21) k) +  z) (show (fCr g (-1) (-1) 21) k = (crN g 21 k) from by unfold fCr; rw [ofB_a]; rfl)]
    exact lv_sub hl [1, 0, 2, 3] rfl
set_option maxHeartbeats 600000 in
set_option maxRecDepth 100000 in
theorem c_X12_count (l : Launch) (D : va_G) (ty : Nat → ClassId) (A : Nat → Prop) (u : Nat → Nat → Prop) (C : Nat → Nat → va_E) (ma : Nat → Nat → Nat) (t0 mi : Nat) (g : Nat → Nat → Int32) (n1 n2 nL n4 n5 : Nat) (th : Int32) (rep bro : Nat → Nat → Int32) (hR : mR ty t0 g n1 n2 nL n4 n5 th rep bro u C ma) (sz : Nat) (w0 : Nat) (hw : w0 < 9) : Met l yX12_count wsX12_count ({ frames := 5, cells := 58, slots := 353, locals := 116 }) (va_Pc [.ref (ma 0 0), .int (nI w0)] (mIs D ty A u C ma t0 mi sz)) (mkQ sz (fun v_ => v_ = manyN g n1 n5 w0)) 58 353 (fun q => sz ≤ q) := by
  refine zMet (cc := cX12_count) (maxL := 6) (ret := (some .int)) (by decide) rfl (Nat.le_of_ble_eq_true rfl) ?_
  intro p e s m below meth c hx hb hr hts hown hlocks hml hB ls hl
  obtain ⟨⟨hM, hK, hMS⟩, hsz⟩ := hB
  subst hsz
  have hS : va_S (fun q => s.heap.size ≤ q) s.heap s.heap [] := va_S.rf
  have hbn := hR.I.b1
  have hbs := hR.I.b2
  have hbl := hR.I.bL
  have hbc := hR.I.b4
  have hbr := hR.I.b5
  have hl : lv_has ls 6 [(0, .ref (ma 0 0)), (1, .int (nI w0))] := hl
  have hinX12 : ∀ w ∈ wsX120, w ∈ wsX12_count := by decide +kernel
  have hk1 := hts (.fieldLink RX12 10 "DatamarketDeskModel" "sets" "Ljava/util/ArrayList;") (by decide +kernel)
  have hk2 := hts (.fieldLink RX12 22 "DatamarketDeskModel" "reads" "Ljava/util/ArrayList;") (by decide +kernel)
  have hk3 := hts (.fieldLink RX12 16 "DatamarketDeskModel" "sources" "Ljava/util/ArrayList;") (by decide +kernel)
  have hk4 := hts (.fieldLink RX12 19 "DatamarketDeskModel" "contracts" "Ljava/util/ArrayList;") (by decide +kernel)
  have hk5 := hts (.fieldLink RX12 193 "DatamarketDeskModel" "today" "I") (by decide +kernel)
  have hk6 := hts (.classLink RX12 152 "DatamarketDeskModel$Read") (by decide +kernel)
  have hinX9 : ∀ w ∈ wsX90, w ∈ wsX12_count := by decide +kernel
  have hk8 := hts (.fieldLink RX12 260 "DatamarketDeskModel$Read" "billed" "I") (by decide +kernel)
  have hk9 := hts (.classLink RX12 49 "DatamarketDeskModel$DataSet") (by decide +kernel)
  have hinX7 : ∀ w ∈ wsX70, w ∈ wsX12_count := by decide +kernel
  have hk11 := hts (.fieldLink RX12 69 "DatamarketDeskModel$DataSet" "versions" "Ljava/util/ArrayList;") (by decide +kernel)
  refine lv_iconst (v := nI 0) hx hb dX12_count_0 (by decide) ?_
  refine lv_istore_n (lv' := [(2, .int (nI 0)), (0, .ref (ma 0 0)), (1, .int (nI w0))]) hx hb dX12_count_1 rfl hl (by decide) rfl (fun ls hl => ?_)
  refine lv_iconst (v := nI 0) hx hb dX12_count_2 (by decide) ?_
  refine lv_istore_n (lv' := [(3, .int (nI 0)), (2, .int (nI 0)), (0, .ref (ma 0 0)), (1, .int (nI w0))]) hx hb dX12_count_3 rfl hl (by decide) rfl (fun ls hl => ?_)
  refine zloopP (τ := Unit) (fun k _ ls => lv_has ls 6 [(2, .int (sumN (g 8) k)), (3, .int (nI k)), (0, .ref (ma 0 0)), (1, .int (nI w0))]) n1 ?_ 0 () ls (Nat.zero_le _) (lv_sub hl [1, 0, 2, 3] rfl)
  intro k _ ls hi_k hl ih_k
  have hl : lv_has ls 6 [(2, .int (sumN (g 8) k)), (3, .int (nI k)), (0, .ref (ma 0 0)), (1, .int (nI w0))] := hl
  refine lv_iload_n hx hb dX12_count_4 rfl (lv_at hl 1 rfl) ?_
  refine lv_aload_n hx hb dX12_count_5 rfl (lv_at hl 2 rfl) ?_
  refine va_get hx hb hts hinX12 hown hK ((hM.later hS).Pa hR.o.1 rfl hR.o.2) 0 rfl rfl 1 (by decide) (hk1) (fun _ h9 => h9) rfl dX12_count_6 ?_
  obtain ⟨huz_1, hnz_1, mz_1, bz_1, hCz_1⟩ := isL.hd hR.l1
  refine zcVi (As := []) (rest := [.int (nI k)]) ⟨hx, hb, hml, hown, hts⟩ (c_size l D ty A u C ma t0 mi 1 0 n1 (ma 9) hR.l1) (cwV 0 hts gX12_count_Jx4a65c_size_8abf5 rfl rfl rfl (by decide +kernel) ⟨Nat.le_of_ble_eq_true rfl, Nat.le_of_ble_eq_true rfl⟩) (mI_blind) (mI_preN hM hK hMS hS) (va_recv hK ((hM.later hS).Pa huz_1 rfl hCz_1) (ci := 0) (q0 := 0) rfl rfl) rfl hl.1 rfl (Nat.le_of_ble_eq_true rfl) dX12_count_9 ⟨Nat.le_of_ble_eq_true rfl, Nat.le_of_ble_eq_true rfl⟩ (fun r_2 hr_2 => ?_)
  subst hr_2
  refine lv_icmp_ge (tgt := 41) hx hb dX12_count_12 (by decide) (fun c_3 => ?_) (fun c_3 => ?_)
  · have c_3 := zn_geT (a := k) (b := n1) (by omega) (by omega) c_3
    obtain rfl : n1 = k := by omega
    refine lv_iconst (v := nI 0) hx hb dX12_count_41 (by decide) ?_
    refine lv_istore_n (lv' := [(3, .int (nI 0)), (2, .int (sumN (g 8) n1)), (0, .ref (ma 0 0)), (1, .int (nI w0))]) hx hb dX12_count_42 rfl hl (by decide) rfl (fun ls hl => ?_)
    refine lv_iconst (v := nI 0) hx hb dX12_count_43 (by decide) ?_
    refine lv_istore (lv' := [(4, .int (nI 0)), (3, .int (nI 0)), (2, .int (sumN (g 8) n1)), (0, .ref (ma 0 0)), (1, .int (nI w0))]) hx hb dX12_count_44 hl (by decide) rfl (fun ls hl => ?_)
    refine lv_iconst (v := nI 0) hx hb dX12_count_46 (by decide) ?_
    refine lv_istore (lv' := [(5, .int (nI 0)), (4, .int (nI 0)), (3, .int (nI 0)), (2, .int (sumN (g 8) n1)), (0, .ref (ma 0 0)), (1, .int (nI w0))]) hx hb dX12_count_47 hl (by decide) rfl (fun ls hl => ?_)
    refine zloopP (τ := Unit) (fun j _ ls => lv_has ls 6 [(3, .int (sumN (fCh g (-1) (-1)) j)), (4, .int (sumN (fBil g (-1)) j)), (5, .int (nI j)), (2, .int (sumN (g 8) n1)), (0, .ref (ma 0 0)), (1, .int (nI w0))]) n5 ?_ 0 () ls (Nat.zero_le _) (lv_sub hl [2, 1, 0, 3, 4, 5] rfl)
    intro j _ ls hi_j hl ih_j
    have hl : lv_has ls 6 [(3, .int (sumN (fCh g (-1) (-1)) j)), (4, .int (sumN (fBil g (-1)) j)), (5, .int (nI j)), (2, .int (sumN (g 8) n1)), (0, .ref (ma 0 0)), (1, .int (nI w0))] := hl
    refine lv_iload hx hb dX12_count_49 (lv_at hl 2 rfl) ?_
    refine lv_aload_n hx hb dX12_count_51 rfl (lv_at hl 4 rfl) ?_
    refine va_get hx hb hts hinX12 hown hK ((hM.later hS).Pa hR.o.1 rfl hR.o.2) 0 rfl rfl 4 (by decide) (hk2) (fun _ h9 => h9) rfl dX12_count_52 ?_
    obtain ⟨huz_4, hnz_4, mz_4, bz_4, hCz_4⟩ := isL.hd hR.l7
    refine zcVi (As := []) (rest := [.int (nI j)]) ⟨hx, hb, hml, hown, hts⟩ (c_size l D ty A u C ma t0 mi 7 0 n5 (ma 26) hR.l7) (cwV 0 hts gX12_count_Jx4a65c_size_8abf5 rfl rfl rfl (by decide +kernel) ⟨Nat.le_of_ble_eq_true rfl, Nat.le_of_ble_eq_true rfl⟩) (mI_blind) (mI_preN hM hK hMS hS) (va_recv hK ((hM.later hS).Pa huz_4 rfl hCz_4) (ci := 0) (q0 := 0) rfl rfl) rfl hl.1 rfl (Nat.le_of_ble_eq_true rfl) dX12_count_55 ⟨Nat.le_of_ble_eq_true rfl, Nat.le_of_ble_eq_true rfl⟩ (fun r_5 hr_5 => ?_)
    subst hr_5
    refine lv_icmp_ge (tgt := 105) hx hb dX12_count_58 (by decide) (fun c_6 => ?_) (fun c_6 => ?_)
    · have c_6 := zn_geT (a := j) (b := n5) (by omega) (by omega) c_6
      obtain rfl : n5 = j := by omega
      refine lv_bipush (v := nI 9) hx hb dX12_count_105 (by decide) ?_
      refine mnewa1 hx hb (hts (.arrayClass .int) (by decide +kernel)) hK hS (fun q h => Nat.le_trans hS.1 h) (n := 9) (N' := 9) (by omega) rfl (by omega) (Nat.le_of_ble_eq_true rfl) (Nat.le_of_ble_eq_true rfl) dX12_count_107 (fun H sq hP hD hS ho => ?_)
      refine lv_dup hx hb dX12_count_109 rfl ?_
      refine lv_iconst (v := nI 0) hx hb dX12_count_110 (by decide) ?_
      refine lv_aload_n hx hb dX12_count_111 rfl (lv_at hl 4 rfl) ?_
      refine va_get hx hb hts hinX12 hown hK ((hM.later hS).Pa hR.o.1 rfl hR.o.2) 0 rfl rfl 1 (by decide) (hk1) (fun _ h9 => h9) rfl dX12_count_112 ?_
      obtain ⟨huz_7, hnz_7, mz_7, bz_7, hCz_7⟩ := isL.hd hR.l1
      refine zcVi (As := []) (rest := [.int (nI 0), .ref sq, .ref sq]) ⟨hx, hb, hml, hown, hts⟩ (c_size l D ty A u C ma t0 mi 1 0 n1 (ma 9) hR.l1) (cwV 0 hts gX12_count_Jx4a65c_size_8abf5 rfl rfl rfl (by decide +kernel) ⟨Nat.le_of_ble_eq_true rfl, Nat.le_of_ble_eq_true rfl⟩) (mI_blind) (mI_preN hM hK hMS hS) (va_recv hK ((hM.later hS).Pa huz_7 rfl hCz_7) (ci := 0) (q0 := 0) rfl rfl) rfl hl.1 rfl (Nat.le_of_ble_eq_true rfl) dX12_count_115 ⟨Nat.le_of_ble_eq_true rfl, Nat.le_of_ble_eq_true rfl⟩ (fun r_8 hr_8 => ?_)
      subst hr_8
      refine zast hx hb hK hP hD hS 0 0 rfl rfl (i := 0) (by omega) (by decide) dX12_count_118 (fun H locs hP hS => ?_)
      have hP : va_P D vwCl [(sq, eI (ty 0) 9 (upd (fun _ => 0) 0 (nI n1)))] H := hP
      have hD : va_D (fun q => s.heap.size ≤ q) [(sq, eI (ty 0) 9 (upd (fun _ => 0) 0 (nI n1)))] := D1u hD
      refine lv_dup hx hb dX12_count_119 rfl ?_
      refine lv_iconst (v := nI 1) hx hb dX12_count_120 (by decide) ?_
      refine lv_iload_n hx hb dX12_count_121 rfl (lv_at hl 3 rfl) ?_
      refine zast hx hb hK hP hD hS 0 0 rfl rfl (i := 1) (by omega) (by decide) dX12_count_122 (fun H locs hP hS => ?_)
      have hP : va_P D vwCl [(sq, eI (ty 0) 9 (upd (upd (fun _ => 0) 0 (nI n1)) 1 (sumN (g 8) n1)))] H := hP
      have hD : va_D (fun q => s.heap.size ≤ q) [(sq, eI (ty 0) 9 (upd (upd (fun _ => 0) 0 (nI n1)) 1 (sumN (g 8) n1)))] := D1u hD
      refine lv_dup hx hb dX12_count_123 rfl ?_
      refine lv_iconst (v := nI 2) hx hb dX12_count_124 (by decide) ?_
      refine lv_aload_n hx hb dX12_count_125 rfl (lv_at hl 4 rfl) ?_
      refine va_get hx hb hts hinX12 hown hK ((hM.later hS).Pa hR.o.1 rfl hR.o.2) 0 rfl rfl 2 (by decide) (hk3) (fun _ h9 => h9) rfl dX12_count_126 ?_
      obtain ⟨huz_9, hnz_9, mz_9, bz_9, hCz_9⟩ := isL.hd hR.l3
      refine zcVi (As := []) (rest := [.int (nI 2), .ref sq, .ref sq]) ⟨hx, hb, hml, hown, hts⟩ (c_size l D ty A u C ma t0 mi 3 0 n2 (ma 24) hR.l3) (cwV 0 hts gX12_count_Jx4a65c_size_8abf5 rfl rfl rfl (by decide +kernel) ⟨Nat.le_of_ble_eq_true rfl, Nat.le_of_ble_eq_true rfl⟩) (mI_blind) (mI_preN hM hK hMS hS) (va_recv hK ((hM.later hS).Pa huz_9 rfl hCz_9) (ci := 0) (q0 := 0) rfl rfl) rfl hl.1 rfl (Nat.le_of_ble_eq_true rfl) dX12_count_129 ⟨Nat.le_of_ble_eq_true rfl, Nat.le_of_ble_eq_true rfl⟩ (fun r_10 hr_10 => ?_)
      subst hr_10
      refine zast hx hb hK hP hD hS 0 0 rfl rfl (i := 2) (by omega) (by decide) dX12_count_132 (fun H locs hP hS => ?_)
      have hP : va_P D vwCl [(sq, eI (ty 0) 9 (upd (upd (upd (fun _ => 0) 0 (nI n1)) 1 (sumN (g 8) n1)) 2 (nI n2)))] H := hP
      have hD : va_D (fun q => s.heap.size ≤ q) [(sq, eI (ty 0) 9 (upd (upd (upd (fun _ => 0) 0 (nI n1)) 1 (sumN (g 8) n1)) 2 (nI n2)))] := D1u hD
      refine lv_dup hx hb dX12_count_133 rfl ?_
      refine lv_iconst (v := nI 3) hx hb dX12_count_134 (by decide) ?_
      refine lv_aload_n hx hb dX12_count_135 rfl (lv_at hl 4 rfl) ?_
      refine va_get hx hb hts hinX12 hown hK ((hM.later hS).Pa hR.o.1 rfl hR.o.2) 0 rfl rfl 3 (by decide) (hk4) (fun _ h9 => h9) rfl dX12_count_136 ?_
      obtain ⟨huz_11, hnz_11, mz_11, bz_11, hCz_11⟩ := isL.hd hR.l5
      refine zcVi (As := []) (rest := [.int (nI 3), .ref sq, .ref sq]) ⟨hx, hb, hml, hown, hts⟩ (c_size l D ty A u C ma t0 mi 5 0 n4 (ma 25) hR.l5) (cwV 0 hts gX12_count_Jx4a65c_size_8abf5 rfl rfl rfl (by decide +kernel) ⟨Nat.le_of_ble_eq_true rfl, Nat.le_of_ble_eq_true rfl⟩) (mI_blind) (mI_preN hM hK hMS hS) (va_recv hK ((hM.later hS).Pa huz_11 rfl hCz_11) (ci := 0) (q0 := 0) rfl rfl) rfl hl.1 rfl (Nat.le_of_ble_eq_true rfl) dX12_count_139 ⟨Nat.le_of_ble_eq_true rfl, Nat.le_of_ble_eq_true rfl⟩ (fun r_12 hr_12 => ?_)
      subst hr_12
      refine zast hx hb hK hP hD hS 0 0 rfl rfl (i := 3) (by omega) (by decide) dX12_count_142 (fun H locs hP hS => ?_)
      have hP : va_P D vwCl [(sq, eI (ty 0) 9 (upd (upd (upd (upd (fun _ => 0) 0 (nI n1)) 1 (sumN (g 8) n1)) 2 (nI n2)) 3 (nI n4)))] H := hP
      have hD : va_D (fun q => s.heap.size ≤ q) [(sq, eI (ty 0) 9 (upd (upd (upd (upd (fun _ => 0) 0 (nI n1)) 1 (sumN (g 8) n1)) 2 (nI n2)) 3 (nI n4)))] := D1u hD
      refine lv_dup hx hb dX12_count_143 rfl ?_
      refine lv_iconst (v := nI 4) hx hb dX12_count_144 (by decide) ?_
      refine lv_aload_n hx hb dX12_count_145 rfl (lv_at hl 4 rfl) ?_
      refine va_get hx hb hts hinX12 hown hK ((hM.later hS).Pa hR.o.1 rfl hR.o.2) 0 rfl rfl 4 (by decide) (hk2) (fun _ h9 => h9) rfl dX12_count_146 ?_
      obtain ⟨huz_13, hnz_13, mz_13, bz_13, hCz_13⟩ := isL.hd hR.l7
      refine zcVi (As := []) (rest := [.int (nI 4), .ref sq, .ref sq]) ⟨hx, hb, hml, hown, hts⟩ (c_size l D ty A u C ma t0 mi 7 0 n5 (ma 26) hR.l7) (cwV 0 hts gX12_count_Jx4a65c_size_8abf5 rfl rfl rfl (by decide +kernel) ⟨Nat.le_of_ble_eq_true rfl, Nat.le_of_ble_eq_true rfl⟩) (mI_blind) (mI_preN hM hK hMS hS) (va_recv hK ((hM.later hS).Pa huz_13 rfl hCz_13) (ci := 0) (q0 := 0) rfl rfl) rfl hl.1 rfl (Nat.le_of_ble_eq_true rfl) dX12_count_149 ⟨Nat.le_of_ble_eq_true rfl, Nat.le_of_ble_eq_true rfl⟩ (fun r_14 hr_14 => ?_)
      subst hr_14
      refine zast hx hb hK hP hD hS 0 0 rfl rfl (i := 4) (by omega) (by decide) dX12_count_152 (fun H locs hP hS => ?_)
      have hP : va_P D vwCl [(sq, eI (ty 0) 9 (upd (upd (upd (upd (upd (fun _ => 0) 0 (nI n1)) 1 (sumN (g 8) n1)) 2 (nI n2)) 3 (nI n4)) 4 (nI n5)))] H := hP
      have hD : va_D (fun q => s.heap.size ≤ q) [(sq, eI (ty 0) 9 (upd (upd (upd (upd (upd (fun _ => 0) 0 (nI n1)) 1 (sumN (g 8) n1)) 2 (nI n2)) 3 (nI n4)) 4 (nI n5)))] := D1u hD
      refine lv_dup hx hb dX12_count_153 rfl ?_
      refine lv_iconst (v := nI 5) hx hb dX12_count_154 (by decide) ?_
      refine lv_iload_n hx hb dX12_count_155 rfl (lv_at hl 0 rfl) ?_
      refine zast hx hb hK hP hD hS 0 0 rfl rfl (i := 5) (by omega) (by decide) dX12_count_156 (fun H locs hP hS => ?_)
      have hP : va_P D vwCl [(sq, eI (ty 0) 9 (upd (upd (upd (upd (upd (upd (fun _ => 0) 0 (nI n1)) 1 (sumN (g 8) n1)) 2 (nI n2)) 3 (nI n4)) 4 (nI n5)) 5 (sumN (fCh g (-1) (-1)) n5)))] H := hP
      have hD : va_D (fun q => s.heap.size ≤ q) [(sq, eI (ty 0) 9 (upd (upd (upd (upd (upd (upd (fun _ => 0) 0 (nI n1)) 1 (sumN (g 8) n1)) 2 (nI n2)) 3 (nI n4)) 4 (nI n5)) 5 (sumN (fCh g (-1) (-1)) n5)))] := D1u hD
      refine lv_dup hx hb dX12_count_157 rfl ?_
      refine lv_bipush (v := nI 6) hx hb dX12_count_158 (by decide) ?_
      refine lv_aload_n hx hb dX12_count_160 rfl (lv_at hl 4 rfl) ?_
      have hFc : ∀ q : Nat, H.size ≤ q → s.heap.size ≤ q := fun q h => Nat.le_trans hS.1 h
      refine va_calli (va_runV (As := []) (rest := [.int (nI 6), .ref sq, .ref sq]) ⟨hx, hb, hml, hown, hts⟩ (c_X12_credits l D ty A u C ma t0 mi g n1 n2 nL n4 n5 th rep bro hR H.size) (cwV 0 hts gX12_count_X12_credits rfl rfl rfl (by decide +kernel) ⟨Nat.le_of_ble_eq_true rfl, Nat.le_of_ble_eq_true rfl⟩) ⟨zBl mIs_blind, (va_recv hK ((hM.later hS).Pa hR.o.1 rfl hR.o.2) (ci := 13) (q0 := 0) rfl rfl), fun U h1 h2 => ⟨rfl, mI_preN hM hK hMS hS U h1 h2, by rw [h1]⟩⟩ rfl rfl hl.1 rfl (lv_room (Nat.le_of_ble_eq_true rfl)) dX12_count_161 ⟨Nat.le_of_ble_eq_true rfl, Nat.le_of_ble_eq_true rfl⟩) hS (fun q _ h => hFc q h) hFc (fun r_15 u9 t H1 locs ht hvm hw hB9 hz1 hk1 hS => ?_)
      have ho9 : ∀ q : Nat, q < H.size → H1[q]? = H[q]? := fun q hq => hk1 q hq (Nat.not_le.mpr hq)
      have hP : va_P D vwCl [(sq, eI (ty 0) 9 (upd (upd (upd (upd (upd (upd (fun _ => 0) 0 (nI n1)) 1 (sumN (g 8) n1)) 2 (nI n2)) 3 (nI n4)) 4 (nI n5)) 5 (sumN (fCh g (-1) (-1)) n5)))] H1 := va_P1 ((hP 0 _ rfl).kept (ho9 _ (hP 0 _ rfl).lt))
      clear hk1 hz1 hvm ht hB9
      clear t
      clear ho9
      generalize H1 = H at hP hS ⊢
      have hr_15 := hw
      subst hr_15
      refine zast hx hb hK hP hD hS 0 0 rfl rfl (i := 6) (by omega) (by decide) dX12_count_164 (fun H locs hP hS => ?_)
      have hP : va_P D vwCl [(sq, eI (ty 0) 9 (upd (upd (upd (upd (upd (upd (upd (fun _ => 0) 0 (nI n1)) 1 (sumN (g 8) n1)) 2 (nI n2)) 3 (nI n4)) 4 (nI n5)) 5 (sumN (fCh g (-1) (-1)) n5)) 6 (sumN (fCr g (-1) (-1) 21) n5)))] H := hP
      have hD : va_D (fun q => s.heap.size ≤ q) [(sq, eI (ty 0) 9 (upd (upd (upd (upd (upd (upd (upd (fun _ => 0) 0 (nI n1)) 1 (sumN (g 8) n1)) 2 (nI n2)) 3 (nI n4)) 4 (nI n5)) 5 (sumN (fCh g (-1) (-1)) n5)) 6 (sumN (fCr g (-1) (-1) 21) n5)))] := D1u hD
      refine lv_dup hx hb dX12_count_165 rfl ?_
      refine lv_bipush (v := nI 7) hx hb dX12_count_166 (by decide) ?_
      refine lv_iload hx hb dX12_count_168 (lv_at hl 1 rfl) ?_
      refine zast hx hb hK hP hD hS 0 0 rfl rfl (i := 7) (by omega) (by decide) dX12_count_170 (fun H locs hP hS => ?_)
      have hP : va_P D vwCl [(sq, eI (ty 0) 9 (upd (upd (upd (upd (upd (upd (upd (upd (fun _ => 0) 0 (nI n1)) 1 (sumN (g 8) n1)) 2 (nI n2)) 3 (nI n4)) 4 (nI n5)) 5 (sumN (fCh g (-1) (-1)) n5)) 6 (sumN (fCr g (-1) (-1) 21) n5)) 7 (sumN (fBil g (-1)) n5)))] H := hP
      have hD : va_D (fun q => s.heap.size ≤ q) [(sq, eI (ty 0) 9 (upd (upd (upd (upd (upd (upd (upd (upd (fun _ => 0) 0 (nI n1)) 1 (sumN (g 8) n1)) 2 (nI n2)) 3 (nI n4)) 4 (nI n5)) 5 (sumN (fCh g (-1) (-1)) n5)) 6 (sumN (fCr g (-1) (-1) 21) n5)) 7 (sumN (fBil g (-1)) n5)))] := D1u hD
      refine lv_dup hx hb dX12_count_171 rfl ?_
      refine lv_bipush (v := nI 8) hx hb dX12_count_172 (by decide) ?_
      refine lv_aload_n hx hb dX12_count_174 rfl (lv_at hl 4 rfl) ?_
      refine va_get hx hb hts hinX12 hown hK ((hM.later hS).Pa hR.o.1 rfl hR.o.2) 0 rfl rfl 5 (by decide) (hk5) (fun _ h9 => h9) rfl dX12_count_175 ?_
      refine zast hx hb hK hP hD hS 0 0 rfl rfl (i := 8) (by omega) (by decide) dX12_count_178 (fun H locs hP hS => ?_)
      have hP : va_P D vwCl [(sq, eI (ty 0) 9 (upd (upd (upd (upd (upd (upd (upd (upd (upd (fun _ => 0) 0 (nI n1)) 1 (sumN (g 8) n1)) 2 (nI n2)) 3 (nI n4)) 4 (nI n5)) 5 (sumN (fCh g (-1) (-1)) n5)) 6 (sumN (fCr g (-1) (-1) 21) n5)) 7 (sumN (fBil g (-1)) n5)) 8 (g 0 0)))] H := hP
      have hD : va_D (fun q => s.heap.size ≤ q) [(sq, eI (ty 0) 9 (upd (upd (upd (upd (upd (upd (upd (upd (upd (fun _ => 0) 0 (nI n1)) 1 (sumN (g 8) n1)) 2 (nI n2)) 3 (nI n4)) 4 (nI n5)) 5 (sumN (fCh g (-1) (-1)) n5)) 6 (sumN (fCr g (-1) (-1) 21) n5)) 7 (sumN (fBil g (-1)) n5)) 8 (g 0 0)))] := D1u hD
      refine lv_astore (lv' := [(5, .ref sq), (3, .int (sumN (fCh g (-1) (-1)) n5)), (4, .int (sumN (fBil g (-1)) n5)), (2, .int (sumN (g 8) n1)), (0, .ref (ma 0 0)), (1, .int (nI w0))]) hx hb dX12_count_179 hl (by decide) rfl (fun ls hl => ?_)
      refine lv_aload hx hb dX12_count_181 (lv_at hl 0 rfl) ?_
      refine lv_iload_n hx hb dX12_count_183 rfl (lv_at hl 5 rfl) ?_
      refine zald hx hb hK hP 0 0 rfl rfl (i := w0) (by omega) (by decide) dX12_count_184 ?_
      have h9 : (upd (upd (upd (upd (upd (upd (upd (upd (upd (fun _ => 0) 0 (nI n1)) 1 (sumN (g 8) n1)) 2 (nI n2)) 3 (nI n4)) 4 (nI n5)) 5 (sumN (fCh g (-1) (-1)) n5)) 6 (sumN (fCr g (-1) (-1) 21) n5)) 7 (sumN (fBil g (-1)) n5)) 8 (g 0 0)) w0 = manyN g n1 n5 w0 := by
        rcases (show w0 = 0 ∨ w0 = 1 ∨ w0 = 2 ∨ w0 = 3 ∨ w0 = 4 ∨ w0 = 5 ∨ w0 = 6 ∨ w0 = 7 ∨ w0 = 8 by omega) with rfl | rfl | rfl | rfl | rfl | rfl | rfl | rfl | rfl
        · exact hR.I.c1.symm
        · exact rfl
        · exact hR.I.c2.symm
        · exact hR.I.c4.symm
        · exact hR.I.c5.symm
        · exact rfl
        · exact rfl
        · exact rfl
        · exact rfl
      refine W.widen (k := 58) (n := 353) (by omega) (by omega) ?_
      exact W.iret (v := (upd (upd (upd (upd (upd (upd (upd (upd (upd (fun _ => 0) 0 (nI n1)) 1 (sumN (g 8) n1)) 2 (nI n2)) 3 (nI n4)) 4 (nI n5)) 5 (sumN (fCh g (-1) (-1)) n5)) 6 (sumN (fCr g (-1) (-1) 21) n5)) 7 (sumN (fBil g (-1)) n5)) 8 (g 0 0)) w0) hx hb hr (fun t ht hW => ⟨⟨_, (), rfl, h9, trivial⟩, hS.F ht⟩) hS.2.2 dX12_count_185
    · have c_6 := zn_geF (a := j) (b := n5) (by omega) (by omega) c_6
      refine lv_iload_n hx hb dX12_count_61 rfl (lv_at hl 0 rfl) ?_
      refine lv_aload_n hx hb dX12_count_62 rfl (lv_at hl 4 rfl) ?_
      refine va_get hx hb hts hinX12 hown hK ((hM.later hS).Pa hR.o.1 rfl hR.o.2) 0 rfl rfl 4 (by decide) (hk2) (fun _ h9 => h9) rfl dX12_count_63 ?_
      refine lv_iload hx hb dX12_count_66 (lv_at hl 2 rfl) ?_
      obtain ⟨huz_16, hnz_16, mz_16, bz_16, hCz_16⟩ := isL.hd hR.l7
      refine zcVr (x := .ref (ma 26 j)) (As := [.int (nI j)]) (rest := [.int (sumN (fCh g (-1) (-1)) j)]) ⟨hx, hb, hml, hown, hts⟩ (c_get l D ty A u C ma t0 mi 7 0 n5 (ma 26) hR.l7 j (by omega)) (cwV 1 hts gX12_count_Jx4a65c_get_915e3 rfl rfl rfl (by decide +kernel) ⟨Nat.le_of_ble_eq_true rfl, Nat.le_of_ble_eq_true rfl⟩) (mI_blind) (mI_preN hM hK hMS hS) (va_recv hK ((hM.later hS).Pa huz_16 rfl hCz_16) (ci := 0) (q0 := 0) rfl rfl) rfl hl.1 rfl (Nat.le_of_ble_eq_true rfl) dX12_count_68 ⟨Nat.le_of_ble_eq_true rfl, Nat.le_of_ble_eq_true rfl⟩ ?_
      refine va_castS hx hb hown (hk6) ((hK.1 10 _ rfl).2) (va_recv hK ((hM.later hS).Pa (hR.r26 (r := j) (by omega)).1 rfl (hR.r26 (r := j) (by omega)).2) (ci := 10) (q0 := 0) rfl rfl) dX12_count_71 ?_
      refine zcVi (As := []) (rest := [.int (sumN (fCh g (-1) (-1)) j)]) ⟨hx, hb, hml, hown, hts⟩ (c_X9_charge l D ty A u C ma t0 mi g n1 n2 nL n4 n5 th rep bro hR j (by omega)) (cwV 0 hts gX12_count_X9_charge rfl rfl rfl (by decide +kernel) ⟨Nat.le_of_ble_eq_true rfl, Nat.le_of_ble_eq_true rfl⟩) (mI_blind) (mI_preN hM hK hMS hS) (va_recv hK ((hM.later hS).Pa (hR.r26 (r := j) (by omega)).1 rfl (hR.r26 (r := j) (by omega)).2) (ci := 10) (q0 := 0) rfl rfl) rfl hl.1 rfl (Nat.le_of_ble_eq_true rfl) dX12_count_74 ⟨Nat.le_of_ble_eq_true rfl, Nat.le_of_ble_eq_true rfl⟩ (fun r_18 hr_18 => ?_)
      subst hr_18
      refine lv_iadd hx hb dX12_count_77 ?_
      refine lv_istore_n (lv' := [(3, .int ((sumN (fCh g (-1) (-1)) j) + (chN g j))), (4, .int (sumN (fBil g (-1)) j)), (5, .int (nI j)), (2, .int (sumN (g 8) n1)), (0, .ref (ma 0 0)), (1, .int (nI w0))]) hx hb dX12_count_78 rfl hl (by decide) rfl (fun ls hl => ?_)
      refine lv_iload hx hb dX12_count_79 (lv_at hl 1 rfl) ?_
      refine lv_aload_n hx hb dX12_count_81 rfl (lv_at hl 4 rfl) ?_
      refine va_get hx hb hts hinX12 hown hK ((hM.later hS).Pa hR.o.1 rfl hR.o.2) 0 rfl rfl 4 (by decide) (hk2) (fun _ h9 => h9) rfl dX12_count_82 ?_
      refine lv_iload hx hb dX12_count_85 (lv_at hl 2 rfl) ?_
      obtain ⟨huz_19, hnz_19, mz_19, bz_19, hCz_19⟩ := isL.hd hR.l7
      refine zcVr (x := .ref (ma 26 j)) (As := [.int (nI j)]) (rest := [.int (sumN (fBil g (-1)) j)]) ⟨hx, hb, hml, hown, hts⟩ (c_get l D ty A u C ma t0 mi 7 0 n5 (ma 26) hR.l7 j (by omega)) (cwV 1 hts gX12_count_Jx4a65c_get_915e3 rfl rfl rfl (by decide +kernel) ⟨Nat.le_of_ble_eq_true rfl, Nat.le_of_ble_eq_true rfl⟩) (mI_blind) (mI_preN hM hK hMS hS) (va_recv hK ((hM.later hS).Pa huz_19 rfl hCz_19) (ci := 0) (q0 := 0) rfl rfl) rfl hl.1 rfl (Nat.le_of_ble_eq_true rfl) dX12_count_87 ⟨Nat.le_of_ble_eq_true rfl, Nat.le_of_ble_eq_true rfl⟩ ?_
      refine va_castS hx hb hown (hk6) ((hK.1 10 _ rfl).2) (va_recv hK ((hM.later hS).Pa (hR.r26 (r := j) (by omega)).1 rfl (hR.r26 (r := j) (by omega)).2) (ci := 10) (q0 := 0) rfl rfl) dX12_count_90 ?_
      refine va_get hx hb hts hinX9 hown hK ((hM.later hS).Pa (hR.r26 (r := j) (by omega)).1 rfl (hR.r26 (r := j) (by omega)).2) 0 rfl rfl 9 (by decide) (hk8) (fun _ h9 => h9) rfl dX12_count_93 ?_
      refine lv_iadd hx hb dX12_count_96 ?_
      refine lv_istore (lv' := [(4, .int ((sumN (fBil g (-1)) j) + (g 37 j))), (3, .int ((sumN (fCh g (-1) (-1)) j) + (chN g j))), (5, .int (nI j)), (2, .int (sumN (g 8) n1)), (0, .ref (ma 0 0)), (1, .int (nI w0))]) hx hb dX12_count_97 hl (by decide) rfl (fun ls hl => ?_)
      refine lv_iinc (v := nI (j + 1)) (lv' := [(5, .int (nI (j + 1))), (4, .int ((sumN (fBil g (-1)) j) + (g 37 j))), (3, .int ((sumN (fCh g (-1) (-1)) j) + (chN g j))), (2, .int (sumN (g 8) n1)), (0, .ref (ma 0 0)), (1, .int (nI w0))]) hx hb dX12_count_99 hl (k := 2) rfl (nI_add j 1) (by decide) rfl (fun ls hl => ?_)
      refine lv_goto (tgt := 49) hx hb dX12_count_102 (by decide) ?_
      refine ih_j () ls (by omega) (show lv_has ls 6 [(3, .int (sumN (fCh g (-1) (-1)) (j + 1))), (4, .int (sumN (fBil g (-1)) (j + 1))), (5, .int (nI (j + 1))), (2, .int (sumN (g 8) n1)), (0, .ref (ma 0 0)), (1, .int (nI w0))] from ?_)
      rw [show sumN (fCh g (-1) (-1)) (j + 1) = (sumN (fCh g (-1) (-1)) j) + (chN g j) from congrArg (fun z => (sumN (fCh g (-1) (-1)) j) +  z) (show (fCh g (-1) (-1)) j = (chN g j) from by unfold fCh; rw [ofB_a]; rfl)]
      rw [show sumN (fBil g (-1)) (j + 1) = (sumN (fBil g (-1)) j) + (g 37 j) from congrArg (fun z => (sumN (fBil g (-1)) j) +  z) (show (fBil g (-1)) j = (g 37 j) from by unfold fBil; rw [ofB_a]; rfl)]
      exact lv_sub hl [2, 1, 0, 3, 4, 5] rfl
  · have c_3 := zn_geF (a := k) (b := n1) (by omega) (by omega) c_3
    refine lv_iload_n hx hb dX12_count_15 rfl (lv_at hl 0 rfl) ?_
    refine lv_aload_n hx hb dX12_count_16 rfl (lv_at hl 2 rfl) ?_
    refine va_get hx hb hts hinX12 hown hK ((hM.later hS).Pa hR.o.1 rfl hR.o.2) 0 rfl rfl 1 (by decide) (hk1) (fun _ h9 => h9) rfl dX12_count_17 ?_
    refine lv_iload_n hx hb dX12_count_20 rfl (lv_at hl 1 rfl) ?_
    obtain ⟨huz_21, hnz_21, mz_21, bz_21, hCz_21⟩ := isL.hd hR.l1
    refine zcVr (x := .ref (ma 9 k)) (As := [.int (nI k)]) (rest := [.int (sumN (g 8) k)]) ⟨hx, hb, hml, hown, hts⟩ (c_get l D ty A u C ma t0 mi 1 0 n1 (ma 9) hR.l1 k (by omega)) (cwV 1 hts gX12_count_Jx4a65c_get_915e3 rfl rfl rfl (by decide +kernel) ⟨Nat.le_of_ble_eq_true rfl, Nat.le_of_ble_eq_true rfl⟩) (mI_blind) (mI_preN hM hK hMS hS) (va_recv hK ((hM.later hS).Pa huz_21 rfl hCz_21) (ci := 0) (q0 := 0) rfl rfl) rfl hl.1 rfl (Nat.le_of_ble_eq_true rfl) dX12_count_21 ⟨Nat.le_of_ble_eq_true rfl, Nat.le_of_ble_eq_true rfl⟩ ?_
    refine va_castS hx hb hown (hk9) ((hK.1 8 _ rfl).2) (va_recv hK ((hM.later hS).Pa (hR.s9 (i := k) (by omega)).1 rfl (hR.s9 (i := k) (by omega)).2) (ci := 8) (q0 := 0) rfl rfl) dX12_count_24 ?_
    refine va_get hx hb hts hinX7 hown hK ((hM.later hS).Pa (hR.s9 (i := k) (by omega)).1 rfl (hR.s9 (i := k) (by omega)).2) 0 rfl rfl 3 (by decide) (hk11) (fun _ h9 => h9) rfl dX12_count_27 ?_
    obtain ⟨huz_23, hnz_23, mz_23, bz_23, hCz_23⟩ := isL.hd (hR.s12 (i := k) (by omega))
    refine zcVi (As := []) (rest := [.int (sumN (g 8) k)]) ⟨hx, hb, hml, hown, hts⟩ (c_size l D ty A u C ma t0 mi 12 k (nV g k) (fun v => ma 15 (k * 6 + v)) (hR.s12 (i := k) (by omega))) (cwV 0 hts gX12_count_Jx4a65c_size_8abf5 rfl rfl rfl (by decide +kernel) ⟨Nat.le_of_ble_eq_true rfl, Nat.le_of_ble_eq_true rfl⟩) (mI_blind) (mI_preN hM hK hMS hS) (va_recv hK ((hM.later hS).Pa huz_23 rfl hCz_23) (ci := 0) (q0 := 0) rfl rfl) rfl hl.1 rfl (Nat.le_of_ble_eq_true rfl) dX12_count_30 ⟨Nat.le_of_ble_eq_true rfl, Nat.le_of_ble_eq_true rfl⟩ (fun r_24 hr_24 => ?_)
    subst hr_24
    refine lv_iadd hx hb dX12_count_33 ?_
    refine lv_istore_n (lv' := [(2, .int ((sumN (g 8) k) + (nI (nV g k)))), (3, .int (nI k)), (0, .ref (ma 0 0)), (1, .int (nI w0))]) hx hb dX12_count_34 rfl hl (by decide) rfl (fun ls hl => ?_)
    refine lv_iinc (v := nI (k + 1)) (lv' := [(3, .int (nI (k + 1))), (2, .int ((sumN (g 8) k) + (nI (nV g k)))), (0, .ref (ma 0 0)), (1, .int (nI w0))]) hx hb dX12_count_35 hl (k := 1) rfl (nI_add k 1) (by decide) rfl (fun ls hl => ?_)
    refine lv_goto (tgt := 4) hx hb dX12_count_38 (by decide) ?_
    refine ih_k () ls (by omega) (show lv_has ls 6 [(2, .int (sumN (g 8) (k + 1))), (3, .int (nI (k + 1))), (0, .ref (ma 0 0)), (1, .int (nI w0))] from ?_)
    rw [show sumN (g 8) (k + 1) = (sumN (g 8) k) + (nI (nV g k)) from congrArg (fun z => (sumN (g 8) k) +  z) (show (g 8) k = (nI (nV g k)) from (hR.I.v7 (by omega)).1)]
    exact lv_sub hl [1, 0, 2, 3] rfl
set_option maxHeartbeats 600000 in
set_option maxRecDepth 100000 in
theorem c_X12_ofReadNow (l : Launch) (D : va_G) (ty : Nat → ClassId) (A : Nat → Prop) (u : Nat → Nat → Prop) (C : Nat → Nat → va_E) (ma : Nat → Nat → Nat) (t0 mi : Nat) (g : Nat → Nat → Int32) (n1 n2 nL n4 n5 : Nat) (th : Int32) (rep bro : Nat → Nat → Int32) (hR : mR ty t0 g n1 n2 nL n4 n5 th rep bro u C ma) (ah : Nat) (sz : Nat) (r0 : Nat) (hr0 : r0 < n5) (w0 : Nat) (hw : w0 < 12) : Met l yX12_ofReadNow wsX12_ofReadNow ({ frames := 2, cells := 1, slots := 12, locals := 40 }) (va_Pc [.ref ah, .ref (ma 26 r0), .int (nI w0)] (mIhs D ty A u C ma t0 mi ah (g 21) sz)) (mkQ sz (fun v_ => v_ = ofReadN g r0 w0)) 1 12 (fun q => sz ≤ q) := by
  refine zMet (cc := cX12_ofReadNow) (maxL := 4) (ret := (some .int)) (by decide) rfl (Nat.le_of_ble_eq_true rfl) ?_
  intro p e s m below meth c hx hb hr hts hown hlocks hml hB ls hl
  obtain ⟨⟨⟨hM, hK, hMS⟩, ⟨hmb, hmd, hA⟩⟩, hsz⟩ := hB
  subst hsz
  have hS : va_S (fun q => s.heap.size ≤ q) s.heap s.heap [] := va_S.rf
  have hbn := hR.I.b1
  have hbs := hR.I.b2
  have hbl := hR.I.bL
  have hbc := hR.I.b4
  have hbr := hR.I.b5
  have hl : lv_has ls 4 [(0, .ref ah), (1, .ref (ma 26 r0)), (2, .int (nI w0))] := hl
  have hinX9 : ∀ w ∈ wsX90, w ∈ wsX12_ofReadNow := by decide +kernel
  have hk1 := hts (.fieldLink RX12 217 "DatamarketDeskModel$Read" "reader" "I") (by decide +kernel)
  have hk2 := hts (.fieldLink RX12 175 "DatamarketDeskModel$Read" "set" "I") (by decide +kernel)
  have hk3 := hts (.fieldLink RX12 256 "DatamarketDeskModel$Read" "version" "I") (by decide +kernel)
  have hk4 := hts (.fieldLink RX12 257 "DatamarketDeskModel$Read" "fields" "I") (by decide +kernel)
  have hk5 := hts (.fieldLink RX12 258 "DatamarketDeskModel$Read" "rows" "I") (by decide +kernel)
  have hk6 := hts (.fieldLink RX12 220 "DatamarketDeskModel$Read" "day" "I") (by decide +kernel)
  have hk7 := hts (.fieldLink RX12 239 "DatamarketDeskModel$Read" "tier" "I") (by decide +kernel)
  have hk8 := hts (.fieldLink RX12 260 "DatamarketDeskModel$Read" "billed" "I") (by decide +kernel)
  have hk9 := hts (.fieldLink RX12 263 "DatamarketDeskModel$Read" "purpose" "I") (by decide +kernel)
  refine lv_bipush (v := nI 12) hx hb dX12_ofReadNow_0 (by decide) ?_
  refine mnewa1 hx hb (hts (.arrayClass .int) (by decide +kernel)) hK hS (fun q h => Nat.le_trans hS.1 h) (n := 12) (N' := 12) (by omega) rfl (by omega) (Nat.le_of_ble_eq_true rfl) (Nat.le_of_ble_eq_true rfl) dX12_ofReadNow_2 (fun H sq hP hD hS ho => ?_)
  refine lv_dup hx hb dX12_ofReadNow_4 rfl ?_
  refine lv_iconst (v := nI 0) hx hb dX12_ofReadNow_5 (by decide) ?_
  refine lv_aload_n hx hb dX12_ofReadNow_6 rfl (lv_at hl 1 rfl) ?_
  refine va_get hx hb hts hinX9 hown hK ((hM.later hS).Pa (hR.r26 (r := r0) (by omega)).1 rfl (hR.r26 (r := r0) (by omega)).2) 0 rfl rfl 0 (by decide) (hk1) (fun _ h9 => h9) rfl dX12_ofReadNow_7 ?_
  refine zast hx hb hK hP hD hS 0 0 rfl rfl (i := 0) (by omega) (by decide) dX12_ofReadNow_10 (fun H locs hP hS => ?_)
  have hP : va_P D vwCl [(sq, eI (ty 0) 12 (upd (fun _ => 0) 0 (g 29 r0)))] H := hP
  have hD : va_D (fun q => s.heap.size ≤ q) [(sq, eI (ty 0) 12 (upd (fun _ => 0) 0 (g 29 r0)))] := D1u hD
  refine lv_dup hx hb dX12_ofReadNow_11 rfl ?_
  refine lv_iconst (v := nI 1) hx hb dX12_ofReadNow_12 (by decide) ?_
  refine lv_aload_n hx hb dX12_ofReadNow_13 rfl (lv_at hl 1 rfl) ?_
  refine va_get hx hb hts hinX9 hown hK ((hM.later hS).Pa (hR.r26 (r := r0) (by omega)).1 rfl (hR.r26 (r := r0) (by omega)).2) 0 rfl rfl 1 (by decide) (hk2) (fun _ h9 => h9) rfl dX12_ofReadNow_14 ?_
  refine zast hx hb hK hP hD hS 0 0 rfl rfl (i := 1) (by omega) (by decide) dX12_ofReadNow_17 (fun H locs hP hS => ?_)
  have hP : va_P D vwCl [(sq, eI (ty 0) 12 (upd (upd (fun _ => 0) 0 (g 29 r0)) 1 (g 30 r0)))] H := hP
  have hD : va_D (fun q => s.heap.size ≤ q) [(sq, eI (ty 0) 12 (upd (upd (fun _ => 0) 0 (g 29 r0)) 1 (g 30 r0)))] := D1u hD
  refine lv_dup hx hb dX12_ofReadNow_18 rfl ?_
  refine lv_iconst (v := nI 2) hx hb dX12_ofReadNow_19 (by decide) ?_
  refine lv_aload_n hx hb dX12_ofReadNow_20 rfl (lv_at hl 1 rfl) ?_
  refine va_get hx hb hts hinX9 hown hK ((hM.later hS).Pa (hR.r26 (r := r0) (by omega)).1 rfl (hR.r26 (r := r0) (by omega)).2) 0 rfl rfl 2 (by decide) (hk3) (fun _ h9 => h9) rfl dX12_ofReadNow_21 ?_
  refine zast hx hb hK hP hD hS 0 0 rfl rfl (i := 2) (by omega) (by decide) dX12_ofReadNow_24 (fun H locs hP hS => ?_)
  have hP : va_P D vwCl [(sq, eI (ty 0) 12 (upd (upd (upd (fun _ => 0) 0 (g 29 r0)) 1 (g 30 r0)) 2 (g 31 r0)))] H := hP
  have hD : va_D (fun q => s.heap.size ≤ q) [(sq, eI (ty 0) 12 (upd (upd (upd (fun _ => 0) 0 (g 29 r0)) 1 (g 30 r0)) 2 (g 31 r0)))] := D1u hD
  refine lv_dup hx hb dX12_ofReadNow_25 rfl ?_
  refine lv_iconst (v := nI 3) hx hb dX12_ofReadNow_26 (by decide) ?_
  refine lv_aload_n hx hb dX12_ofReadNow_27 rfl (lv_at hl 1 rfl) ?_
  refine va_get hx hb hts hinX9 hown hK ((hM.later hS).Pa (hR.r26 (r := r0) (by omega)).1 rfl (hR.r26 (r := r0) (by omega)).2) 0 rfl rfl 3 (by decide) (hk4) (fun _ h9 => h9) rfl dX12_ofReadNow_28 ?_
  refine zast hx hb hK hP hD hS 0 0 rfl rfl (i := 3) (by omega) (by decide) dX12_ofReadNow_31 (fun H locs hP hS => ?_)
  have hP : va_P D vwCl [(sq, eI (ty 0) 12 (upd (upd (upd (upd (fun _ => 0) 0 (g 29 r0)) 1 (g 30 r0)) 2 (g 31 r0)) 3 (g 32 r0)))] H := hP
  have hD : va_D (fun q => s.heap.size ≤ q) [(sq, eI (ty 0) 12 (upd (upd (upd (upd (fun _ => 0) 0 (g 29 r0)) 1 (g 30 r0)) 2 (g 31 r0)) 3 (g 32 r0)))] := D1u hD
  refine lv_dup hx hb dX12_ofReadNow_32 rfl ?_
  refine lv_iconst (v := nI 4) hx hb dX12_ofReadNow_33 (by decide) ?_
  refine lv_aload_n hx hb dX12_ofReadNow_34 rfl (lv_at hl 1 rfl) ?_
  refine va_get hx hb hts hinX9 hown hK ((hM.later hS).Pa (hR.r26 (r := r0) (by omega)).1 rfl (hR.r26 (r := r0) (by omega)).2) 0 rfl rfl 4 (by decide) (hk5) (fun _ h9 => h9) rfl dX12_ofReadNow_35 ?_
  refine zast hx hb hK hP hD hS 0 0 rfl rfl (i := 4) (by omega) (by decide) dX12_ofReadNow_38 (fun H locs hP hS => ?_)
  have hP : va_P D vwCl [(sq, eI (ty 0) 12 (upd (upd (upd (upd (upd (fun _ => 0) 0 (g 29 r0)) 1 (g 30 r0)) 2 (g 31 r0)) 3 (g 32 r0)) 4 (g 33 r0)))] H := hP
  have hD : va_D (fun q => s.heap.size ≤ q) [(sq, eI (ty 0) 12 (upd (upd (upd (upd (upd (fun _ => 0) 0 (g 29 r0)) 1 (g 30 r0)) 2 (g 31 r0)) 3 (g 32 r0)) 4 (g 33 r0)))] := D1u hD
  refine lv_dup hx hb dX12_ofReadNow_39 rfl ?_
  refine lv_iconst (v := nI 5) hx hb dX12_ofReadNow_40 (by decide) ?_
  refine lv_aload_n hx hb dX12_ofReadNow_41 rfl (lv_at hl 1 rfl) ?_
  refine va_get hx hb hts hinX9 hown hK ((hM.later hS).Pa (hR.r26 (r := r0) (by omega)).1 rfl (hR.r26 (r := r0) (by omega)).2) 0 rfl rfl 5 (by decide) (hk6) (fun _ h9 => h9) rfl dX12_ofReadNow_42 ?_
  refine zast hx hb hK hP hD hS 0 0 rfl rfl (i := 5) (by omega) (by decide) dX12_ofReadNow_45 (fun H locs hP hS => ?_)
  have hP : va_P D vwCl [(sq, eI (ty 0) 12 (upd (upd (upd (upd (upd (upd (fun _ => 0) 0 (g 29 r0)) 1 (g 30 r0)) 2 (g 31 r0)) 3 (g 32 r0)) 4 (g 33 r0)) 5 (g 35 r0)))] H := hP
  have hD : va_D (fun q => s.heap.size ≤ q) [(sq, eI (ty 0) 12 (upd (upd (upd (upd (upd (upd (fun _ => 0) 0 (g 29 r0)) 1 (g 30 r0)) 2 (g 31 r0)) 3 (g 32 r0)) 4 (g 33 r0)) 5 (g 35 r0)))] := D1u hD
  refine lv_dup hx hb dX12_ofReadNow_46 rfl ?_
  refine lv_bipush (v := nI 6) hx hb dX12_ofReadNow_47 (by decide) ?_
  refine lv_aload_n hx hb dX12_ofReadNow_49 rfl (lv_at hl 1 rfl) ?_
  refine zcVi (As := []) (rest := [.int (nI 6), .ref sq, .ref sq]) ⟨hx, hb, hml, hown, hts⟩ (c_X9_units l D ty A u C ma t0 mi g n1 n2 nL n4 n5 th rep bro hR r0 (by omega)) (cwV 0 hts gX12_ofReadNow_X9_units rfl rfl rfl (by decide +kernel) ⟨Nat.le_of_ble_eq_true rfl, Nat.le_of_ble_eq_true rfl⟩) (mI_blind) (mI_preN hM hK hMS hS) (va_recv hK ((hM.later hS).Pa (hR.r26 (r := r0) (by omega)).1 rfl (hR.r26 (r := r0) (by omega)).2) (ci := 10) (q0 := 0) rfl rfl) rfl hl.1 rfl (Nat.le_of_ble_eq_true rfl) dX12_ofReadNow_50 ⟨Nat.le_of_ble_eq_true rfl, Nat.le_of_ble_eq_true rfl⟩ (fun r_1 hr_1 => ?_)
  subst hr_1
  refine zast hx hb hK hP hD hS 0 0 rfl rfl (i := 6) (by omega) (by decide) dX12_ofReadNow_53 (fun H locs hP hS => ?_)
  have hP : va_P D vwCl [(sq, eI (ty 0) 12 (upd (upd (upd (upd (upd (upd (upd (fun _ => 0) 0 (g 29 r0)) 1 (g 30 r0)) 2 (g 31 r0)) 3 (g 32 r0)) 4 (g 33 r0)) 5 (g 35 r0)) 6 (g 33 r0 * bc (g 32 r0))))] H := hP
  have hD : va_D (fun q => s.heap.size ≤ q) [(sq, eI (ty 0) 12 (upd (upd (upd (upd (upd (upd (upd (fun _ => 0) 0 (g 29 r0)) 1 (g 30 r0)) 2 (g 31 r0)) 3 (g 32 r0)) 4 (g 33 r0)) 5 (g 35 r0)) 6 (g 33 r0 * bc (g 32 r0))))] := D1u hD
  refine lv_dup hx hb dX12_ofReadNow_54 rfl ?_
  refine lv_bipush (v := nI 7) hx hb dX12_ofReadNow_55 (by decide) ?_
  refine lv_aload_n hx hb dX12_ofReadNow_57 rfl (lv_at hl 1 rfl) ?_
  refine va_get hx hb hts hinX9 hown hK ((hM.later hS).Pa (hR.r26 (r := r0) (by omega)).1 rfl (hR.r26 (r := r0) (by omega)).2) 0 rfl rfl 7 (by decide) (hk7) (fun _ h9 => h9) rfl dX12_ofReadNow_58 ?_
  refine zast hx hb hK hP hD hS 0 0 rfl rfl (i := 7) (by omega) (by decide) dX12_ofReadNow_61 (fun H locs hP hS => ?_)
  have hP : va_P D vwCl [(sq, eI (ty 0) 12 (upd (upd (upd (upd (upd (upd (upd (upd (fun _ => 0) 0 (g 29 r0)) 1 (g 30 r0)) 2 (g 31 r0)) 3 (g 32 r0)) 4 (g 33 r0)) 5 (g 35 r0)) 6 (g 33 r0 * bc (g 32 r0))) 7 (g 36 r0)))] H := hP
  have hD : va_D (fun q => s.heap.size ≤ q) [(sq, eI (ty 0) 12 (upd (upd (upd (upd (upd (upd (upd (upd (fun _ => 0) 0 (g 29 r0)) 1 (g 30 r0)) 2 (g 31 r0)) 3 (g 32 r0)) 4 (g 33 r0)) 5 (g 35 r0)) 6 (g 33 r0 * bc (g 32 r0))) 7 (g 36 r0)))] := D1u hD
  refine lv_dup hx hb dX12_ofReadNow_62 rfl ?_
  refine lv_bipush (v := nI 8) hx hb dX12_ofReadNow_63 (by decide) ?_
  refine lv_aload_n hx hb dX12_ofReadNow_65 rfl (lv_at hl 1 rfl) ?_
  refine zcVi (As := []) (rest := [.int (nI 8), .ref sq, .ref sq]) ⟨hx, hb, hml, hown, hts⟩ (c_X9_charge l D ty A u C ma t0 mi g n1 n2 nL n4 n5 th rep bro hR r0 (by omega)) (cwV 0 hts gX12_ofReadNow_X9_charge rfl rfl rfl (by decide +kernel) ⟨Nat.le_of_ble_eq_true rfl, Nat.le_of_ble_eq_true rfl⟩) (mI_blind) (mI_preN hM hK hMS hS) (va_recv hK ((hM.later hS).Pa (hR.r26 (r := r0) (by omega)).1 rfl (hR.r26 (r := r0) (by omega)).2) (ci := 10) (q0 := 0) rfl rfl) rfl hl.1 rfl (Nat.le_of_ble_eq_true rfl) dX12_ofReadNow_66 ⟨Nat.le_of_ble_eq_true rfl, Nat.le_of_ble_eq_true rfl⟩ (fun r_2 hr_2 => ?_)
  subst hr_2
  refine zast hx hb hK hP hD hS 0 0 rfl rfl (i := 8) (by omega) (by decide) dX12_ofReadNow_69 (fun H locs hP hS => ?_)
  have hP : va_P D vwCl [(sq, eI (ty 0) 12 (upd (upd (upd (upd (upd (upd (upd (upd (upd (fun _ => 0) 0 (g 29 r0)) 1 (g 30 r0)) 2 (g 31 r0)) 3 (g 32 r0)) 4 (g 33 r0)) 5 (g 35 r0)) 6 (g 33 r0 * bc (g 32 r0))) 7 (g 36 r0)) 8 (chN g r0)))] H := hP
  have hD : va_D (fun q => s.heap.size ≤ q) [(sq, eI (ty 0) 12 (upd (upd (upd (upd (upd (upd (upd (upd (upd (fun _ => 0) 0 (g 29 r0)) 1 (g 30 r0)) 2 (g 31 r0)) 3 (g 32 r0)) 4 (g 33 r0)) 5 (g 35 r0)) 6 (g 33 r0 * bc (g 32 r0))) 7 (g 36 r0)) 8 (chN g r0)))] := D1u hD
  refine lv_dup hx hb dX12_ofReadNow_70 rfl ?_
  refine lv_bipush (v := nI 9) hx hb dX12_ofReadNow_71 (by decide) ?_
  refine lv_aload_n hx hb dX12_ofReadNow_73 rfl (lv_at hl 1 rfl) ?_
  refine lv_aload_n hx hb dX12_ofReadNow_74 rfl (lv_at hl 0 rfl) ?_
  refine zcVi (As := [.ref ah]) (rest := [.int (nI 9), .ref sq, .ref sq]) ⟨hx, hb, hml, hown, hts⟩ (c_X9_credit l D ty A u C ma t0 mi g n1 n2 nL n4 n5 th rep bro hR _ r0 (by omega)) (cwV 1 hts gX12_ofReadNow_X9_credit rfl rfl rfl (by decide +kernel) ⟨Nat.le_of_ble_eq_true rfl, Nat.le_of_ble_eq_true rfl⟩) (mIh_blind) (mIh_preN hM hK hMS hS hA) (va_recv hK ((hM.later hS).Pa (hR.r26 (r := r0) (by omega)).1 rfl (hR.r26 (r := r0) (by omega)).2) (ci := 10) (q0 := 0) rfl rfl) rfl hl.1 rfl (Nat.le_of_ble_eq_true rfl) dX12_ofReadNow_75 ⟨Nat.le_of_ble_eq_true rfl, Nat.le_of_ble_eq_true rfl⟩ (fun r_3 hr_3 => ?_)
  subst hr_3
  refine zast hx hb hK hP hD hS 0 0 rfl rfl (i := 9) (by omega) (by decide) dX12_ofReadNow_78 (fun H locs hP hS => ?_)
  have hP : va_P D vwCl [(sq, eI (ty 0) 12 (upd (upd (upd (upd (upd (upd (upd (upd (upd (upd (fun _ => 0) 0 (g 29 r0)) 1 (g 30 r0)) 2 (g 31 r0)) 3 (g 32 r0)) 4 (g 33 r0)) 5 (g 35 r0)) 6 (g 33 r0 * bc (g 32 r0))) 7 (g 36 r0)) 8 (chN g r0)) 9 (crN g 21 r0)))] H := hP
  have hD : va_D (fun q => s.heap.size ≤ q) [(sq, eI (ty 0) 12 (upd (upd (upd (upd (upd (upd (upd (upd (upd (upd (fun _ => 0) 0 (g 29 r0)) 1 (g 30 r0)) 2 (g 31 r0)) 3 (g 32 r0)) 4 (g 33 r0)) 5 (g 35 r0)) 6 (g 33 r0 * bc (g 32 r0))) 7 (g 36 r0)) 8 (chN g r0)) 9 (crN g 21 r0)))] := D1u hD
  refine lv_dup hx hb dX12_ofReadNow_79 rfl ?_
  refine lv_bipush (v := nI 10) hx hb dX12_ofReadNow_80 (by decide) ?_
  refine lv_aload_n hx hb dX12_ofReadNow_82 rfl (lv_at hl 1 rfl) ?_
  refine va_get hx hb hts hinX9 hown hK ((hM.later hS).Pa (hR.r26 (r := r0) (by omega)).1 rfl (hR.r26 (r := r0) (by omega)).2) 0 rfl rfl 9 (by decide) (hk8) (fun _ h9 => h9) rfl dX12_ofReadNow_83 ?_
  refine zast hx hb hK hP hD hS 0 0 rfl rfl (i := 10) (by omega) (by decide) dX12_ofReadNow_86 (fun H locs hP hS => ?_)
  have hP : va_P D vwCl [(sq, eI (ty 0) 12 (upd (upd (upd (upd (upd (upd (upd (upd (upd (upd (upd (fun _ => 0) 0 (g 29 r0)) 1 (g 30 r0)) 2 (g 31 r0)) 3 (g 32 r0)) 4 (g 33 r0)) 5 (g 35 r0)) 6 (g 33 r0 * bc (g 32 r0))) 7 (g 36 r0)) 8 (chN g r0)) 9 (crN g 21 r0)) 10 (g 37 r0)))] H := hP
  have hD : va_D (fun q => s.heap.size ≤ q) [(sq, eI (ty 0) 12 (upd (upd (upd (upd (upd (upd (upd (upd (upd (upd (upd (fun _ => 0) 0 (g 29 r0)) 1 (g 30 r0)) 2 (g 31 r0)) 3 (g 32 r0)) 4 (g 33 r0)) 5 (g 35 r0)) 6 (g 33 r0 * bc (g 32 r0))) 7 (g 36 r0)) 8 (chN g r0)) 9 (crN g 21 r0)) 10 (g 37 r0)))] := D1u hD
  refine lv_dup hx hb dX12_ofReadNow_87 rfl ?_
  refine lv_bipush (v := nI 11) hx hb dX12_ofReadNow_88 (by decide) ?_
  refine lv_aload_n hx hb dX12_ofReadNow_90 rfl (lv_at hl 1 rfl) ?_
  refine va_get hx hb hts hinX9 hown hK ((hM.later hS).Pa (hR.r26 (r := r0) (by omega)).1 rfl (hR.r26 (r := r0) (by omega)).2) 0 rfl rfl 6 (by decide) (hk9) (fun _ h9 => h9) rfl dX12_ofReadNow_91 ?_
  refine zast hx hb hK hP hD hS 0 0 rfl rfl (i := 11) (by omega) (by decide) dX12_ofReadNow_94 (fun H locs hP hS => ?_)
  have hP : va_P D vwCl [(sq, eI (ty 0) 12 (upd (upd (upd (upd (upd (upd (upd (upd (upd (upd (upd (upd (fun _ => 0) 0 (g 29 r0)) 1 (g 30 r0)) 2 (g 31 r0)) 3 (g 32 r0)) 4 (g 33 r0)) 5 (g 35 r0)) 6 (g 33 r0 * bc (g 32 r0))) 7 (g 36 r0)) 8 (chN g r0)) 9 (crN g 21 r0)) 10 (g 37 r0)) 11 (g 34 r0)))] H := hP
  have hD : va_D (fun q => s.heap.size ≤ q) [(sq, eI (ty 0) 12 (upd (upd (upd (upd (upd (upd (upd (upd (upd (upd (upd (upd (fun _ => 0) 0 (g 29 r0)) 1 (g 30 r0)) 2 (g 31 r0)) 3 (g 32 r0)) 4 (g 33 r0)) 5 (g 35 r0)) 6 (g 33 r0 * bc (g 32 r0))) 7 (g 36 r0)) 8 (chN g r0)) 9 (crN g 21 r0)) 10 (g 37 r0)) 11 (g 34 r0)))] := D1u hD
  refine lv_astore_n (lv' := [(3, .ref sq), (0, .ref ah), (1, .ref (ma 26 r0)), (2, .int (nI w0))]) hx hb dX12_ofReadNow_95 rfl hl (by decide) rfl (fun ls hl => ?_)
  refine lv_aload_n hx hb dX12_ofReadNow_96 rfl (lv_at hl 0 rfl) ?_
  refine lv_iload_n hx hb dX12_ofReadNow_97 rfl (lv_at hl 3 rfl) ?_
  refine zald hx hb hK hP 0 0 rfl rfl (i := w0) (by omega) (by decide) dX12_ofReadNow_98 ?_
  have h9 : (upd (upd (upd (upd (upd (upd (upd (upd (upd (upd (upd (upd (fun _ => 0) 0 (g 29 r0)) 1 (g 30 r0)) 2 (g 31 r0)) 3 (g 32 r0)) 4 (g 33 r0)) 5 (g 35 r0)) 6 (g 33 r0 * bc (g 32 r0))) 7 (g 36 r0)) 8 (chN g r0)) 9 (crN g 21 r0)) 10 (g 37 r0)) 11 (g 34 r0)) w0 = ofReadN g r0 w0 := by
    rcases (show w0 = 0 ∨ w0 = 1 ∨ w0 = 2 ∨ w0 = 3 ∨ w0 = 4 ∨ w0 = 5 ∨ w0 = 6 ∨ w0 = 7 ∨ w0 = 8 ∨ w0 = 9 ∨ w0 = 10 ∨ w0 = 11 by omega) with rfl | rfl | rfl | rfl | rfl | rfl | rfl | rfl | rfl | rfl | rfl | rfl <;> rfl
  refine W.widen (k := 1) (n := 12) (by omega) (by omega) ?_
  exact W.iret (v := (upd (upd (upd (upd (upd (upd (upd (upd (upd (upd (upd (upd (fun _ => 0) 0 (g 29 r0)) 1 (g 30 r0)) 2 (g 31 r0)) 3 (g 32 r0)) 4 (g 33 r0)) 5 (g 35 r0)) 6 (g 33 r0 * bc (g 32 r0))) 7 (g 36 r0)) 8 (chN g r0)) 9 (crN g 21 r0)) 10 (g 37 r0)) 11 (g 34 r0)) w0) hx hb hr (fun t ht hW => ⟨⟨_, (), rfl, h9, trivial⟩, hS.F ht⟩) hS.2.2 dX12_ofReadNow_99
set_option maxHeartbeats 600000 in
set_option maxRecDepth 100000 in
theorem c_X12_ofReaderNow_0 (l : Launch) (D : va_G) (ty : Nat → ClassId) (A : Nat → Prop) (u : Nat → Nat → Prop) (C : Nat → Nat → va_E) (ma : Nat → Nat → Nat) (t0 mi : Nat) (g : Nat → Nat → Int32) (n1 n2 nL n4 n5 : Nat) (th : Int32) (rep bro : Nat → Nat → Int32) (hR : mR ty t0 g n1 n2 nL n4 n5 th rep bro u C ma) (ah : Nat) (sz : Nat) (R : Nat) (hr6 : R < 6) : Met l yX12_ofReaderNow wsX12_ofReaderNow ({ frames := 6, cells := (cntR g R n5), slots := (6 * cntR g R n5), locals := 200 }) (va_Pc [.ref (ma 0 0), .ref ah, .int (nI R), .int (nI 0)] (mIhs D ty A u C ma t0 mi ah (g 21) sz)) (mkQ sz (fun v_ => v_ = ofReaderN g n4 n5 R 0)) (cntR g R n5) (6 * cntR g R n5) (fun q => sz ≤ q) := by
  refine zMet (cc := cX12_ofReaderNow) (maxL := 8) (ret := (some .int)) (by decide) rfl (Nat.le_of_ble_eq_true rfl) ?_
  intro p e s m below meth c hx hb hr hts hown hlocks hml hB ls hl
  obtain ⟨⟨⟨hM, hK, hMS⟩, ⟨hmb, hmd, hA⟩⟩, hsz⟩ := hB
  subst hsz
  have hS : va_S (fun q => s.heap.size ≤ q) s.heap s.heap [] := va_S.rf
  have hbn := hR.I.b1
  have hbs := hR.I.b2
  have hbl := hR.I.bL
  have hbc := hR.I.b4
  have hbr := hR.I.b5
  have hl : lv_has ls 8 [(0, .ref (ma 0 0)), (1, .ref ah), (2, .int (nI R)), (3, .int (nI 0))] := hl
  refine lv_iload_n hx hb dX12_ofReaderNow_0 rfl (lv_at hl 3 rfl) ?_
  refine lv_if_ne (tgt := 10) hx hb dX12_ofReaderNow_1 (by decide) (fun c_1 => ?_) (fun c_1 => ?_)
  · have c_1 := zq_neT (x := 0) (by omega) c_1
    omega
  · have c_1 := zq_neF (x := 0) (by omega) c_1
    refine lv_aload_n hx hb dX12_ofReaderNow_4 rfl (lv_at hl 0 rfl) ?_
    refine lv_iload_n hx hb dX12_ofReaderNow_5 rfl (lv_at hl 2 rfl) ?_
    refine zcVi (As := [.int (nI R)]) (rest := []) ⟨hx, hb, hml, hown, hts⟩ (c_X12_unitsNow l D ty A u C ma t0 mi g n1 n2 nL n4 n5 th rep bro hR (nI R)) (cwV 1 hts gX12_ofReaderNow_X12_unitsNow rfl rfl rfl (by decide +kernel) ⟨Nat.le_of_ble_eq_true rfl, Nat.le_of_ble_eq_true rfl⟩) (mI_blind) (mI_preN hM hK hMS hS) (va_recv hK ((hM.later hS).Pa hR.o.1 rfl hR.o.2) (ci := 13) (q0 := 0) rfl rfl) rfl hl.1 rfl (Nat.le_of_ble_eq_true rfl) dX12_ofReaderNow_6 ⟨by show _ ≤ cntR g R n5; omega, by show _ ≤ 6 * cntR g R n5; omega⟩ (fun r_2 hr_2 => ?_)
    subst hr_2
    refine W.widen (k := cntR g R n5) (n := 6 * cntR g R n5) (Nat.zero_le _) (Nat.zero_le _) ?_
    exact W.iret (v := sumN (fUn g (nI R) (g 0 0)) n5) hx hb hr (fun t ht hW => ⟨⟨_, (), rfl, rfl, trivial⟩, hS.F ht⟩) hS.2.2 dX12_ofReaderNow_9
set_option maxHeartbeats 600000 in
set_option maxRecDepth 100000 in
theorem c_X12_ofReaderNow_1 (l : Launch) (D : va_G) (ty : Nat → ClassId) (A : Nat → Prop) (u : Nat → Nat → Prop) (C : Nat → Nat → va_E) (ma : Nat → Nat → Nat) (t0 mi : Nat) (g : Nat → Nat → Int32) (n1 n2 nL n4 n5 : Nat) (th : Int32) (rep bro : Nat → Nat → Int32) (hR : mR ty t0 g n1 n2 nL n4 n5 th rep bro u C ma) (ah : Nat) (sz : Nat) (R : Nat) (hr6 : R < 6) : Met l yX12_ofReaderNow wsX12_ofReaderNow ({ frames := 6, cells := (cntR g R n5), slots := (6 * cntR g R n5), locals := 200 }) (va_Pc [.ref (ma 0 0), .ref ah, .int (nI R), .int (nI 1)] (mIhs D ty A u C ma t0 mi ah (g 21) sz)) (mkQ sz (fun v_ => v_ = ofReaderN g n4 n5 R 1)) (cntR g R n5) (6 * cntR g R n5) (fun q => sz ≤ q) := by
  refine zMet (cc := cX12_ofReaderNow) (maxL := 8) (ret := (some .int)) (by decide) rfl (Nat.le_of_ble_eq_true rfl) ?_
  intro p e s m below meth c hx hb hr hts hown hlocks hml hB ls hl
  obtain ⟨⟨⟨hM, hK, hMS⟩, ⟨hmb, hmd, hA⟩⟩, hsz⟩ := hB
  subst hsz
  have hS : va_S (fun q => s.heap.size ≤ q) s.heap s.heap [] := va_S.rf
  have hbn := hR.I.b1
  have hbs := hR.I.b2
  have hbl := hR.I.bL
  have hbc := hR.I.b4
  have hbr := hR.I.b5
  have hl : lv_has ls 8 [(0, .ref (ma 0 0)), (1, .ref ah), (2, .int (nI R)), (3, .int (nI 1))] := hl
  have hinX12 : ∀ w ∈ wsX120, w ∈ wsX12_ofReaderNow := by decide +kernel
  have hk1 := hts (.fieldLink RX12 22 "DatamarketDeskModel" "reads" "Ljava/util/ArrayList;") (by decide +kernel)
  have hk2 := hts (.classLink RX12 152 "DatamarketDeskModel$Read") (by decide +kernel)
  have hinX9 : ∀ w ∈ wsX90, w ∈ wsX12_ofReaderNow := by decide +kernel
  have hk4 := hts (.fieldLink RX12 217 "DatamarketDeskModel$Read" "reader" "I") (by decide +kernel)
  have hk5 := hts (.fieldLink RX12 260 "DatamarketDeskModel$Read" "billed" "I") (by decide +kernel)
  refine lv_iload_n hx hb dX12_ofReaderNow_0 rfl (lv_at hl 3 rfl) ?_
  refine lv_if_ne (tgt := 10) hx hb dX12_ofReaderNow_1 (by decide) (fun c_1 => ?_) (fun c_1 => ?_)
  · have c_1 := zq_neT (x := 1) (by omega) c_1
    refine lv_iload_n hx hb dX12_ofReaderNow_10 rfl (lv_at hl 3 rfl) ?_
    refine lv_bipush (v := nI 6) hx hb dX12_ofReaderNow_11 (by decide) ?_
    refine lv_icmp_ne (tgt := 22) hx hb dX12_ofReaderNow_13 (by decide) (fun c_2 => ?_) (fun c_2 => ?_)
    · have c_2 := zn_neT (a := 1) (b := 6) (by omega) (by omega) c_2
      refine lv_iconst (v := nI 0) hx hb dX12_ofReaderNow_22 (by decide) ?_
      refine lv_istore (lv' := [(4, .int (nI 0)), (0, .ref (ma 0 0)), (1, .ref ah), (2, .int (nI R)), (3, .int (nI 1))]) hx hb dX12_ofReaderNow_23 hl (by decide) rfl (fun ls hl => ?_)
      refine lv_iconst (v := nI 0) hx hb dX12_ofReaderNow_25 (by decide) ?_
      refine lv_istore (lv' := [(5, .int (nI 0)), (4, .int (nI 0)), (0, .ref (ma 0 0)), (1, .ref ah), (2, .int (nI R)), (3, .int (nI 1))]) hx hb dX12_ofReaderNow_26 hl (by decide) rfl (fun ls hl => ?_)
      refine zloop (τ := Unit) (fun j _ ls H locs cells slots => cells = cntR g R j ∧ slots = 6 * cntR g R j ∧ lv_has ls 8 [(4, .int (sumN (fCnt g (nI R) (-1)) j)), (5, .int (nI j)), (0, .ref (ma 0 0)), (1, .ref ah), (2, .int (nI R)), (3, .int (nI 1))] ∧ va_S (fun q => s.heap.size ≤ q) s.heap H locs) n5 ?_ 0 () ls _ _ _ _ (Nat.zero_le _) ⟨rfl, rfl, lv_sub hl [1, 0, 2, 3, 4, 5] rfl, hS⟩
      intro j _ ls H locs cells slots hi_j hinv ih_j
      obtain ⟨rfl, rfl, hl, hS⟩ := hinv
      have hl : lv_has ls 8 [(4, .int (sumN (fCnt g (nI R) (-1)) j)), (5, .int (nI j)), (0, .ref (ma 0 0)), (1, .ref ah), (2, .int (nI R)), (3, .int (nI 1))] := hl
      have hcl9 := cntR_le (g := g) (R := R) (n := j) (k := n5) (by omega)
      refine lv_iload hx hb dX12_ofReaderNow_28 (lv_at hl 1 rfl) ?_
      refine lv_aload_n hx hb dX12_ofReaderNow_30 rfl (lv_at hl 2 rfl) ?_
      refine va_get hx hb hts hinX12 hown hK ((hM.later hS).Pa hR.o.1 rfl hR.o.2) 0 rfl rfl 4 (by decide) (hk1) (fun _ h9 => h9) rfl dX12_ofReaderNow_31 ?_
      obtain ⟨huz_3, hnz_3, mz_3, bz_3, hCz_3⟩ := isL.hd hR.l7
      refine zcVi (As := []) (rest := [.int (nI j)]) ⟨hx, hb, hml, hown, hts⟩ (c_size l D ty A u C ma t0 mi 7 0 n5 (ma 26) hR.l7) (cwV 0 hts gX12_ofReaderNow_Jx4a65c_size_8abf5 rfl rfl rfl (by decide +kernel) ⟨Nat.le_of_ble_eq_true rfl, Nat.le_of_ble_eq_true rfl⟩) (mI_blind) (mI_preN hM hK hMS hS) (va_recv hK ((hM.later hS).Pa huz_3 rfl hCz_3) (ci := 0) (q0 := 0) rfl rfl) rfl hl.1 rfl (Nat.le_of_ble_eq_true rfl) dX12_ofReaderNow_34 ⟨by show _ ≤ cntR g R n5; omega, by show _ ≤ 6 * cntR g R n5; omega⟩ (fun r_4 hr_4 => ?_)
      subst hr_4
      refine lv_icmp_ge (tgt := 135) hx hb dX12_ofReaderNow_37 (by decide) (fun c_5 => ?_) (fun c_5 => ?_)
      · have c_5 := zn_geT (a := j) (b := n5) (by omega) (by omega) c_5
        obtain rfl : n5 = j := by omega
        refine lv_iload hx hb dX12_ofReaderNow_135 (lv_at hl 0 rfl) ?_
        refine W.widen (k := cntR g R n5) (n := 6 * cntR g R n5) (Nat.le_refl _) (Nat.le_refl _) ?_
        exact W.iret (v := sumN (fCnt g (nI R) (-1)) n5) hx hb hr (fun t ht hW => ⟨⟨_, (), rfl, rfl, trivial⟩, hS.F ht⟩) hS.2.2 dX12_ofReaderNow_137
      · have c_5 := zn_geF (a := j) (b := n5) (by omega) (by omega) c_5
        refine lv_aload_n hx hb dX12_ofReaderNow_40 rfl (lv_at hl 2 rfl) ?_
        refine va_get hx hb hts hinX12 hown hK ((hM.later hS).Pa hR.o.1 rfl hR.o.2) 0 rfl rfl 4 (by decide) (hk1) (fun _ h9 => h9) rfl dX12_ofReaderNow_41 ?_
        refine lv_iload hx hb dX12_ofReaderNow_44 (lv_at hl 1 rfl) ?_
        obtain ⟨huz_6, hnz_6, mz_6, bz_6, hCz_6⟩ := isL.hd hR.l7
        refine zcVr (x := .ref (ma 26 j)) (As := [.int (nI j)]) (rest := []) ⟨hx, hb, hml, hown, hts⟩ (c_get l D ty A u C ma t0 mi 7 0 n5 (ma 26) hR.l7 j (by omega)) (cwV 1 hts gX12_ofReaderNow_Jx4a65c_get_915e3 rfl rfl rfl (by decide +kernel) ⟨Nat.le_of_ble_eq_true rfl, Nat.le_of_ble_eq_true rfl⟩) (mI_blind) (mI_preN hM hK hMS hS) (va_recv hK ((hM.later hS).Pa huz_6 rfl hCz_6) (ci := 0) (q0 := 0) rfl rfl) rfl hl.1 rfl (Nat.le_of_ble_eq_true rfl) dX12_ofReaderNow_46 ⟨by show _ ≤ cntR g R n5; omega, by show _ ≤ 6 * cntR g R n5; omega⟩ ?_
        refine va_castS hx hb hown (hk2) ((hK.1 10 _ rfl).2) (va_recv hK ((hM.later hS).Pa (hR.r26 (r := j) (by omega)).1 rfl (hR.r26 (r := j) (by omega)).2) (ci := 10) (q0 := 0) rfl rfl) dX12_ofReaderNow_49 ?_
        refine lv_astore (lv' := [(6, .ref (ma 26 j)), (4, .int (sumN (fCnt g (nI R) (-1)) j)), (5, .int (nI j)), (0, .ref (ma 0 0)), (1, .ref ah), (2, .int (nI R)), (3, .int (nI 1))]) hx hb dX12_ofReaderNow_52 hl (by decide) rfl (fun ls hl => ?_)
        refine lv_aload hx hb dX12_ofReaderNow_54 (lv_at hl 0 rfl) ?_
        refine va_get hx hb hts hinX9 hown hK ((hM.later hS).Pa (hR.r26 (r := j) (by omega)).1 rfl (hR.r26 (r := j) (by omega)).2) 0 rfl rfl 0 (by decide) (hk4) (fun _ h9 => h9) rfl dX12_ofReaderNow_56 ?_
        refine lv_iload_n hx hb dX12_ofReaderNow_59 rfl (lv_at hl 5 rfl) ?_
        refine lv_icmp_eq (tgt := 66) hx hb dX12_ofReaderNow_60 (by decide) (fun c_8 => ?_) (fun c_8 => ?_)
        · refine lv_bipush (v := nI 6) hx hb dX12_ofReaderNow_66 (by decide) ?_
          have hcn9 := cntR_le (g := g) (R := R) (n := j + 1) (k := n5) (by omega)
          rw [cntR_y c_8] at hcn9
          refine mnewa1 hx hb (hts (.arrayClass .int) (by decide +kernel)) hK hS (fun q h => Nat.le_trans hS.1 h) (n := 6) (N' := 6) (by omega) rfl (by omega) (by show _ + 1 ≤ cntR g R n5; omega) (by show _ + 6 ≤ 6 * cntR g R n5; omega) dX12_ofReaderNow_68 (fun H sq hP hD hS ho => ?_)
          refine lv_dup hx hb dX12_ofReaderNow_70 rfl ?_
          refine lv_iconst (v := nI 0) hx hb dX12_ofReaderNow_71 (by decide) ?_
          refine lv_iconst (v := nI 0) hx hb dX12_ofReaderNow_72 (by decide) ?_
          refine zast hx hb hK hP hD hS 0 0 rfl rfl (i := 0) (by omega) (by decide) dX12_ofReaderNow_73 (fun H locs hP hS => ?_)
          have hP : va_P D vwCl [(sq, eI (ty 0) 6 (upd (fun _ => 0) 0 (nI 0)))] H := hP
          have hD : va_D (fun q => s.heap.size ≤ q) [(sq, eI (ty 0) 6 (upd (fun _ => 0) 0 (nI 0)))] := D1u hD
          refine lv_dup hx hb dX12_ofReaderNow_74 rfl ?_
          refine lv_iconst (v := nI 1) hx hb dX12_ofReaderNow_75 (by decide) ?_
          refine lv_iconst (v := nI 1) hx hb dX12_ofReaderNow_76 (by decide) ?_
          refine zast hx hb hK hP hD hS 0 0 rfl rfl (i := 1) (by omega) (by decide) dX12_ofReaderNow_77 (fun H locs hP hS => ?_)
          have hP : va_P D vwCl [(sq, eI (ty 0) 6 (upd (upd (fun _ => 0) 0 (nI 0)) 1 (nI 1)))] H := hP
          have hD : va_D (fun q => s.heap.size ≤ q) [(sq, eI (ty 0) 6 (upd (upd (fun _ => 0) 0 (nI 0)) 1 (nI 1)))] := D1u hD
          refine lv_dup hx hb dX12_ofReaderNow_78 rfl ?_
          refine lv_iconst (v := nI 2) hx hb dX12_ofReaderNow_79 (by decide) ?_
          refine lv_aload hx hb dX12_ofReaderNow_80 (lv_at hl 0 rfl) ?_
          refine zcVi (As := []) (rest := [.int (nI 2), .ref sq, .ref sq]) ⟨hx, hb, hml, hown, hts⟩ (c_X9_charge l D ty A u C ma t0 mi g n1 n2 nL n4 n5 th rep bro hR j (by omega)) (cwV 0 hts gX12_ofReaderNow_X9_charge rfl rfl rfl (by decide +kernel) ⟨Nat.le_of_ble_eq_true rfl, Nat.le_of_ble_eq_true rfl⟩) (mI_blind) (mI_preN hM hK hMS hS) (va_recv hK ((hM.later hS).Pa (hR.r26 (r := j) (by omega)).1 rfl (hR.r26 (r := j) (by omega)).2) (ci := 10) (q0 := 0) rfl rfl) rfl hl.1 rfl (Nat.le_of_ble_eq_true rfl) dX12_ofReaderNow_82 ⟨by show _ ≤ cntR g R n5; omega, by show _ ≤ 6 * cntR g R n5; omega⟩ (fun r_9 hr_9 => ?_)
          subst hr_9
          refine zast hx hb hK hP hD hS 0 0 rfl rfl (i := 2) (by omega) (by decide) dX12_ofReaderNow_85 (fun H locs hP hS => ?_)
          have hP : va_P D vwCl [(sq, eI (ty 0) 6 (upd (upd (upd (fun _ => 0) 0 (nI 0)) 1 (nI 1)) 2 (chN g j)))] H := hP
          have hD : va_D (fun q => s.heap.size ≤ q) [(sq, eI (ty 0) 6 (upd (upd (upd (fun _ => 0) 0 (nI 0)) 1 (nI 1)) 2 (chN g j)))] := D1u hD
          refine lv_dup hx hb dX12_ofReaderNow_86 rfl ?_
          refine lv_iconst (v := nI 3) hx hb dX12_ofReaderNow_87 (by decide) ?_
          refine lv_aload hx hb dX12_ofReaderNow_88 (lv_at hl 0 rfl) ?_
          refine lv_aload_n hx hb dX12_ofReaderNow_90 rfl (lv_at hl 4 rfl) ?_
          refine zcVi (As := [.ref ah]) (rest := [.int (nI 3), .ref sq, .ref sq]) ⟨hx, hb, hml, hown, hts⟩ (c_X9_credit l D ty A u C ma t0 mi g n1 n2 nL n4 n5 th rep bro hR _ j (by omega)) (cwV 1 hts gX12_ofReaderNow_X9_credit rfl rfl rfl (by decide +kernel) ⟨Nat.le_of_ble_eq_true rfl, Nat.le_of_ble_eq_true rfl⟩) (mIh_blind) (mIh_preN hM hK hMS hS hA) (va_recv hK ((hM.later hS).Pa (hR.r26 (r := j) (by omega)).1 rfl (hR.r26 (r := j) (by omega)).2) (ci := 10) (q0 := 0) rfl rfl) rfl hl.1 rfl (Nat.le_of_ble_eq_true rfl) dX12_ofReaderNow_91 ⟨by show _ ≤ cntR g R n5; omega, by show _ ≤ 6 * cntR g R n5; omega⟩ (fun r_10 hr_10 => ?_)
          subst hr_10
          refine zast hx hb hK hP hD hS 0 0 rfl rfl (i := 3) (by omega) (by decide) dX12_ofReaderNow_94 (fun H locs hP hS => ?_)
          have hP : va_P D vwCl [(sq, eI (ty 0) 6 (upd (upd (upd (upd (fun _ => 0) 0 (nI 0)) 1 (nI 1)) 2 (chN g j)) 3 (crN g 21 j)))] H := hP
          have hD : va_D (fun q => s.heap.size ≤ q) [(sq, eI (ty 0) 6 (upd (upd (upd (upd (fun _ => 0) 0 (nI 0)) 1 (nI 1)) 2 (chN g j)) 3 (crN g 21 j)))] := D1u hD
          refine lv_dup hx hb dX12_ofReaderNow_95 rfl ?_
          refine lv_iconst (v := nI 4) hx hb dX12_ofReaderNow_96 (by decide) ?_
          refine lv_aload hx hb dX12_ofReaderNow_97 (lv_at hl 0 rfl) ?_
          refine va_get hx hb hts hinX9 hown hK ((hM.later hS).Pa (hR.r26 (r := j) (by omega)).1 rfl (hR.r26 (r := j) (by omega)).2) 0 rfl rfl 9 (by decide) (hk5) (fun _ h9 => h9) rfl dX12_ofReaderNow_99 ?_
          refine zast hx hb hK hP hD hS 0 0 rfl rfl (i := 4) (by omega) (by decide) dX12_ofReaderNow_102 (fun H locs hP hS => ?_)
          have hP : va_P D vwCl [(sq, eI (ty 0) 6 (upd (upd (upd (upd (upd (fun _ => 0) 0 (nI 0)) 1 (nI 1)) 2 (chN g j)) 3 (crN g 21 j)) 4 (g 37 j)))] H := hP
          have hD : va_D (fun q => s.heap.size ≤ q) [(sq, eI (ty 0) 6 (upd (upd (upd (upd (upd (fun _ => 0) 0 (nI 0)) 1 (nI 1)) 2 (chN g j)) 3 (crN g 21 j)) 4 (g 37 j)))] := D1u hD
          refine lv_dup hx hb dX12_ofReaderNow_103 rfl ?_
          refine lv_iconst (v := nI 5) hx hb dX12_ofReaderNow_104 (by decide) ?_
          refine lv_aload hx hb dX12_ofReaderNow_105 (lv_at hl 0 rfl) ?_
          refine lv_aload_n hx hb dX12_ofReaderNow_107 rfl (lv_at hl 4 rfl) ?_
          refine zcVi (As := [.ref ah]) (rest := [.int (nI 5), .ref sq, .ref sq]) ⟨hx, hb, hml, hown, hts⟩ (c_X9_worth l D ty A u C ma t0 mi g n1 n2 nL n4 n5 th rep bro hR _ j (by omega)) (cwV 1 hts gX12_ofReaderNow_X9_worth rfl rfl rfl (by decide +kernel) ⟨Nat.le_of_ble_eq_true rfl, Nat.le_of_ble_eq_true rfl⟩) (mIh_blind) (mIh_preN hM hK hMS hS hA) (va_recv hK ((hM.later hS).Pa (hR.r26 (r := j) (by omega)).1 rfl (hR.r26 (r := j) (by omega)).2) (ci := 10) (q0 := 0) rfl rfl) rfl hl.1 rfl (Nat.le_of_ble_eq_true rfl) dX12_ofReaderNow_108 ⟨by show _ ≤ cntR g R n5; omega, by show _ ≤ 6 * cntR g R n5; omega⟩ (fun r_11 hr_11 => ?_)
          subst hr_11
          refine lv_aload hx hb dX12_ofReaderNow_111 (lv_at hl 0 rfl) ?_
          refine va_get hx hb hts hinX9 hown hK ((hM.later hS).Pa (hR.r26 (r := j) (by omega)).1 rfl (hR.r26 (r := j) (by omega)).2) 0 rfl rfl 9 (by decide) (hk5) (fun _ h9 => h9) rfl dX12_ofReaderNow_113 ?_
          refine lv_isub hx hb dX12_ofReaderNow_116 ?_
          refine zast hx hb hK hP hD hS 0 0 rfl rfl (i := 5) (by omega) (by decide) dX12_ofReaderNow_117 (fun H locs hP hS => ?_)
          have hP : va_P D vwCl [(sq, eI (ty 0) 6 (upd (upd (upd (upd (upd (upd (fun _ => 0) 0 (nI 0)) 1 (nI 1)) 2 (chN g j)) 3 (crN g 21 j)) 4 (g 37 j)) 5 ((chN g j - crN g 21 j) - (g 37 j))))] H := hP
          have hD : va_D (fun q => s.heap.size ≤ q) [(sq, eI (ty 0) 6 (upd (upd (upd (upd (upd (upd (fun _ => 0) 0 (nI 0)) 1 (nI 1)) 2 (chN g j)) 3 (crN g 21 j)) 4 (g 37 j)) 5 ((chN g j - crN g 21 j) - (g 37 j))))] := D1u hD
          refine lv_astore (lv' := [(7, .ref sq), (6, .ref (ma 26 j)), (4, .int (sumN (fCnt g (nI R) (-1)) j)), (5, .int (nI j)), (0, .ref (ma 0 0)), (1, .ref ah), (2, .int (nI R)), (3, .int (nI 1))]) hx hb dX12_ofReaderNow_118 hl (by decide) rfl (fun ls hl => ?_)
          refine lv_iload hx hb dX12_ofReaderNow_120 (lv_at hl 2 rfl) ?_
          refine lv_aload hx hb dX12_ofReaderNow_122 (lv_at hl 0 rfl) ?_
          refine lv_iload_n hx hb dX12_ofReaderNow_124 rfl (lv_at hl 7 rfl) ?_
          refine zald hx hb hK hP 0 0 rfl rfl (i := 1) (by omega) (by decide) dX12_ofReaderNow_125 ?_
          refine zeq (show _ = nI 1 from rfl) ?_
          refine lv_iadd hx hb dX12_ofReaderNow_126 ?_
          refine lv_istore (lv' := [(4, .int ((sumN (fCnt g (nI R) (-1)) j) + (nI 1))), (7, .ref sq), (6, .ref (ma 26 j)), (5, .int (nI j)), (0, .ref (ma 0 0)), (1, .ref ah), (2, .int (nI R)), (3, .int (nI 1))]) hx hb dX12_ofReaderNow_127 hl (by decide) rfl (fun ls hl => ?_)
          refine lv_iinc (v := nI (j + 1)) (lv' := [(5, .int (nI (j + 1))), (4, .int ((sumN (fCnt g (nI R) (-1)) j) + (nI 1))), (7, .ref sq), (6, .ref (ma 26 j)), (0, .ref (ma 0 0)), (1, .ref ah), (2, .int (nI R)), (3, .int (nI 1))]) hx hb dX12_ofReaderNow_129 hl (k := 3) rfl (nI_add j 1) (by decide) rfl (fun ls hl => ?_)
          refine lv_goto (tgt := 28) hx hb dX12_ofReaderNow_132 (by decide) ?_
          have hcn := cntR_y (g := g) (R := R) (n := j) c_8
          refine W.widen (k := cntR g R (j + 1)) (n := 6 * cntR g R (j + 1)) (by rw [hcn]; exact Nat.le_refl _) (by rw [hcn]; omega) ?_
          refine ih_j () ls _ _ _ _ (by omega) ⟨rfl, rfl, show lv_has ls 8 [(4, .int (sumN (fCnt g (nI R) (-1)) (j + 1))), (5, .int (nI (j + 1))), (0, .ref (ma 0 0)), (1, .ref ah), (2, .int (nI R)), (3, .int (nI 1))] from ?_, hS⟩
          rw [show sumN (fCnt g (nI R) (-1)) (j + 1) = (sumN (fCnt g (nI R) (-1)) j) + (nI 1) from congrArg (fun z => (sumN (fCnt g (nI R) (-1)) j) +  z) (show (fCnt g (nI R) (-1)) j = (nI 1) from by unfold fCnt; rw [ofB_r (by omega)]; simp only [decide_eq_true c_8, Bool.not_true, Bool.not_false, Bool.and_true, Bool.true_and, Bool.and_false, Bool.false_and, Bool.or_true, Bool.true_or, Bool.or_false, Bool.false_or, Bool.and_self, Bool.or_self, if_true, Bool.false_eq_true, if_false] <;> rfl)]
          exact lv_sub hl [1, 0, 4, 5, 6, 7] rfl
        · refine lv_goto (tgt := 129) hx hb dX12_ofReaderNow_63 (by decide) ?_
          refine lv_iinc (v := nI (j + 1)) (lv' := [(5, .int (nI (j + 1))), (6, .ref (ma 26 j)), (4, .int (sumN (fCnt g (nI R) (-1)) j)), (0, .ref (ma 0 0)), (1, .ref ah), (2, .int (nI R)), (3, .int (nI 1))]) hx hb dX12_ofReaderNow_129 hl (k := 2) rfl (nI_add j 1) (by decide) rfl (fun ls hl => ?_)
          refine lv_goto (tgt := 28) hx hb dX12_ofReaderNow_132 (by decide) ?_
          have hcn := cntR_n (g := g) (R := R) (n := j) c_8
          rw [← hcn]
          refine ih_j () ls _ _ _ _ (by omega) ⟨rfl, rfl, show lv_has ls 8 [(4, .int (sumN (fCnt g (nI R) (-1)) (j + 1))), (5, .int (nI (j + 1))), (0, .ref (ma 0 0)), (1, .ref ah), (2, .int (nI R)), (3, .int (nI 1))] from ?_, hS⟩
          rw [show sumN (fCnt g (nI R) (-1)) (j + 1) = sumN (fCnt g (nI R) (-1)) j from (congrArg (fun z => (sumN (fCnt g (nI R) (-1)) j) +  z) (show (fCnt g (nI R) (-1)) j = 0 from by unfold fCnt; rw [ofB_r (by omega)]; simp only [decide_eq_false c_8, Bool.not_true, Bool.not_false, Bool.and_true, Bool.true_and, Bool.and_false, Bool.false_and, Bool.or_true, Bool.true_or, Bool.or_false, Bool.false_or, Bool.and_self, Bool.or_self, if_true, Bool.false_eq_true, if_false] <;> rfl)).trans (Int32.add_zero _)]
          exact lv_sub hl [2, 0, 3, 4, 5, 6] rfl
    · have c_2 := zn_neF (a := 1) (b := 6) (by omega) (by omega) c_2
      omega
  · have c_1 := zq_neF (x := 1) (by omega) c_1
    omega
set_option maxHeartbeats 600000 in
set_option maxRecDepth 100000 in
theorem c_X12_ofReaderNow_2 (l : Launch) (D : va_G) (ty : Nat → ClassId) (A : Nat → Prop) (u : Nat → Nat → Prop) (C : Nat → Nat → va_E) (ma : Nat → Nat → Nat) (t0 mi : Nat) (g : Nat → Nat → Int32) (n1 n2 nL n4 n5 : Nat) (th : Int32) (rep bro : Nat → Nat → Int32) (hR : mR ty t0 g n1 n2 nL n4 n5 th rep bro u C ma) (ah : Nat) (sz : Nat) (R : Nat) (hr6 : R < 6) : Met l yX12_ofReaderNow wsX12_ofReaderNow ({ frames := 6, cells := (cntR g R n5), slots := (6 * cntR g R n5), locals := 200 }) (va_Pc [.ref (ma 0 0), .ref ah, .int (nI R), .int (nI 2)] (mIhs D ty A u C ma t0 mi ah (g 21) sz)) (mkQ sz (fun v_ => v_ = ofReaderN g n4 n5 R 2)) (cntR g R n5) (6 * cntR g R n5) (fun q => sz ≤ q) := by
  refine zMet (cc := cX12_ofReaderNow) (maxL := 8) (ret := (some .int)) (by decide) rfl (Nat.le_of_ble_eq_true rfl) ?_
  intro p e s m below meth c hx hb hr hts hown hlocks hml hB ls hl
  obtain ⟨⟨⟨hM, hK, hMS⟩, ⟨hmb, hmd, hA⟩⟩, hsz⟩ := hB
  subst hsz
  have hS : va_S (fun q => s.heap.size ≤ q) s.heap s.heap [] := va_S.rf
  have hbn := hR.I.b1
  have hbs := hR.I.b2
  have hbl := hR.I.bL
  have hbc := hR.I.b4
  have hbr := hR.I.b5
  have hl : lv_has ls 8 [(0, .ref (ma 0 0)), (1, .ref ah), (2, .int (nI R)), (3, .int (nI 2))] := hl
  have hinX12 : ∀ w ∈ wsX120, w ∈ wsX12_ofReaderNow := by decide +kernel
  have hk1 := hts (.fieldLink RX12 22 "DatamarketDeskModel" "reads" "Ljava/util/ArrayList;") (by decide +kernel)
  have hk2 := hts (.classLink RX12 152 "DatamarketDeskModel$Read") (by decide +kernel)
  have hinX9 : ∀ w ∈ wsX90, w ∈ wsX12_ofReaderNow := by decide +kernel
  have hk4 := hts (.fieldLink RX12 217 "DatamarketDeskModel$Read" "reader" "I") (by decide +kernel)
  have hk5 := hts (.fieldLink RX12 260 "DatamarketDeskModel$Read" "billed" "I") (by decide +kernel)
  refine lv_iload_n hx hb dX12_ofReaderNow_0 rfl (lv_at hl 3 rfl) ?_
  refine lv_if_ne (tgt := 10) hx hb dX12_ofReaderNow_1 (by decide) (fun c_1 => ?_) (fun c_1 => ?_)
  · have c_1 := zq_neT (x := 2) (by omega) c_1
    refine lv_iload_n hx hb dX12_ofReaderNow_10 rfl (lv_at hl 3 rfl) ?_
    refine lv_bipush (v := nI 6) hx hb dX12_ofReaderNow_11 (by decide) ?_
    refine lv_icmp_ne (tgt := 22) hx hb dX12_ofReaderNow_13 (by decide) (fun c_2 => ?_) (fun c_2 => ?_)
    · have c_2 := zn_neT (a := 2) (b := 6) (by omega) (by omega) c_2
      refine lv_iconst (v := nI 0) hx hb dX12_ofReaderNow_22 (by decide) ?_
      refine lv_istore (lv' := [(4, .int (nI 0)), (0, .ref (ma 0 0)), (1, .ref ah), (2, .int (nI R)), (3, .int (nI 2))]) hx hb dX12_ofReaderNow_23 hl (by decide) rfl (fun ls hl => ?_)
      refine lv_iconst (v := nI 0) hx hb dX12_ofReaderNow_25 (by decide) ?_
      refine lv_istore (lv' := [(5, .int (nI 0)), (4, .int (nI 0)), (0, .ref (ma 0 0)), (1, .ref ah), (2, .int (nI R)), (3, .int (nI 2))]) hx hb dX12_ofReaderNow_26 hl (by decide) rfl (fun ls hl => ?_)
      refine zloop (τ := Unit) (fun j _ ls H locs cells slots => cells = cntR g R j ∧ slots = 6 * cntR g R j ∧ lv_has ls 8 [(4, .int (sumN (fCh g (nI R) (-1)) j)), (5, .int (nI j)), (0, .ref (ma 0 0)), (1, .ref ah), (2, .int (nI R)), (3, .int (nI 2))] ∧ va_S (fun q => s.heap.size ≤ q) s.heap H locs) n5 ?_ 0 () ls _ _ _ _ (Nat.zero_le _) ⟨rfl, rfl, lv_sub hl [1, 0, 2, 3, 4, 5] rfl, hS⟩
      intro j _ ls H locs cells slots hi_j hinv ih_j
      obtain ⟨rfl, rfl, hl, hS⟩ := hinv
      have hl : lv_has ls 8 [(4, .int (sumN (fCh g (nI R) (-1)) j)), (5, .int (nI j)), (0, .ref (ma 0 0)), (1, .ref ah), (2, .int (nI R)), (3, .int (nI 2))] := hl
      have hcl9 := cntR_le (g := g) (R := R) (n := j) (k := n5) (by omega)
      refine lv_iload hx hb dX12_ofReaderNow_28 (lv_at hl 1 rfl) ?_
      refine lv_aload_n hx hb dX12_ofReaderNow_30 rfl (lv_at hl 2 rfl) ?_
      refine va_get hx hb hts hinX12 hown hK ((hM.later hS).Pa hR.o.1 rfl hR.o.2) 0 rfl rfl 4 (by decide) (hk1) (fun _ h9 => h9) rfl dX12_ofReaderNow_31 ?_
      obtain ⟨huz_3, hnz_3, mz_3, bz_3, hCz_3⟩ := isL.hd hR.l7
      refine zcVi (As := []) (rest := [.int (nI j)]) ⟨hx, hb, hml, hown, hts⟩ (c_size l D ty A u C ma t0 mi 7 0 n5 (ma 26) hR.l7) (cwV 0 hts gX12_ofReaderNow_Jx4a65c_size_8abf5 rfl rfl rfl (by decide +kernel) ⟨Nat.le_of_ble_eq_true rfl, Nat.le_of_ble_eq_true rfl⟩) (mI_blind) (mI_preN hM hK hMS hS) (va_recv hK ((hM.later hS).Pa huz_3 rfl hCz_3) (ci := 0) (q0 := 0) rfl rfl) rfl hl.1 rfl (Nat.le_of_ble_eq_true rfl) dX12_ofReaderNow_34 ⟨by show _ ≤ cntR g R n5; omega, by show _ ≤ 6 * cntR g R n5; omega⟩ (fun r_4 hr_4 => ?_)
      subst hr_4
      refine lv_icmp_ge (tgt := 135) hx hb dX12_ofReaderNow_37 (by decide) (fun c_5 => ?_) (fun c_5 => ?_)
      · have c_5 := zn_geT (a := j) (b := n5) (by omega) (by omega) c_5
        obtain rfl : n5 = j := by omega
        refine lv_iload hx hb dX12_ofReaderNow_135 (lv_at hl 0 rfl) ?_
        refine W.widen (k := cntR g R n5) (n := 6 * cntR g R n5) (Nat.le_refl _) (Nat.le_refl _) ?_
        exact W.iret (v := sumN (fCh g (nI R) (-1)) n5) hx hb hr (fun t ht hW => ⟨⟨_, (), rfl, rfl, trivial⟩, hS.F ht⟩) hS.2.2 dX12_ofReaderNow_137
      · have c_5 := zn_geF (a := j) (b := n5) (by omega) (by omega) c_5
        refine lv_aload_n hx hb dX12_ofReaderNow_40 rfl (lv_at hl 2 rfl) ?_
        refine va_get hx hb hts hinX12 hown hK ((hM.later hS).Pa hR.o.1 rfl hR.o.2) 0 rfl rfl 4 (by decide) (hk1) (fun _ h9 => h9) rfl dX12_ofReaderNow_41 ?_
        refine lv_iload hx hb dX12_ofReaderNow_44 (lv_at hl 1 rfl) ?_
        obtain ⟨huz_6, hnz_6, mz_6, bz_6, hCz_6⟩ := isL.hd hR.l7
        refine zcVr (x := .ref (ma 26 j)) (As := [.int (nI j)]) (rest := []) ⟨hx, hb, hml, hown, hts⟩ (c_get l D ty A u C ma t0 mi 7 0 n5 (ma 26) hR.l7 j (by omega)) (cwV 1 hts gX12_ofReaderNow_Jx4a65c_get_915e3 rfl rfl rfl (by decide +kernel) ⟨Nat.le_of_ble_eq_true rfl, Nat.le_of_ble_eq_true rfl⟩) (mI_blind) (mI_preN hM hK hMS hS) (va_recv hK ((hM.later hS).Pa huz_6 rfl hCz_6) (ci := 0) (q0 := 0) rfl rfl) rfl hl.1 rfl (Nat.le_of_ble_eq_true rfl) dX12_ofReaderNow_46 ⟨by show _ ≤ cntR g R n5; omega, by show _ ≤ 6 * cntR g R n5; omega⟩ ?_
        refine va_castS hx hb hown (hk2) ((hK.1 10 _ rfl).2) (va_recv hK ((hM.later hS).Pa (hR.r26 (r := j) (by omega)).1 rfl (hR.r26 (r := j) (by omega)).2) (ci := 10) (q0 := 0) rfl rfl) dX12_ofReaderNow_49 ?_
        refine lv_astore (lv' := [(6, .ref (ma 26 j)), (4, .int (sumN (fCh g (nI R) (-1)) j)), (5, .int (nI j)), (0, .ref (ma 0 0)), (1, .ref ah), (2, .int (nI R)), (3, .int (nI 2))]) hx hb dX12_ofReaderNow_52 hl (by decide) rfl (fun ls hl => ?_)
        refine lv_aload hx hb dX12_ofReaderNow_54 (lv_at hl 0 rfl) ?_
        refine va_get hx hb hts hinX9 hown hK ((hM.later hS).Pa (hR.r26 (r := j) (by omega)).1 rfl (hR.r26 (r := j) (by omega)).2) 0 rfl rfl 0 (by decide) (hk4) (fun _ h9 => h9) rfl dX12_ofReaderNow_56 ?_
        refine lv_iload_n hx hb dX12_ofReaderNow_59 rfl (lv_at hl 5 rfl) ?_
        refine lv_icmp_eq (tgt := 66) hx hb dX12_ofReaderNow_60 (by decide) (fun c_8 => ?_) (fun c_8 => ?_)
        · refine lv_bipush (v := nI 6) hx hb dX12_ofReaderNow_66 (by decide) ?_
          have hcn9 := cntR_le (g := g) (R := R) (n := j + 1) (k := n5) (by omega)
          rw [cntR_y c_8] at hcn9
          refine mnewa1 hx hb (hts (.arrayClass .int) (by decide +kernel)) hK hS (fun q h => Nat.le_trans hS.1 h) (n := 6) (N' := 6) (by omega) rfl (by omega) (by show _ + 1 ≤ cntR g R n5; omega) (by show _ + 6 ≤ 6 * cntR g R n5; omega) dX12_ofReaderNow_68 (fun H sq hP hD hS ho => ?_)
          refine lv_dup hx hb dX12_ofReaderNow_70 rfl ?_
          refine lv_iconst (v := nI 0) hx hb dX12_ofReaderNow_71 (by decide) ?_
          refine lv_iconst (v := nI 0) hx hb dX12_ofReaderNow_72 (by decide) ?_
          refine zast hx hb hK hP hD hS 0 0 rfl rfl (i := 0) (by omega) (by decide) dX12_ofReaderNow_73 (fun H locs hP hS => ?_)
          have hP : va_P D vwCl [(sq, eI (ty 0) 6 (upd (fun _ => 0) 0 (nI 0)))] H := hP
          have hD : va_D (fun q => s.heap.size ≤ q) [(sq, eI (ty 0) 6 (upd (fun _ => 0) 0 (nI 0)))] := D1u hD
          refine lv_dup hx hb dX12_ofReaderNow_74 rfl ?_
          refine lv_iconst (v := nI 1) hx hb dX12_ofReaderNow_75 (by decide) ?_
          refine lv_iconst (v := nI 1) hx hb dX12_ofReaderNow_76 (by decide) ?_
          refine zast hx hb hK hP hD hS 0 0 rfl rfl (i := 1) (by omega) (by decide) dX12_ofReaderNow_77 (fun H locs hP hS => ?_)
          have hP : va_P D vwCl [(sq, eI (ty 0) 6 (upd (upd (fun _ => 0) 0 (nI 0)) 1 (nI 1)))] H := hP
          have hD : va_D (fun q => s.heap.size ≤ q) [(sq, eI (ty 0) 6 (upd (upd (fun _ => 0) 0 (nI 0)) 1 (nI 1)))] := D1u hD
          refine lv_dup hx hb dX12_ofReaderNow_78 rfl ?_
          refine lv_iconst (v := nI 2) hx hb dX12_ofReaderNow_79 (by decide) ?_
          refine lv_aload hx hb dX12_ofReaderNow_80 (lv_at hl 0 rfl) ?_
          refine zcVi (As := []) (rest := [.int (nI 2), .ref sq, .ref sq]) ⟨hx, hb, hml, hown, hts⟩ (c_X9_charge l D ty A u C ma t0 mi g n1 n2 nL n4 n5 th rep bro hR j (by omega)) (cwV 0 hts gX12_ofReaderNow_X9_charge rfl rfl rfl (by decide +kernel) ⟨Nat.le_of_ble_eq_true rfl, Nat.le_of_ble_eq_true rfl⟩) (mI_blind) (mI_preN hM hK hMS hS) (va_recv hK ((hM.later hS).Pa (hR.r26 (r := j) (by omega)).1 rfl (hR.r26 (r := j) (by omega)).2) (ci := 10) (q0 := 0) rfl rfl) rfl hl.1 rfl (Nat.le_of_ble_eq_true rfl) dX12_ofReaderNow_82 ⟨by show _ ≤ cntR g R n5; omega, by show _ ≤ 6 * cntR g R n5; omega⟩ (fun r_9 hr_9 => ?_)
          subst hr_9
          refine zast hx hb hK hP hD hS 0 0 rfl rfl (i := 2) (by omega) (by decide) dX12_ofReaderNow_85 (fun H locs hP hS => ?_)
          have hP : va_P D vwCl [(sq, eI (ty 0) 6 (upd (upd (upd (fun _ => 0) 0 (nI 0)) 1 (nI 1)) 2 (chN g j)))] H := hP
          have hD : va_D (fun q => s.heap.size ≤ q) [(sq, eI (ty 0) 6 (upd (upd (upd (fun _ => 0) 0 (nI 0)) 1 (nI 1)) 2 (chN g j)))] := D1u hD
          refine lv_dup hx hb dX12_ofReaderNow_86 rfl ?_
          refine lv_iconst (v := nI 3) hx hb dX12_ofReaderNow_87 (by decide) ?_
          refine lv_aload hx hb dX12_ofReaderNow_88 (lv_at hl 0 rfl) ?_
          refine lv_aload_n hx hb dX12_ofReaderNow_90 rfl (lv_at hl 4 rfl) ?_
          refine zcVi (As := [.ref ah]) (rest := [.int (nI 3), .ref sq, .ref sq]) ⟨hx, hb, hml, hown, hts⟩ (c_X9_credit l D ty A u C ma t0 mi g n1 n2 nL n4 n5 th rep bro hR _ j (by omega)) (cwV 1 hts gX12_ofReaderNow_X9_credit rfl rfl rfl (by decide +kernel) ⟨Nat.le_of_ble_eq_true rfl, Nat.le_of_ble_eq_true rfl⟩) (mIh_blind) (mIh_preN hM hK hMS hS hA) (va_recv hK ((hM.later hS).Pa (hR.r26 (r := j) (by omega)).1 rfl (hR.r26 (r := j) (by omega)).2) (ci := 10) (q0 := 0) rfl rfl) rfl hl.1 rfl (Nat.le_of_ble_eq_true rfl) dX12_ofReaderNow_91 ⟨by show _ ≤ cntR g R n5; omega, by show _ ≤ 6 * cntR g R n5; omega⟩ (fun r_10 hr_10 => ?_)
          subst hr_10
          refine zast hx hb hK hP hD hS 0 0 rfl rfl (i := 3) (by omega) (by decide) dX12_ofReaderNow_94 (fun H locs hP hS => ?_)
          have hP : va_P D vwCl [(sq, eI (ty 0) 6 (upd (upd (upd (upd (fun _ => 0) 0 (nI 0)) 1 (nI 1)) 2 (chN g j)) 3 (crN g 21 j)))] H := hP
          have hD : va_D (fun q => s.heap.size ≤ q) [(sq, eI (ty 0) 6 (upd (upd (upd (upd (fun _ => 0) 0 (nI 0)) 1 (nI 1)) 2 (chN g j)) 3 (crN g 21 j)))] := D1u hD
          refine lv_dup hx hb dX12_ofReaderNow_95 rfl ?_
          refine lv_iconst (v := nI 4) hx hb dX12_ofReaderNow_96 (by decide) ?_
          refine lv_aload hx hb dX12_ofReaderNow_97 (lv_at hl 0 rfl) ?_
          refine va_get hx hb hts hinX9 hown hK ((hM.later hS).Pa (hR.r26 (r := j) (by omega)).1 rfl (hR.r26 (r := j) (by omega)).2) 0 rfl rfl 9 (by decide) (hk5) (fun _ h9 => h9) rfl dX12_ofReaderNow_99 ?_
          refine zast hx hb hK hP hD hS 0 0 rfl rfl (i := 4) (by omega) (by decide) dX12_ofReaderNow_102 (fun H locs hP hS => ?_)
          have hP : va_P D vwCl [(sq, eI (ty 0) 6 (upd (upd (upd (upd (upd (fun _ => 0) 0 (nI 0)) 1 (nI 1)) 2 (chN g j)) 3 (crN g 21 j)) 4 (g 37 j)))] H := hP
          have hD : va_D (fun q => s.heap.size ≤ q) [(sq, eI (ty 0) 6 (upd (upd (upd (upd (upd (fun _ => 0) 0 (nI 0)) 1 (nI 1)) 2 (chN g j)) 3 (crN g 21 j)) 4 (g 37 j)))] := D1u hD
          refine lv_dup hx hb dX12_ofReaderNow_103 rfl ?_
          refine lv_iconst (v := nI 5) hx hb dX12_ofReaderNow_104 (by decide) ?_
          refine lv_aload hx hb dX12_ofReaderNow_105 (lv_at hl 0 rfl) ?_
          refine lv_aload_n hx hb dX12_ofReaderNow_107 rfl (lv_at hl 4 rfl) ?_
          refine zcVi (As := [.ref ah]) (rest := [.int (nI 5), .ref sq, .ref sq]) ⟨hx, hb, hml, hown, hts⟩ (c_X9_worth l D ty A u C ma t0 mi g n1 n2 nL n4 n5 th rep bro hR _ j (by omega)) (cwV 1 hts gX12_ofReaderNow_X9_worth rfl rfl rfl (by decide +kernel) ⟨Nat.le_of_ble_eq_true rfl, Nat.le_of_ble_eq_true rfl⟩) (mIh_blind) (mIh_preN hM hK hMS hS hA) (va_recv hK ((hM.later hS).Pa (hR.r26 (r := j) (by omega)).1 rfl (hR.r26 (r := j) (by omega)).2) (ci := 10) (q0 := 0) rfl rfl) rfl hl.1 rfl (Nat.le_of_ble_eq_true rfl) dX12_ofReaderNow_108 ⟨by show _ ≤ cntR g R n5; omega, by show _ ≤ 6 * cntR g R n5; omega⟩ (fun r_11 hr_11 => ?_)
          subst hr_11
          refine lv_aload hx hb dX12_ofReaderNow_111 (lv_at hl 0 rfl) ?_
          refine va_get hx hb hts hinX9 hown hK ((hM.later hS).Pa (hR.r26 (r := j) (by omega)).1 rfl (hR.r26 (r := j) (by omega)).2) 0 rfl rfl 9 (by decide) (hk5) (fun _ h9 => h9) rfl dX12_ofReaderNow_113 ?_
          refine lv_isub hx hb dX12_ofReaderNow_116 ?_
          refine zast hx hb hK hP hD hS 0 0 rfl rfl (i := 5) (by omega) (by decide) dX12_ofReaderNow_117 (fun H locs hP hS => ?_)
          have hP : va_P D vwCl [(sq, eI (ty 0) 6 (upd (upd (upd (upd (upd (upd (fun _ => 0) 0 (nI 0)) 1 (nI 1)) 2 (chN g j)) 3 (crN g 21 j)) 4 (g 37 j)) 5 ((chN g j - crN g 21 j) - (g 37 j))))] H := hP
          have hD : va_D (fun q => s.heap.size ≤ q) [(sq, eI (ty 0) 6 (upd (upd (upd (upd (upd (upd (fun _ => 0) 0 (nI 0)) 1 (nI 1)) 2 (chN g j)) 3 (crN g 21 j)) 4 (g 37 j)) 5 ((chN g j - crN g 21 j) - (g 37 j))))] := D1u hD
          refine lv_astore (lv' := [(7, .ref sq), (6, .ref (ma 26 j)), (4, .int (sumN (fCh g (nI R) (-1)) j)), (5, .int (nI j)), (0, .ref (ma 0 0)), (1, .ref ah), (2, .int (nI R)), (3, .int (nI 2))]) hx hb dX12_ofReaderNow_118 hl (by decide) rfl (fun ls hl => ?_)
          refine lv_iload hx hb dX12_ofReaderNow_120 (lv_at hl 2 rfl) ?_
          refine lv_aload hx hb dX12_ofReaderNow_122 (lv_at hl 0 rfl) ?_
          refine lv_iload_n hx hb dX12_ofReaderNow_124 rfl (lv_at hl 7 rfl) ?_
          refine zald hx hb hK hP 0 0 rfl rfl (i := 2) (by omega) (by decide) dX12_ofReaderNow_125 ?_
          refine zeq (show _ = chN g j from rfl) ?_
          refine lv_iadd hx hb dX12_ofReaderNow_126 ?_
          refine lv_istore (lv' := [(4, .int ((sumN (fCh g (nI R) (-1)) j) + (chN g j))), (7, .ref sq), (6, .ref (ma 26 j)), (5, .int (nI j)), (0, .ref (ma 0 0)), (1, .ref ah), (2, .int (nI R)), (3, .int (nI 2))]) hx hb dX12_ofReaderNow_127 hl (by decide) rfl (fun ls hl => ?_)
          refine lv_iinc (v := nI (j + 1)) (lv' := [(5, .int (nI (j + 1))), (4, .int ((sumN (fCh g (nI R) (-1)) j) + (chN g j))), (7, .ref sq), (6, .ref (ma 26 j)), (0, .ref (ma 0 0)), (1, .ref ah), (2, .int (nI R)), (3, .int (nI 2))]) hx hb dX12_ofReaderNow_129 hl (k := 3) rfl (nI_add j 1) (by decide) rfl (fun ls hl => ?_)
          refine lv_goto (tgt := 28) hx hb dX12_ofReaderNow_132 (by decide) ?_
          have hcn := cntR_y (g := g) (R := R) (n := j) c_8
          refine W.widen (k := cntR g R (j + 1)) (n := 6 * cntR g R (j + 1)) (by rw [hcn]; exact Nat.le_refl _) (by rw [hcn]; omega) ?_
          refine ih_j () ls _ _ _ _ (by omega) ⟨rfl, rfl, show lv_has ls 8 [(4, .int (sumN (fCh g (nI R) (-1)) (j + 1))), (5, .int (nI (j + 1))), (0, .ref (ma 0 0)), (1, .ref ah), (2, .int (nI R)), (3, .int (nI 2))] from ?_, hS⟩
          rw [show sumN (fCh g (nI R) (-1)) (j + 1) = (sumN (fCh g (nI R) (-1)) j) + (chN g j) from congrArg (fun z => (sumN (fCh g (nI R) (-1)) j) +  z) (show (fCh g (nI R) (-1)) j = (chN g j) from by unfold fCh; rw [ofB_r (by omega)]; simp only [decide_eq_true c_8, Bool.not_true, Bool.not_false, Bool.and_true, Bool.true_and, Bool.and_false, Bool.false_and, Bool.or_true, Bool.true_or, Bool.or_false, Bool.false_or, Bool.and_self, Bool.or_self, if_true, Bool.false_eq_true, if_false] <;> rfl)]
          exact lv_sub hl [1, 0, 4, 5, 6, 7] rfl
        · refine lv_goto (tgt := 129) hx hb dX12_ofReaderNow_63 (by decide) ?_
          refine lv_iinc (v := nI (j + 1)) (lv' := [(5, .int (nI (j + 1))), (6, .ref (ma 26 j)), (4, .int (sumN (fCh g (nI R) (-1)) j)), (0, .ref (ma 0 0)), (1, .ref ah), (2, .int (nI R)), (3, .int (nI 2))]) hx hb dX12_ofReaderNow_129 hl (k := 2) rfl (nI_add j 1) (by decide) rfl (fun ls hl => ?_)
          refine lv_goto (tgt := 28) hx hb dX12_ofReaderNow_132 (by decide) ?_
          have hcn := cntR_n (g := g) (R := R) (n := j) c_8
          rw [← hcn]
          refine ih_j () ls _ _ _ _ (by omega) ⟨rfl, rfl, show lv_has ls 8 [(4, .int (sumN (fCh g (nI R) (-1)) (j + 1))), (5, .int (nI (j + 1))), (0, .ref (ma 0 0)), (1, .ref ah), (2, .int (nI R)), (3, .int (nI 2))] from ?_, hS⟩
          rw [show sumN (fCh g (nI R) (-1)) (j + 1) = sumN (fCh g (nI R) (-1)) j from (congrArg (fun z => (sumN (fCh g (nI R) (-1)) j) +  z) (show (fCh g (nI R) (-1)) j = 0 from by unfold fCh; rw [ofB_r (by omega)]; simp only [decide_eq_false c_8, Bool.not_true, Bool.not_false, Bool.and_true, Bool.true_and, Bool.and_false, Bool.false_and, Bool.or_true, Bool.true_or, Bool.or_false, Bool.false_or, Bool.and_self, Bool.or_self, if_true, Bool.false_eq_true, if_false] <;> rfl)).trans (Int32.add_zero _)]
          exact lv_sub hl [2, 0, 3, 4, 5, 6] rfl
    · have c_2 := zn_neF (a := 2) (b := 6) (by omega) (by omega) c_2
      omega
  · have c_1 := zq_neF (x := 2) (by omega) c_1
    omega
set_option maxHeartbeats 600000 in
set_option maxRecDepth 100000 in
theorem c_X12_ofReaderNow_3 (l : Launch) (D : va_G) (ty : Nat → ClassId) (A : Nat → Prop) (u : Nat → Nat → Prop) (C : Nat → Nat → va_E) (ma : Nat → Nat → Nat) (t0 mi : Nat) (g : Nat → Nat → Int32) (n1 n2 nL n4 n5 : Nat) (th : Int32) (rep bro : Nat → Nat → Int32) (hR : mR ty t0 g n1 n2 nL n4 n5 th rep bro u C ma) (ah : Nat) (sz : Nat) (R : Nat) (hr6 : R < 6) : Met l yX12_ofReaderNow wsX12_ofReaderNow ({ frames := 6, cells := (cntR g R n5), slots := (6 * cntR g R n5), locals := 200 }) (va_Pc [.ref (ma 0 0), .ref ah, .int (nI R), .int (nI 3)] (mIhs D ty A u C ma t0 mi ah (g 21) sz)) (mkQ sz (fun v_ => v_ = ofReaderN g n4 n5 R 3)) (cntR g R n5) (6 * cntR g R n5) (fun q => sz ≤ q) := by
  refine zMet (cc := cX12_ofReaderNow) (maxL := 8) (ret := (some .int)) (by decide) rfl (Nat.le_of_ble_eq_true rfl) ?_
  intro p e s m below meth c hx hb hr hts hown hlocks hml hB ls hl
  obtain ⟨⟨⟨hM, hK, hMS⟩, ⟨hmb, hmd, hA⟩⟩, hsz⟩ := hB
  subst hsz
  have hS : va_S (fun q => s.heap.size ≤ q) s.heap s.heap [] := va_S.rf
  have hbn := hR.I.b1
  have hbs := hR.I.b2
  have hbl := hR.I.bL
  have hbc := hR.I.b4
  have hbr := hR.I.b5
  have hl : lv_has ls 8 [(0, .ref (ma 0 0)), (1, .ref ah), (2, .int (nI R)), (3, .int (nI 3))] := hl
  have hinX12 : ∀ w ∈ wsX120, w ∈ wsX12_ofReaderNow := by decide +kernel
  have hk1 := hts (.fieldLink RX12 22 "DatamarketDeskModel" "reads" "Ljava/util/ArrayList;") (by decide +kernel)
  have hk2 := hts (.classLink RX12 152 "DatamarketDeskModel$Read") (by decide +kernel)
  have hinX9 : ∀ w ∈ wsX90, w ∈ wsX12_ofReaderNow := by decide +kernel
  have hk4 := hts (.fieldLink RX12 217 "DatamarketDeskModel$Read" "reader" "I") (by decide +kernel)
  have hk5 := hts (.fieldLink RX12 260 "DatamarketDeskModel$Read" "billed" "I") (by decide +kernel)
  refine lv_iload_n hx hb dX12_ofReaderNow_0 rfl (lv_at hl 3 rfl) ?_
  refine lv_if_ne (tgt := 10) hx hb dX12_ofReaderNow_1 (by decide) (fun c_1 => ?_) (fun c_1 => ?_)
  · have c_1 := zq_neT (x := 3) (by omega) c_1
    refine lv_iload_n hx hb dX12_ofReaderNow_10 rfl (lv_at hl 3 rfl) ?_
    refine lv_bipush (v := nI 6) hx hb dX12_ofReaderNow_11 (by decide) ?_
    refine lv_icmp_ne (tgt := 22) hx hb dX12_ofReaderNow_13 (by decide) (fun c_2 => ?_) (fun c_2 => ?_)
    · have c_2 := zn_neT (a := 3) (b := 6) (by omega) (by omega) c_2
      refine lv_iconst (v := nI 0) hx hb dX12_ofReaderNow_22 (by decide) ?_
      refine lv_istore (lv' := [(4, .int (nI 0)), (0, .ref (ma 0 0)), (1, .ref ah), (2, .int (nI R)), (3, .int (nI 3))]) hx hb dX12_ofReaderNow_23 hl (by decide) rfl (fun ls hl => ?_)
      refine lv_iconst (v := nI 0) hx hb dX12_ofReaderNow_25 (by decide) ?_
      refine lv_istore (lv' := [(5, .int (nI 0)), (4, .int (nI 0)), (0, .ref (ma 0 0)), (1, .ref ah), (2, .int (nI R)), (3, .int (nI 3))]) hx hb dX12_ofReaderNow_26 hl (by decide) rfl (fun ls hl => ?_)
      refine zloop (τ := Unit) (fun j _ ls H locs cells slots => cells = cntR g R j ∧ slots = 6 * cntR g R j ∧ lv_has ls 8 [(4, .int (sumN (fCr g (nI R) (-1) 21) j)), (5, .int (nI j)), (0, .ref (ma 0 0)), (1, .ref ah), (2, .int (nI R)), (3, .int (nI 3))] ∧ va_S (fun q => s.heap.size ≤ q) s.heap H locs) n5 ?_ 0 () ls _ _ _ _ (Nat.zero_le _) ⟨rfl, rfl, lv_sub hl [1, 0, 2, 3, 4, 5] rfl, hS⟩
      intro j _ ls H locs cells slots hi_j hinv ih_j
      obtain ⟨rfl, rfl, hl, hS⟩ := hinv
      have hl : lv_has ls 8 [(4, .int (sumN (fCr g (nI R) (-1) 21) j)), (5, .int (nI j)), (0, .ref (ma 0 0)), (1, .ref ah), (2, .int (nI R)), (3, .int (nI 3))] := hl
      have hcl9 := cntR_le (g := g) (R := R) (n := j) (k := n5) (by omega)
      refine lv_iload hx hb dX12_ofReaderNow_28 (lv_at hl 1 rfl) ?_
      refine lv_aload_n hx hb dX12_ofReaderNow_30 rfl (lv_at hl 2 rfl) ?_
      refine va_get hx hb hts hinX12 hown hK ((hM.later hS).Pa hR.o.1 rfl hR.o.2) 0 rfl rfl 4 (by decide) (hk1) (fun _ h9 => h9) rfl dX12_ofReaderNow_31 ?_
      obtain ⟨huz_3, hnz_3, mz_3, bz_3, hCz_3⟩ := isL.hd hR.l7
      refine zcVi (As := []) (rest := [.int (nI j)]) ⟨hx, hb, hml, hown, hts⟩ (c_size l D ty A u C ma t0 mi 7 0 n5 (ma 26) hR.l7) (cwV 0 hts gX12_ofReaderNow_Jx4a65c_size_8abf5 rfl rfl rfl (by decide +kernel) ⟨Nat.le_of_ble_eq_true rfl, Nat.le_of_ble_eq_true rfl⟩) (mI_blind) (mI_preN hM hK hMS hS) (va_recv hK ((hM.later hS).Pa huz_3 rfl hCz_3) (ci := 0) (q0 := 0) rfl rfl) rfl hl.1 rfl (Nat.le_of_ble_eq_true rfl) dX12_ofReaderNow_34 ⟨by show _ ≤ cntR g R n5; omega, by show _ ≤ 6 * cntR g R n5; omega⟩ (fun r_4 hr_4 => ?_)
      subst hr_4
      refine lv_icmp_ge (tgt := 135) hx hb dX12_ofReaderNow_37 (by decide) (fun c_5 => ?_) (fun c_5 => ?_)
      · have c_5 := zn_geT (a := j) (b := n5) (by omega) (by omega) c_5
        obtain rfl : n5 = j := by omega
        refine lv_iload hx hb dX12_ofReaderNow_135 (lv_at hl 0 rfl) ?_
        refine W.widen (k := cntR g R n5) (n := 6 * cntR g R n5) (Nat.le_refl _) (Nat.le_refl _) ?_
        exact W.iret (v := sumN (fCr g (nI R) (-1) 21) n5) hx hb hr (fun t ht hW => ⟨⟨_, (), rfl, rfl, trivial⟩, hS.F ht⟩) hS.2.2 dX12_ofReaderNow_137
      · have c_5 := zn_geF (a := j) (b := n5) (by omega) (by omega) c_5
        refine lv_aload_n hx hb dX12_ofReaderNow_40 rfl (lv_at hl 2 rfl) ?_
        refine va_get hx hb hts hinX12 hown hK ((hM.later hS).Pa hR.o.1 rfl hR.o.2) 0 rfl rfl 4 (by decide) (hk1) (fun _ h9 => h9) rfl dX12_ofReaderNow_41 ?_
        refine lv_iload hx hb dX12_ofReaderNow_44 (lv_at hl 1 rfl) ?_
        obtain ⟨huz_6, hnz_6, mz_6, bz_6, hCz_6⟩ := isL.hd hR.l7
        refine zcVr (x := .ref (ma 26 j)) (As := [.int (nI j)]) (rest := []) ⟨hx, hb, hml, hown, hts⟩ (c_get l D ty A u C ma t0 mi 7 0 n5 (ma 26) hR.l7 j (by omega)) (cwV 1 hts gX12_ofReaderNow_Jx4a65c_get_915e3 rfl rfl rfl (by decide +kernel) ⟨Nat.le_of_ble_eq_true rfl, Nat.le_of_ble_eq_true rfl⟩) (mI_blind) (mI_preN hM hK hMS hS) (va_recv hK ((hM.later hS).Pa huz_6 rfl hCz_6) (ci := 0) (q0 := 0) rfl rfl) rfl hl.1 rfl (Nat.le_of_ble_eq_true rfl) dX12_ofReaderNow_46 ⟨by show _ ≤ cntR g R n5; omega, by show _ ≤ 6 * cntR g R n5; omega⟩ ?_
        refine va_castS hx hb hown (hk2) ((hK.1 10 _ rfl).2) (va_recv hK ((hM.later hS).Pa (hR.r26 (r := j) (by omega)).1 rfl (hR.r26 (r := j) (by omega)).2) (ci := 10) (q0 := 0) rfl rfl) dX12_ofReaderNow_49 ?_
        refine lv_astore (lv' := [(6, .ref (ma 26 j)), (4, .int (sumN (fCr g (nI R) (-1) 21) j)), (5, .int (nI j)), (0, .ref (ma 0 0)), (1, .ref ah), (2, .int (nI R)), (3, .int (nI 3))]) hx hb dX12_ofReaderNow_52 hl (by decide) rfl (fun ls hl => ?_)
        refine lv_aload hx hb dX12_ofReaderNow_54 (lv_at hl 0 rfl) ?_
        refine va_get hx hb hts hinX9 hown hK ((hM.later hS).Pa (hR.r26 (r := j) (by omega)).1 rfl (hR.r26 (r := j) (by omega)).2) 0 rfl rfl 0 (by decide) (hk4) (fun _ h9 => h9) rfl dX12_ofReaderNow_56 ?_
        refine lv_iload_n hx hb dX12_ofReaderNow_59 rfl (lv_at hl 5 rfl) ?_
        refine lv_icmp_eq (tgt := 66) hx hb dX12_ofReaderNow_60 (by decide) (fun c_8 => ?_) (fun c_8 => ?_)
        · refine lv_bipush (v := nI 6) hx hb dX12_ofReaderNow_66 (by decide) ?_
          have hcn9 := cntR_le (g := g) (R := R) (n := j + 1) (k := n5) (by omega)
          rw [cntR_y c_8] at hcn9
          refine mnewa1 hx hb (hts (.arrayClass .int) (by decide +kernel)) hK hS (fun q h => Nat.le_trans hS.1 h) (n := 6) (N' := 6) (by omega) rfl (by omega) (by show _ + 1 ≤ cntR g R n5; omega) (by show _ + 6 ≤ 6 * cntR g R n5; omega) dX12_ofReaderNow_68 (fun H sq hP hD hS ho => ?_)
          refine lv_dup hx hb dX12_ofReaderNow_70 rfl ?_
          refine lv_iconst (v := nI 0) hx hb dX12_ofReaderNow_71 (by decide) ?_
          refine lv_iconst (v := nI 0) hx hb dX12_ofReaderNow_72 (by decide) ?_
          refine zast hx hb hK hP hD hS 0 0 rfl rfl (i := 0) (by omega) (by decide) dX12_ofReaderNow_73 (fun H locs hP hS => ?_)
          have hP : va_P D vwCl [(sq, eI (ty 0) 6 (upd (fun _ => 0) 0 (nI 0)))] H := hP
          have hD : va_D (fun q => s.heap.size ≤ q) [(sq, eI (ty 0) 6 (upd (fun _ => 0) 0 (nI 0)))] := D1u hD
          refine lv_dup hx hb dX12_ofReaderNow_74 rfl ?_
          refine lv_iconst (v := nI 1) hx hb dX12_ofReaderNow_75 (by decide) ?_
          refine lv_iconst (v := nI 1) hx hb dX12_ofReaderNow_76 (by decide) ?_
          refine zast hx hb hK hP hD hS 0 0 rfl rfl (i := 1) (by omega) (by decide) dX12_ofReaderNow_77 (fun H locs hP hS => ?_)
          have hP : va_P D vwCl [(sq, eI (ty 0) 6 (upd (upd (fun _ => 0) 0 (nI 0)) 1 (nI 1)))] H := hP
          have hD : va_D (fun q => s.heap.size ≤ q) [(sq, eI (ty 0) 6 (upd (upd (fun _ => 0) 0 (nI 0)) 1 (nI 1)))] := D1u hD
          refine lv_dup hx hb dX12_ofReaderNow_78 rfl ?_
          refine lv_iconst (v := nI 2) hx hb dX12_ofReaderNow_79 (by decide) ?_
          refine lv_aload hx hb dX12_ofReaderNow_80 (lv_at hl 0 rfl) ?_
          refine zcVi (As := []) (rest := [.int (nI 2), .ref sq, .ref sq]) ⟨hx, hb, hml, hown, hts⟩ (c_X9_charge l D ty A u C ma t0 mi g n1 n2 nL n4 n5 th rep bro hR j (by omega)) (cwV 0 hts gX12_ofReaderNow_X9_charge rfl rfl rfl (by decide +kernel) ⟨Nat.le_of_ble_eq_true rfl, Nat.le_of_ble_eq_true rfl⟩) (mI_blind) (mI_preN hM hK hMS hS) (va_recv hK ((hM.later hS).Pa (hR.r26 (r := j) (by omega)).1 rfl (hR.r26 (r := j) (by omega)).2) (ci := 10) (q0 := 0) rfl rfl) rfl hl.1 rfl (Nat.le_of_ble_eq_true rfl) dX12_ofReaderNow_82 ⟨by show _ ≤ cntR g R n5; omega, by show _ ≤ 6 * cntR g R n5; omega⟩ (fun r_9 hr_9 => ?_)
          subst hr_9
          refine zast hx hb hK hP hD hS 0 0 rfl rfl (i := 2) (by omega) (by decide) dX12_ofReaderNow_85 (fun H locs hP hS => ?_)
          have hP : va_P D vwCl [(sq, eI (ty 0) 6 (upd (upd (upd (fun _ => 0) 0 (nI 0)) 1 (nI 1)) 2 (chN g j)))] H := hP
          have hD : va_D (fun q => s.heap.size ≤ q) [(sq, eI (ty 0) 6 (upd (upd (upd (fun _ => 0) 0 (nI 0)) 1 (nI 1)) 2 (chN g j)))] := D1u hD
          refine lv_dup hx hb dX12_ofReaderNow_86 rfl ?_
          refine lv_iconst (v := nI 3) hx hb dX12_ofReaderNow_87 (by decide) ?_
          refine lv_aload hx hb dX12_ofReaderNow_88 (lv_at hl 0 rfl) ?_
          refine lv_aload_n hx hb dX12_ofReaderNow_90 rfl (lv_at hl 4 rfl) ?_
          refine zcVi (As := [.ref ah]) (rest := [.int (nI 3), .ref sq, .ref sq]) ⟨hx, hb, hml, hown, hts⟩ (c_X9_credit l D ty A u C ma t0 mi g n1 n2 nL n4 n5 th rep bro hR _ j (by omega)) (cwV 1 hts gX12_ofReaderNow_X9_credit rfl rfl rfl (by decide +kernel) ⟨Nat.le_of_ble_eq_true rfl, Nat.le_of_ble_eq_true rfl⟩) (mIh_blind) (mIh_preN hM hK hMS hS hA) (va_recv hK ((hM.later hS).Pa (hR.r26 (r := j) (by omega)).1 rfl (hR.r26 (r := j) (by omega)).2) (ci := 10) (q0 := 0) rfl rfl) rfl hl.1 rfl (Nat.le_of_ble_eq_true rfl) dX12_ofReaderNow_91 ⟨by show _ ≤ cntR g R n5; omega, by show _ ≤ 6 * cntR g R n5; omega⟩ (fun r_10 hr_10 => ?_)
          subst hr_10
          refine zast hx hb hK hP hD hS 0 0 rfl rfl (i := 3) (by omega) (by decide) dX12_ofReaderNow_94 (fun H locs hP hS => ?_)
          have hP : va_P D vwCl [(sq, eI (ty 0) 6 (upd (upd (upd (upd (fun _ => 0) 0 (nI 0)) 1 (nI 1)) 2 (chN g j)) 3 (crN g 21 j)))] H := hP
          have hD : va_D (fun q => s.heap.size ≤ q) [(sq, eI (ty 0) 6 (upd (upd (upd (upd (fun _ => 0) 0 (nI 0)) 1 (nI 1)) 2 (chN g j)) 3 (crN g 21 j)))] := D1u hD
          refine lv_dup hx hb dX12_ofReaderNow_95 rfl ?_
          refine lv_iconst (v := nI 4) hx hb dX12_ofReaderNow_96 (by decide) ?_
          refine lv_aload hx hb dX12_ofReaderNow_97 (lv_at hl 0 rfl) ?_
          refine va_get hx hb hts hinX9 hown hK ((hM.later hS).Pa (hR.r26 (r := j) (by omega)).1 rfl (hR.r26 (r := j) (by omega)).2) 0 rfl rfl 9 (by decide) (hk5) (fun _ h9 => h9) rfl dX12_ofReaderNow_99 ?_
          refine zast hx hb hK hP hD hS 0 0 rfl rfl (i := 4) (by omega) (by decide) dX12_ofReaderNow_102 (fun H locs hP hS => ?_)
          have hP : va_P D vwCl [(sq, eI (ty 0) 6 (upd (upd (upd (upd (upd (fun _ => 0) 0 (nI 0)) 1 (nI 1)) 2 (chN g j)) 3 (crN g 21 j)) 4 (g 37 j)))] H := hP
          have hD : va_D (fun q => s.heap.size ≤ q) [(sq, eI (ty 0) 6 (upd (upd (upd (upd (upd (fun _ => 0) 0 (nI 0)) 1 (nI 1)) 2 (chN g j)) 3 (crN g 21 j)) 4 (g 37 j)))] := D1u hD
          refine lv_dup hx hb dX12_ofReaderNow_103 rfl ?_
          refine lv_iconst (v := nI 5) hx hb dX12_ofReaderNow_104 (by decide) ?_
          refine lv_aload hx hb dX12_ofReaderNow_105 (lv_at hl 0 rfl) ?_
          refine lv_aload_n hx hb dX12_ofReaderNow_107 rfl (lv_at hl 4 rfl) ?_
          refine zcVi (As := [.ref ah]) (rest := [.int (nI 5), .ref sq, .ref sq]) ⟨hx, hb, hml, hown, hts⟩ (c_X9_worth l D ty A u C ma t0 mi g n1 n2 nL n4 n5 th rep bro hR _ j (by omega)) (cwV 1 hts gX12_ofReaderNow_X9_worth rfl rfl rfl (by decide +kernel) ⟨Nat.le_of_ble_eq_true rfl, Nat.le_of_ble_eq_true rfl⟩) (mIh_blind) (mIh_preN hM hK hMS hS hA) (va_recv hK ((hM.later hS).Pa (hR.r26 (r := j) (by omega)).1 rfl (hR.r26 (r := j) (by omega)).2) (ci := 10) (q0 := 0) rfl rfl) rfl hl.1 rfl (Nat.le_of_ble_eq_true rfl) dX12_ofReaderNow_108 ⟨by show _ ≤ cntR g R n5; omega, by show _ ≤ 6 * cntR g R n5; omega⟩ (fun r_11 hr_11 => ?_)
          subst hr_11
          refine lv_aload hx hb dX12_ofReaderNow_111 (lv_at hl 0 rfl) ?_
          refine va_get hx hb hts hinX9 hown hK ((hM.later hS).Pa (hR.r26 (r := j) (by omega)).1 rfl (hR.r26 (r := j) (by omega)).2) 0 rfl rfl 9 (by decide) (hk5) (fun _ h9 => h9) rfl dX12_ofReaderNow_113 ?_
          refine lv_isub hx hb dX12_ofReaderNow_116 ?_
          refine zast hx hb hK hP hD hS 0 0 rfl rfl (i := 5) (by omega) (by decide) dX12_ofReaderNow_117 (fun H locs hP hS => ?_)
          have hP : va_P D vwCl [(sq, eI (ty 0) 6 (upd (upd (upd (upd (upd (upd (fun _ => 0) 0 (nI 0)) 1 (nI 1)) 2 (chN g j)) 3 (crN g 21 j)) 4 (g 37 j)) 5 ((chN g j - crN g 21 j) - (g 37 j))))] H := hP
          have hD : va_D (fun q => s.heap.size ≤ q) [(sq, eI (ty 0) 6 (upd (upd (upd (upd (upd (upd (fun _ => 0) 0 (nI 0)) 1 (nI 1)) 2 (chN g j)) 3 (crN g 21 j)) 4 (g 37 j)) 5 ((chN g j - crN g 21 j) - (g 37 j))))] := D1u hD
          refine lv_astore (lv' := [(7, .ref sq), (6, .ref (ma 26 j)), (4, .int (sumN (fCr g (nI R) (-1) 21) j)), (5, .int (nI j)), (0, .ref (ma 0 0)), (1, .ref ah), (2, .int (nI R)), (3, .int (nI 3))]) hx hb dX12_ofReaderNow_118 hl (by decide) rfl (fun ls hl => ?_)
          refine lv_iload hx hb dX12_ofReaderNow_120 (lv_at hl 2 rfl) ?_
          refine lv_aload hx hb dX12_ofReaderNow_122 (lv_at hl 0 rfl) ?_
          refine lv_iload_n hx hb dX12_ofReaderNow_124 rfl (lv_at hl 7 rfl) ?_
          refine zald hx hb hK hP 0 0 rfl rfl (i := 3) (by omega) (by decide) dX12_ofReaderNow_125 ?_
          refine zeq (show _ = crN g 21 j from rfl) ?_
          refine lv_iadd hx hb dX12_ofReaderNow_126 ?_
          refine lv_istore (lv' := [(4, .int ((sumN (fCr g (nI R) (-1) 21) j) + (crN g 21 j))), (7, .ref sq), (6, .ref (ma 26 j)), (5, .int (nI j)), (0, .ref (ma 0 0)), (1, .ref ah), (2, .int (nI R)), (3, .int (nI 3))]) hx hb dX12_ofReaderNow_127 hl (by decide) rfl (fun ls hl => ?_)
          refine lv_iinc (v := nI (j + 1)) (lv' := [(5, .int (nI (j + 1))), (4, .int ((sumN (fCr g (nI R) (-1) 21) j) + (crN g 21 j))), (7, .ref sq), (6, .ref (ma 26 j)), (0, .ref (ma 0 0)), (1, .ref ah), (2, .int (nI R)), (3, .int (nI 3))]) hx hb dX12_ofReaderNow_129 hl (k := 3) rfl (nI_add j 1) (by decide) rfl (fun ls hl => ?_)
          refine lv_goto (tgt := 28) hx hb dX12_ofReaderNow_132 (by decide) ?_
          have hcn := cntR_y (g := g) (R := R) (n := j) c_8
          refine W.widen (k := cntR g R (j + 1)) (n := 6 * cntR g R (j + 1)) (by rw [hcn]; exact Nat.le_refl _) (by rw [hcn]; omega) ?_
          refine ih_j () ls _ _ _ _ (by omega) ⟨rfl, rfl, show lv_has ls 8 [(4, .int (sumN (fCr g (nI R) (-1) 21) (j + 1))), (5, .int (nI (j + 1))), (0, .ref (ma 0 0)), (1, .ref ah), (2, .int (nI R)), (3, .int (nI 3))] from ?_, hS⟩
          rw [show sumN (fCr g (nI R) (-1) 21) (j + 1) = (sumN (fCr g (nI R) (-1) 21) j) + (crN g 21 j) from congrArg (fun z => (sumN (fCr g (nI R) (-1) 21) j) +  z) (show (fCr g (nI R) (-1) 21) j = (crN g 21 j) from by unfold fCr; rw [ofB_r (by omega)]; simp only [decide_eq_true c_8, Bool.not_true, Bool.not_false, Bool.and_true, Bool.true_and, Bool.and_false, Bool.false_and, Bool.or_true, Bool.true_or, Bool.or_false, Bool.false_or, Bool.and_self, Bool.or_self, if_true, Bool.false_eq_true, if_false] <;> rfl)]
          exact lv_sub hl [1, 0, 4, 5, 6, 7] rfl
        · refine lv_goto (tgt := 129) hx hb dX12_ofReaderNow_63 (by decide) ?_
          refine lv_iinc (v := nI (j + 1)) (lv' := [(5, .int (nI (j + 1))), (6, .ref (ma 26 j)), (4, .int (sumN (fCr g (nI R) (-1) 21) j)), (0, .ref (ma 0 0)), (1, .ref ah), (2, .int (nI R)), (3, .int (nI 3))]) hx hb dX12_ofReaderNow_129 hl (k := 2) rfl (nI_add j 1) (by decide) rfl (fun ls hl => ?_)
          refine lv_goto (tgt := 28) hx hb dX12_ofReaderNow_132 (by decide) ?_
          have hcn := cntR_n (g := g) (R := R) (n := j) c_8
          rw [← hcn]
          refine ih_j () ls _ _ _ _ (by omega) ⟨rfl, rfl, show lv_has ls 8 [(4, .int (sumN (fCr g (nI R) (-1) 21) (j + 1))), (5, .int (nI (j + 1))), (0, .ref (ma 0 0)), (1, .ref ah), (2, .int (nI R)), (3, .int (nI 3))] from ?_, hS⟩
          rw [show sumN (fCr g (nI R) (-1) 21) (j + 1) = sumN (fCr g (nI R) (-1) 21) j from (congrArg (fun z => (sumN (fCr g (nI R) (-1) 21) j) +  z) (show (fCr g (nI R) (-1) 21) j = 0 from by unfold fCr; rw [ofB_r (by omega)]; simp only [decide_eq_false c_8, Bool.not_true, Bool.not_false, Bool.and_true, Bool.true_and, Bool.and_false, Bool.false_and, Bool.or_true, Bool.true_or, Bool.or_false, Bool.false_or, Bool.and_self, Bool.or_self, if_true, Bool.false_eq_true, if_false] <;> rfl)).trans (Int32.add_zero _)]
          exact lv_sub hl [2, 0, 3, 4, 5, 6] rfl
    · have c_2 := zn_neF (a := 3) (b := 6) (by omega) (by omega) c_2
      omega
  · have c_1 := zq_neF (x := 3) (by omega) c_1
    omega
set_option maxHeartbeats 600000 in
set_option maxRecDepth 100000 in
theorem c_X12_ofReaderNow_4 (l : Launch) (D : va_G) (ty : Nat → ClassId) (A : Nat → Prop) (u : Nat → Nat → Prop) (C : Nat → Nat → va_E) (ma : Nat → Nat → Nat) (t0 mi : Nat) (g : Nat → Nat → Int32) (n1 n2 nL n4 n5 : Nat) (th : Int32) (rep bro : Nat → Nat → Int32) (hR : mR ty t0 g n1 n2 nL n4 n5 th rep bro u C ma) (ah : Nat) (sz : Nat) (R : Nat) (hr6 : R < 6) : Met l yX12_ofReaderNow wsX12_ofReaderNow ({ frames := 6, cells := (cntR g R n5), slots := (6 * cntR g R n5), locals := 200 }) (va_Pc [.ref (ma 0 0), .ref ah, .int (nI R), .int (nI 4)] (mIhs D ty A u C ma t0 mi ah (g 21) sz)) (mkQ sz (fun v_ => v_ = ofReaderN g n4 n5 R 4)) (cntR g R n5) (6 * cntR g R n5) (fun q => sz ≤ q) := by
  refine zMet (cc := cX12_ofReaderNow) (maxL := 8) (ret := (some .int)) (by decide) rfl (Nat.le_of_ble_eq_true rfl) ?_
  intro p e s m below meth c hx hb hr hts hown hlocks hml hB ls hl
  obtain ⟨⟨⟨hM, hK, hMS⟩, ⟨hmb, hmd, hA⟩⟩, hsz⟩ := hB
  subst hsz
  have hS : va_S (fun q => s.heap.size ≤ q) s.heap s.heap [] := va_S.rf
  have hbn := hR.I.b1
  have hbs := hR.I.b2
  have hbl := hR.I.bL
  have hbc := hR.I.b4
  have hbr := hR.I.b5
  have hl : lv_has ls 8 [(0, .ref (ma 0 0)), (1, .ref ah), (2, .int (nI R)), (3, .int (nI 4))] := hl
  have hinX12 : ∀ w ∈ wsX120, w ∈ wsX12_ofReaderNow := by decide +kernel
  have hk1 := hts (.fieldLink RX12 22 "DatamarketDeskModel" "reads" "Ljava/util/ArrayList;") (by decide +kernel)
  have hk2 := hts (.classLink RX12 152 "DatamarketDeskModel$Read") (by decide +kernel)
  have hinX9 : ∀ w ∈ wsX90, w ∈ wsX12_ofReaderNow := by decide +kernel
  have hk4 := hts (.fieldLink RX12 217 "DatamarketDeskModel$Read" "reader" "I") (by decide +kernel)
  have hk5 := hts (.fieldLink RX12 260 "DatamarketDeskModel$Read" "billed" "I") (by decide +kernel)
  refine lv_iload_n hx hb dX12_ofReaderNow_0 rfl (lv_at hl 3 rfl) ?_
  refine lv_if_ne (tgt := 10) hx hb dX12_ofReaderNow_1 (by decide) (fun c_1 => ?_) (fun c_1 => ?_)
  · have c_1 := zq_neT (x := 4) (by omega) c_1
    refine lv_iload_n hx hb dX12_ofReaderNow_10 rfl (lv_at hl 3 rfl) ?_
    refine lv_bipush (v := nI 6) hx hb dX12_ofReaderNow_11 (by decide) ?_
    refine lv_icmp_ne (tgt := 22) hx hb dX12_ofReaderNow_13 (by decide) (fun c_2 => ?_) (fun c_2 => ?_)
    · have c_2 := zn_neT (a := 4) (b := 6) (by omega) (by omega) c_2
      refine lv_iconst (v := nI 0) hx hb dX12_ofReaderNow_22 (by decide) ?_
      refine lv_istore (lv' := [(4, .int (nI 0)), (0, .ref (ma 0 0)), (1, .ref ah), (2, .int (nI R)), (3, .int (nI 4))]) hx hb dX12_ofReaderNow_23 hl (by decide) rfl (fun ls hl => ?_)
      refine lv_iconst (v := nI 0) hx hb dX12_ofReaderNow_25 (by decide) ?_
      refine lv_istore (lv' := [(5, .int (nI 0)), (4, .int (nI 0)), (0, .ref (ma 0 0)), (1, .ref ah), (2, .int (nI R)), (3, .int (nI 4))]) hx hb dX12_ofReaderNow_26 hl (by decide) rfl (fun ls hl => ?_)
      refine zloop (τ := Unit) (fun j _ ls H locs cells slots => cells = cntR g R j ∧ slots = 6 * cntR g R j ∧ lv_has ls 8 [(4, .int (sumN (fBil g (nI R)) j)), (5, .int (nI j)), (0, .ref (ma 0 0)), (1, .ref ah), (2, .int (nI R)), (3, .int (nI 4))] ∧ va_S (fun q => s.heap.size ≤ q) s.heap H locs) n5 ?_ 0 () ls _ _ _ _ (Nat.zero_le _) ⟨rfl, rfl, lv_sub hl [1, 0, 2, 3, 4, 5] rfl, hS⟩
      intro j _ ls H locs cells slots hi_j hinv ih_j
      obtain ⟨rfl, rfl, hl, hS⟩ := hinv
      have hl : lv_has ls 8 [(4, .int (sumN (fBil g (nI R)) j)), (5, .int (nI j)), (0, .ref (ma 0 0)), (1, .ref ah), (2, .int (nI R)), (3, .int (nI 4))] := hl
      have hcl9 := cntR_le (g := g) (R := R) (n := j) (k := n5) (by omega)
      refine lv_iload hx hb dX12_ofReaderNow_28 (lv_at hl 1 rfl) ?_
      refine lv_aload_n hx hb dX12_ofReaderNow_30 rfl (lv_at hl 2 rfl) ?_
      refine va_get hx hb hts hinX12 hown hK ((hM.later hS).Pa hR.o.1 rfl hR.o.2) 0 rfl rfl 4 (by decide) (hk1) (fun _ h9 => h9) rfl dX12_ofReaderNow_31 ?_
      obtain ⟨huz_3, hnz_3, mz_3, bz_3, hCz_3⟩ := isL.hd hR.l7
      refine zcVi (As := []) (rest := [.int (nI j)]) ⟨hx, hb, hml, hown, hts⟩ (c_size l D ty A u C ma t0 mi 7 0 n5 (ma 26) hR.l7) (cwV 0 hts gX12_ofReaderNow_Jx4a65c_size_8abf5 rfl rfl rfl (by decide +kernel) ⟨Nat.le_of_ble_eq_true rfl, Nat.le_of_ble_eq_true rfl⟩) (mI_blind) (mI_preN hM hK hMS hS) (va_recv hK ((hM.later hS).Pa huz_3 rfl hCz_3) (ci := 0) (q0 := 0) rfl rfl) rfl hl.1 rfl (Nat.le_of_ble_eq_true rfl) dX12_ofReaderNow_34 ⟨by show _ ≤ cntR g R n5; omega, by show _ ≤ 6 * cntR g R n5; omega⟩ (fun r_4 hr_4 => ?_)
      subst hr_4
      refine lv_icmp_ge (tgt := 135) hx hb dX12_ofReaderNow_37 (by decide) (fun c_5 => ?_) (fun c_5 => ?_)
      · have c_5 := zn_geT (a := j) (b := n5) (by omega) (by omega) c_5
        obtain rfl : n5 = j := by omega
        refine lv_iload hx hb dX12_ofReaderNow_135 (lv_at hl 0 rfl) ?_
        refine W.widen (k := cntR g R n5) (n := 6 * cntR g R n5) (Nat.le_refl _) (Nat.le_refl _) ?_
        exact W.iret (v := sumN (fBil g (nI R)) n5) hx hb hr (fun t ht hW => ⟨⟨_, (), rfl, rfl, trivial⟩, hS.F ht⟩) hS.2.2 dX12_ofReaderNow_137
      · have c_5 := zn_geF (a := j) (b := n5) (by omega) (by omega) c_5
        refine lv_aload_n hx hb dX12_ofReaderNow_40 rfl (lv_at hl 2 rfl) ?_
        refine va_get hx hb hts hinX12 hown hK ((hM.later hS).Pa hR.o.1 rfl hR.o.2) 0 rfl rfl 4 (by decide) (hk1) (fun _ h9 => h9) rfl dX12_ofReaderNow_41 ?_
        refine lv_iload hx hb dX12_ofReaderNow_44 (lv_at hl 1 rfl) ?_
        obtain ⟨huz_6, hnz_6, mz_6, bz_6, hCz_6⟩ := isL.hd hR.l7
        refine zcVr (x := .ref (ma 26 j)) (As := [.int (nI j)]) (rest := []) ⟨hx, hb, hml, hown, hts⟩ (c_get l D ty A u C ma t0 mi 7 0 n5 (ma 26) hR.l7 j (by omega)) (cwV 1 hts gX12_ofReaderNow_Jx4a65c_get_915e3 rfl rfl rfl (by decide +kernel) ⟨Nat.le_of_ble_eq_true rfl, Nat.le_of_ble_eq_true rfl⟩) (mI_blind) (mI_preN hM hK hMS hS) (va_recv hK ((hM.later hS).Pa huz_6 rfl hCz_6) (ci := 0) (q0 := 0) rfl rfl) rfl hl.1 rfl (Nat.le_of_ble_eq_true rfl) dX12_ofReaderNow_46 ⟨by show _ ≤ cntR g R n5; omega, by show _ ≤ 6 * cntR g R n5; omega⟩ ?_
        refine va_castS hx hb hown (hk2) ((hK.1 10 _ rfl).2) (va_recv hK ((hM.later hS).Pa (hR.r26 (r := j) (by omega)).1 rfl (hR.r26 (r := j) (by omega)).2) (ci := 10) (q0 := 0) rfl rfl) dX12_ofReaderNow_49 ?_
        refine lv_astore (lv' := [(6, .ref (ma 26 j)), (4, .int (sumN (fBil g (nI R)) j)), (5, .int (nI j)), (0, .ref (ma 0 0)), (1, .ref ah), (2, .int (nI R)), (3, .int (nI 4))]) hx hb dX12_ofReaderNow_52 hl (by decide) rfl (fun ls hl => ?_)
        refine lv_aload hx hb dX12_ofReaderNow_54 (lv_at hl 0 rfl) ?_
        refine va_get hx hb hts hinX9 hown hK ((hM.later hS).Pa (hR.r26 (r := j) (by omega)).1 rfl (hR.r26 (r := j) (by omega)).2) 0 rfl rfl 0 (by decide) (hk4) (fun _ h9 => h9) rfl dX12_ofReaderNow_56 ?_
        refine lv_iload_n hx hb dX12_ofReaderNow_59 rfl (lv_at hl 5 rfl) ?_
        refine lv_icmp_eq (tgt := 66) hx hb dX12_ofReaderNow_60 (by decide) (fun c_8 => ?_) (fun c_8 => ?_)
        · refine lv_bipush (v := nI 6) hx hb dX12_ofReaderNow_66 (by decide) ?_
          have hcn9 := cntR_le (g := g) (R := R) (n := j + 1) (k := n5) (by omega)
          rw [cntR_y c_8] at hcn9
          refine mnewa1 hx hb (hts (.arrayClass .int) (by decide +kernel)) hK hS (fun q h => Nat.le_trans hS.1 h) (n := 6) (N' := 6) (by omega) rfl (by omega) (by show _ + 1 ≤ cntR g R n5; omega) (by show _ + 6 ≤ 6 * cntR g R n5; omega) dX12_ofReaderNow_68 (fun H sq hP hD hS ho => ?_)
          refine lv_dup hx hb dX12_ofReaderNow_70 rfl ?_
          refine lv_iconst (v := nI 0) hx hb dX12_ofReaderNow_71 (by decide) ?_
          refine lv_iconst (v := nI 0) hx hb dX12_ofReaderNow_72 (by decide) ?_
          refine zast hx hb hK hP hD hS 0 0 rfl rfl (i := 0) (by omega) (by decide) dX12_ofReaderNow_73 (fun H locs hP hS => ?_)
          have hP : va_P D vwCl [(sq, eI (ty 0) 6 (upd (fun _ => 0) 0 (nI 0)))] H := hP
          have hD : va_D (fun q => s.heap.size ≤ q) [(sq, eI (ty 0) 6 (upd (fun _ => 0) 0 (nI 0)))] := D1u hD
          refine lv_dup hx hb dX12_ofReaderNow_74 rfl ?_
          refine lv_iconst (v := nI 1) hx hb dX12_ofReaderNow_75 (by decide) ?_
          refine lv_iconst (v := nI 1) hx hb dX12_ofReaderNow_76 (by decide) ?_
          refine zast hx hb hK hP hD hS 0 0 rfl rfl (i := 1) (by omega) (by decide) dX12_ofReaderNow_77 (fun H locs hP hS => ?_)
          have hP : va_P D vwCl [(sq, eI (ty 0) 6 (upd (upd (fun _ => 0) 0 (nI 0)) 1 (nI 1)))] H := hP
          have hD : va_D (fun q => s.heap.size ≤ q) [(sq, eI (ty 0) 6 (upd (upd (fun _ => 0) 0 (nI 0)) 1 (nI 1)))] := D1u hD
          refine lv_dup hx hb dX12_ofReaderNow_78 rfl ?_
          refine lv_iconst (v := nI 2) hx hb dX12_ofReaderNow_79 (by decide) ?_
          refine lv_aload hx hb dX12_ofReaderNow_80 (lv_at hl 0 rfl) ?_
          refine zcVi (As := []) (rest := [.int (nI 2), .ref sq, .ref sq]) ⟨hx, hb, hml, hown, hts⟩ (c_X9_charge l D ty A u C ma t0 mi g n1 n2 nL n4 n5 th rep bro hR j (by omega)) (cwV 0 hts gX12_ofReaderNow_X9_charge rfl rfl rfl (by decide +kernel) ⟨Nat.le_of_ble_eq_true rfl, Nat.le_of_ble_eq_true rfl⟩) (mI_blind) (mI_preN hM hK hMS hS) (va_recv hK ((hM.later hS).Pa (hR.r26 (r := j) (by omega)).1 rfl (hR.r26 (r := j) (by omega)).2) (ci := 10) (q0 := 0) rfl rfl) rfl hl.1 rfl (Nat.le_of_ble_eq_true rfl) dX12_ofReaderNow_82 ⟨by show _ ≤ cntR g R n5; omega, by show _ ≤ 6 * cntR g R n5; omega⟩ (fun r_9 hr_9 => ?_)
          subst hr_9
          refine zast hx hb hK hP hD hS 0 0 rfl rfl (i := 2) (by omega) (by decide) dX12_ofReaderNow_85 (fun H locs hP hS => ?_)
          have hP : va_P D vwCl [(sq, eI (ty 0) 6 (upd (upd (upd (fun _ => 0) 0 (nI 0)) 1 (nI 1)) 2 (chN g j)))] H := hP
          have hD : va_D (fun q => s.heap.size ≤ q) [(sq, eI (ty 0) 6 (upd (upd (upd (fun _ => 0) 0 (nI 0)) 1 (nI 1)) 2 (chN g j)))] := D1u hD
          refine lv_dup hx hb dX12_ofReaderNow_86 rfl ?_
          refine lv_iconst (v := nI 3) hx hb dX12_ofReaderNow_87 (by decide) ?_
          refine lv_aload hx hb dX12_ofReaderNow_88 (lv_at hl 0 rfl) ?_
          refine lv_aload_n hx hb dX12_ofReaderNow_90 rfl (lv_at hl 4 rfl) ?_
          refine zcVi (As := [.ref ah]) (rest := [.int (nI 3), .ref sq, .ref sq]) ⟨hx, hb, hml, hown, hts⟩ (c_X9_credit l D ty A u C ma t0 mi g n1 n2 nL n4 n5 th rep bro hR _ j (by omega)) (cwV 1 hts gX12_ofReaderNow_X9_credit rfl rfl rfl (by decide +kernel) ⟨Nat.le_of_ble_eq_true rfl, Nat.le_of_ble_eq_true rfl⟩) (mIh_blind) (mIh_preN hM hK hMS hS hA) (va_recv hK ((hM.later hS).Pa (hR.r26 (r := j) (by omega)).1 rfl (hR.r26 (r := j) (by omega)).2) (ci := 10) (q0 := 0) rfl rfl) rfl hl.1 rfl (Nat.le_of_ble_eq_true rfl) dX12_ofReaderNow_91 ⟨by show _ ≤ cntR g R n5; omega, by show _ ≤ 6 * cntR g R n5; omega⟩ (fun r_10 hr_10 => ?_)
          subst hr_10
          refine zast hx hb hK hP hD hS 0 0 rfl rfl (i := 3) (by omega) (by decide) dX12_ofReaderNow_94 (fun H locs hP hS => ?_)
          have hP : va_P D vwCl [(sq, eI (ty 0) 6 (upd (upd (upd (upd (fun _ => 0) 0 (nI 0)) 1 (nI 1)) 2 (chN g j)) 3 (crN g 21 j)))] H := hP
          have hD : va_D (fun q => s.heap.size ≤ q) [(sq, eI (ty 0) 6 (upd (upd (upd (upd (fun _ => 0) 0 (nI 0)) 1 (nI 1)) 2 (chN g j)) 3 (crN g 21 j)))] := D1u hD
          refine lv_dup hx hb dX12_ofReaderNow_95 rfl ?_
          refine lv_iconst (v := nI 4) hx hb dX12_ofReaderNow_96 (by decide) ?_
          refine lv_aload hx hb dX12_ofReaderNow_97 (lv_at hl 0 rfl) ?_
          refine va_get hx hb hts hinX9 hown hK ((hM.later hS).Pa (hR.r26 (r := j) (by omega)).1 rfl (hR.r26 (r := j) (by omega)).2) 0 rfl rfl 9 (by decide) (hk5) (fun _ h9 => h9) rfl dX12_ofReaderNow_99 ?_
          refine zast hx hb hK hP hD hS 0 0 rfl rfl (i := 4) (by omega) (by decide) dX12_ofReaderNow_102 (fun H locs hP hS => ?_)
          have hP : va_P D vwCl [(sq, eI (ty 0) 6 (upd (upd (upd (upd (upd (fun _ => 0) 0 (nI 0)) 1 (nI 1)) 2 (chN g j)) 3 (crN g 21 j)) 4 (g 37 j)))] H := hP
          have hD : va_D (fun q => s.heap.size ≤ q) [(sq, eI (ty 0) 6 (upd (upd (upd (upd (upd (fun _ => 0) 0 (nI 0)) 1 (nI 1)) 2 (chN g j)) 3 (crN g 21 j)) 4 (g 37 j)))] := D1u hD
          refine lv_dup hx hb dX12_ofReaderNow_103 rfl ?_
          refine lv_iconst (v := nI 5) hx hb dX12_ofReaderNow_104 (by decide) ?_
          refine lv_aload hx hb dX12_ofReaderNow_105 (lv_at hl 0 rfl) ?_
          refine lv_aload_n hx hb dX12_ofReaderNow_107 rfl (lv_at hl 4 rfl) ?_
          refine zcVi (As := [.ref ah]) (rest := [.int (nI 5), .ref sq, .ref sq]) ⟨hx, hb, hml, hown, hts⟩ (c_X9_worth l D ty A u C ma t0 mi g n1 n2 nL n4 n5 th rep bro hR _ j (by omega)) (cwV 1 hts gX12_ofReaderNow_X9_worth rfl rfl rfl (by decide +kernel) ⟨Nat.le_of_ble_eq_true rfl, Nat.le_of_ble_eq_true rfl⟩) (mIh_blind) (mIh_preN hM hK hMS hS hA) (va_recv hK ((hM.later hS).Pa (hR.r26 (r := j) (by omega)).1 rfl (hR.r26 (r := j) (by omega)).2) (ci := 10) (q0 := 0) rfl rfl) rfl hl.1 rfl (Nat.le_of_ble_eq_true rfl) dX12_ofReaderNow_108 ⟨by show _ ≤ cntR g R n5; omega, by show _ ≤ 6 * cntR g R n5; omega⟩ (fun r_11 hr_11 => ?_)
          subst hr_11
          refine lv_aload hx hb dX12_ofReaderNow_111 (lv_at hl 0 rfl) ?_
          refine va_get hx hb hts hinX9 hown hK ((hM.later hS).Pa (hR.r26 (r := j) (by omega)).1 rfl (hR.r26 (r := j) (by omega)).2) 0 rfl rfl 9 (by decide) (hk5) (fun _ h9 => h9) rfl dX12_ofReaderNow_113 ?_
          refine lv_isub hx hb dX12_ofReaderNow_116 ?_
          refine zast hx hb hK hP hD hS 0 0 rfl rfl (i := 5) (by omega) (by decide) dX12_ofReaderNow_117 (fun H locs hP hS => ?_)
          have hP : va_P D vwCl [(sq, eI (ty 0) 6 (upd (upd (upd (upd (upd (upd (fun _ => 0) 0 (nI 0)) 1 (nI 1)) 2 (chN g j)) 3 (crN g 21 j)) 4 (g 37 j)) 5 ((chN g j - crN g 21 j) - (g 37 j))))] H := hP
          have hD : va_D (fun q => s.heap.size ≤ q) [(sq, eI (ty 0) 6 (upd (upd (upd (upd (upd (upd (fun _ => 0) 0 (nI 0)) 1 (nI 1)) 2 (chN g j)) 3 (crN g 21 j)) 4 (g 37 j)) 5 ((chN g j - crN g 21 j) - (g 37 j))))] := D1u hD
          refine lv_astore (lv' := [(7, .ref sq), (6, .ref (ma 26 j)), (4, .int (sumN (fBil g (nI R)) j)), (5, .int (nI j)), (0, .ref (ma 0 0)), (1, .ref ah), (2, .int (nI R)), (3, .int (nI 4))]) hx hb dX12_ofReaderNow_118 hl (by decide) rfl (fun ls hl => ?_)
          refine lv_iload hx hb dX12_ofReaderNow_120 (lv_at hl 2 rfl) ?_
          refine lv_aload hx hb dX12_ofReaderNow_122 (lv_at hl 0 rfl) ?_
          refine lv_iload_n hx hb dX12_ofReaderNow_124 rfl (lv_at hl 7 rfl) ?_
          refine zald hx hb hK hP 0 0 rfl rfl (i := 4) (by omega) (by decide) dX12_ofReaderNow_125 ?_
          refine zeq (show _ = g 37 j from rfl) ?_
          refine lv_iadd hx hb dX12_ofReaderNow_126 ?_
          refine lv_istore (lv' := [(4, .int ((sumN (fBil g (nI R)) j) + (g 37 j))), (7, .ref sq), (6, .ref (ma 26 j)), (5, .int (nI j)), (0, .ref (ma 0 0)), (1, .ref ah), (2, .int (nI R)), (3, .int (nI 4))]) hx hb dX12_ofReaderNow_127 hl (by decide) rfl (fun ls hl => ?_)
          refine lv_iinc (v := nI (j + 1)) (lv' := [(5, .int (nI (j + 1))), (4, .int ((sumN (fBil g (nI R)) j) + (g 37 j))), (7, .ref sq), (6, .ref (ma 26 j)), (0, .ref (ma 0 0)), (1, .ref ah), (2, .int (nI R)), (3, .int (nI 4))]) hx hb dX12_ofReaderNow_129 hl (k := 3) rfl (nI_add j 1) (by decide) rfl (fun ls hl => ?_)
          refine lv_goto (tgt := 28) hx hb dX12_ofReaderNow_132 (by decide) ?_
          have hcn := cntR_y (g := g) (R := R) (n := j) c_8
          refine W.widen (k := cntR g R (j + 1)) (n := 6 * cntR g R (j + 1)) (by rw [hcn]; exact Nat.le_refl _) (by rw [hcn]; omega) ?_
          refine ih_j () ls _ _ _ _ (by omega) ⟨rfl, rfl, show lv_has ls 8 [(4, .int (sumN (fBil g (nI R)) (j + 1))), (5, .int (nI (j + 1))), (0, .ref (ma 0 0)), (1, .ref ah), (2, .int (nI R)), (3, .int (nI 4))] from ?_, hS⟩
          rw [show sumN (fBil g (nI R)) (j + 1) = (sumN (fBil g (nI R)) j) + (g 37 j) from congrArg (fun z => (sumN (fBil g (nI R)) j) +  z) (show (fBil g (nI R)) j = (g 37 j) from by unfold fBil; rw [ofB_r (by omega)]; simp only [decide_eq_true c_8, Bool.not_true, Bool.not_false, Bool.and_true, Bool.true_and, Bool.and_false, Bool.false_and, Bool.or_true, Bool.true_or, Bool.or_false, Bool.false_or, Bool.and_self, Bool.or_self, if_true, Bool.false_eq_true, if_false] <;> rfl)]
          exact lv_sub hl [1, 0, 4, 5, 6, 7] rfl
        · refine lv_goto (tgt := 129) hx hb dX12_ofReaderNow_63 (by decide) ?_
          refine lv_iinc (v := nI (j + 1)) (lv' := [(5, .int (nI (j + 1))), (6, .ref (ma 26 j)), (4, .int (sumN (fBil g (nI R)) j)), (0, .ref (ma 0 0)), (1, .ref ah), (2, .int (nI R)), (3, .int (nI 4))]) hx hb dX12_ofReaderNow_129 hl (k := 2) rfl (nI_add j 1) (by decide) rfl (fun ls hl => ?_)
          refine lv_goto (tgt := 28) hx hb dX12_ofReaderNow_132 (by decide) ?_
          have hcn := cntR_n (g := g) (R := R) (n := j) c_8
          rw [← hcn]
          refine ih_j () ls _ _ _ _ (by omega) ⟨rfl, rfl, show lv_has ls 8 [(4, .int (sumN (fBil g (nI R)) (j + 1))), (5, .int (nI (j + 1))), (0, .ref (ma 0 0)), (1, .ref ah), (2, .int (nI R)), (3, .int (nI 4))] from ?_, hS⟩
          rw [show sumN (fBil g (nI R)) (j + 1) = sumN (fBil g (nI R)) j from (congrArg (fun z => (sumN (fBil g (nI R)) j) +  z) (show (fBil g (nI R)) j = 0 from by unfold fBil; rw [ofB_r (by omega)]; simp only [decide_eq_false c_8, Bool.not_true, Bool.not_false, Bool.and_true, Bool.true_and, Bool.and_false, Bool.false_and, Bool.or_true, Bool.true_or, Bool.or_false, Bool.false_or, Bool.and_self, Bool.or_self, if_true, Bool.false_eq_true, if_false] <;> rfl)).trans (Int32.add_zero _)]
          exact lv_sub hl [2, 0, 3, 4, 5, 6] rfl
    · have c_2 := zn_neF (a := 4) (b := 6) (by omega) (by omega) c_2
      omega
  · have c_1 := zq_neF (x := 4) (by omega) c_1
    omega
set_option maxHeartbeats 600000 in
set_option maxRecDepth 100000 in
theorem c_X12_ofReaderNow_5 (l : Launch) (D : va_G) (ty : Nat → ClassId) (A : Nat → Prop) (u : Nat → Nat → Prop) (C : Nat → Nat → va_E) (ma : Nat → Nat → Nat) (t0 mi : Nat) (g : Nat → Nat → Int32) (n1 n2 nL n4 n5 : Nat) (th : Int32) (rep bro : Nat → Nat → Int32) (hR : mR ty t0 g n1 n2 nL n4 n5 th rep bro u C ma) (ah : Nat) (sz : Nat) (R : Nat) (hr6 : R < 6) : Met l yX12_ofReaderNow wsX12_ofReaderNow ({ frames := 6, cells := (cntR g R n5), slots := (6 * cntR g R n5), locals := 200 }) (va_Pc [.ref (ma 0 0), .ref ah, .int (nI R), .int (nI 5)] (mIhs D ty A u C ma t0 mi ah (g 21) sz)) (mkQ sz (fun v_ => v_ = ofReaderN g n4 n5 R 5)) (cntR g R n5) (6 * cntR g R n5) (fun q => sz ≤ q) := by
  refine zMet (cc := cX12_ofReaderNow) (maxL := 8) (ret := (some .int)) (by decide) rfl (Nat.le_of_ble_eq_true rfl) ?_
  intro p e s m below meth c hx hb hr hts hown hlocks hml hB ls hl
  obtain ⟨⟨⟨hM, hK, hMS⟩, ⟨hmb, hmd, hA⟩⟩, hsz⟩ := hB
  subst hsz
  have hS : va_S (fun q => s.heap.size ≤ q) s.heap s.heap [] := va_S.rf
  have hbn := hR.I.b1
  have hbs := hR.I.b2
  have hbl := hR.I.bL
  have hbc := hR.I.b4
  have hbr := hR.I.b5
  have hl : lv_has ls 8 [(0, .ref (ma 0 0)), (1, .ref ah), (2, .int (nI R)), (3, .int (nI 5))] := hl
  have hinX12 : ∀ w ∈ wsX120, w ∈ wsX12_ofReaderNow := by decide +kernel
  have hk1 := hts (.fieldLink RX12 22 "DatamarketDeskModel" "reads" "Ljava/util/ArrayList;") (by decide +kernel)
  have hk2 := hts (.classLink RX12 152 "DatamarketDeskModel$Read") (by decide +kernel)
  have hinX9 : ∀ w ∈ wsX90, w ∈ wsX12_ofReaderNow := by decide +kernel
  have hk4 := hts (.fieldLink RX12 217 "DatamarketDeskModel$Read" "reader" "I") (by decide +kernel)
  have hk5 := hts (.fieldLink RX12 260 "DatamarketDeskModel$Read" "billed" "I") (by decide +kernel)
  refine lv_iload_n hx hb dX12_ofReaderNow_0 rfl (lv_at hl 3 rfl) ?_
  refine lv_if_ne (tgt := 10) hx hb dX12_ofReaderNow_1 (by decide) (fun c_1 => ?_) (fun c_1 => ?_)
  · have c_1 := zq_neT (x := 5) (by omega) c_1
    refine lv_iload_n hx hb dX12_ofReaderNow_10 rfl (lv_at hl 3 rfl) ?_
    refine lv_bipush (v := nI 6) hx hb dX12_ofReaderNow_11 (by decide) ?_
    refine lv_icmp_ne (tgt := 22) hx hb dX12_ofReaderNow_13 (by decide) (fun c_2 => ?_) (fun c_2 => ?_)
    · have c_2 := zn_neT (a := 5) (b := 6) (by omega) (by omega) c_2
      refine lv_iconst (v := nI 0) hx hb dX12_ofReaderNow_22 (by decide) ?_
      refine lv_istore (lv' := [(4, .int (nI 0)), (0, .ref (ma 0 0)), (1, .ref ah), (2, .int (nI R)), (3, .int (nI 5))]) hx hb dX12_ofReaderNow_23 hl (by decide) rfl (fun ls hl => ?_)
      refine lv_iconst (v := nI 0) hx hb dX12_ofReaderNow_25 (by decide) ?_
      refine lv_istore (lv' := [(5, .int (nI 0)), (4, .int (nI 0)), (0, .ref (ma 0 0)), (1, .ref ah), (2, .int (nI R)), (3, .int (nI 5))]) hx hb dX12_ofReaderNow_26 hl (by decide) rfl (fun ls hl => ?_)
      refine zloop (τ := Unit) (fun j _ ls H locs cells slots => cells = cntR g R j ∧ slots = 6 * cntR g R j ∧ lv_has ls 8 [(4, .int (sumN (fDue g (nI R) 21) j)), (5, .int (nI j)), (0, .ref (ma 0 0)), (1, .ref ah), (2, .int (nI R)), (3, .int (nI 5))] ∧ va_S (fun q => s.heap.size ≤ q) s.heap H locs) n5 ?_ 0 () ls _ _ _ _ (Nat.zero_le _) ⟨rfl, rfl, lv_sub hl [1, 0, 2, 3, 4, 5] rfl, hS⟩
      intro j _ ls H locs cells slots hi_j hinv ih_j
      obtain ⟨rfl, rfl, hl, hS⟩ := hinv
      have hl : lv_has ls 8 [(4, .int (sumN (fDue g (nI R) 21) j)), (5, .int (nI j)), (0, .ref (ma 0 0)), (1, .ref ah), (2, .int (nI R)), (3, .int (nI 5))] := hl
      have hcl9 := cntR_le (g := g) (R := R) (n := j) (k := n5) (by omega)
      refine lv_iload hx hb dX12_ofReaderNow_28 (lv_at hl 1 rfl) ?_
      refine lv_aload_n hx hb dX12_ofReaderNow_30 rfl (lv_at hl 2 rfl) ?_
      refine va_get hx hb hts hinX12 hown hK ((hM.later hS).Pa hR.o.1 rfl hR.o.2) 0 rfl rfl 4 (by decide) (hk1) (fun _ h9 => h9) rfl dX12_ofReaderNow_31 ?_
      obtain ⟨huz_3, hnz_3, mz_3, bz_3, hCz_3⟩ := isL.hd hR.l7
      refine zcVi (As := []) (rest := [.int (nI j)]) ⟨hx, hb, hml, hown, hts⟩ (c_size l D ty A u C ma t0 mi 7 0 n5 (ma 26) hR.l7) (cwV 0 hts gX12_ofReaderNow_Jx4a65c_size_8abf5 rfl rfl rfl (by decide +kernel) ⟨Nat.le_of_ble_eq_true rfl, Nat.le_of_ble_eq_true rfl⟩) (mI_blind) (mI_preN hM hK hMS hS) (va_recv hK ((hM.later hS).Pa huz_3 rfl hCz_3) (ci := 0) (q0 := 0) rfl rfl) rfl hl.1 rfl (Nat.le_of_ble_eq_true rfl) dX12_ofReaderNow_34 ⟨by show _ ≤ cntR g R n5; omega, by show _ ≤ 6 * cntR g R n5; omega⟩ (fun r_4 hr_4 => ?_)
      subst hr_4
      refine lv_icmp_ge (tgt := 135) hx hb dX12_ofReaderNow_37 (by decide) (fun c_5 => ?_) (fun c_5 => ?_)
      · have c_5 := zn_geT (a := j) (b := n5) (by omega) (by omega) c_5
        obtain rfl : n5 = j := by omega
        refine lv_iload hx hb dX12_ofReaderNow_135 (lv_at hl 0 rfl) ?_
        refine W.widen (k := cntR g R n5) (n := 6 * cntR g R n5) (Nat.le_refl _) (Nat.le_refl _) ?_
        exact W.iret (v := sumN (fDue g (nI R) 21) n5) hx hb hr (fun t ht hW => ⟨⟨_, (), rfl, rfl, trivial⟩, hS.F ht⟩) hS.2.2 dX12_ofReaderNow_137
      · have c_5 := zn_geF (a := j) (b := n5) (by omega) (by omega) c_5
        refine lv_aload_n hx hb dX12_ofReaderNow_40 rfl (lv_at hl 2 rfl) ?_
        refine va_get hx hb hts hinX12 hown hK ((hM.later hS).Pa hR.o.1 rfl hR.o.2) 0 rfl rfl 4 (by decide) (hk1) (fun _ h9 => h9) rfl dX12_ofReaderNow_41 ?_
        refine lv_iload hx hb dX12_ofReaderNow_44 (lv_at hl 1 rfl) ?_
        obtain ⟨huz_6, hnz_6, mz_6, bz_6, hCz_6⟩ := isL.hd hR.l7
        refine zcVr (x := .ref (ma 26 j)) (As := [.int (nI j)]) (rest := []) ⟨hx, hb, hml, hown, hts⟩ (c_get l D ty A u C ma t0 mi 7 0 n5 (ma 26) hR.l7 j (by omega)) (cwV 1 hts gX12_ofReaderNow_Jx4a65c_get_915e3 rfl rfl rfl (by decide +kernel) ⟨Nat.le_of_ble_eq_true rfl, Nat.le_of_ble_eq_true rfl⟩) (mI_blind) (mI_preN hM hK hMS hS) (va_recv hK ((hM.later hS).Pa huz_6 rfl hCz_6) (ci := 0) (q0 := 0) rfl rfl) rfl hl.1 rfl (Nat.le_of_ble_eq_true rfl) dX12_ofReaderNow_46 ⟨by show _ ≤ cntR g R n5; omega, by show _ ≤ 6 * cntR g R n5; omega⟩ ?_
        refine va_castS hx hb hown (hk2) ((hK.1 10 _ rfl).2) (va_recv hK ((hM.later hS).Pa (hR.r26 (r := j) (by omega)).1 rfl (hR.r26 (r := j) (by omega)).2) (ci := 10) (q0 := 0) rfl rfl) dX12_ofReaderNow_49 ?_
        refine lv_astore (lv' := [(6, .ref (ma 26 j)), (4, .int (sumN (fDue g (nI R) 21) j)), (5, .int (nI j)), (0, .ref (ma 0 0)), (1, .ref ah), (2, .int (nI R)), (3, .int (nI 5))]) hx hb dX12_ofReaderNow_52 hl (by decide) rfl (fun ls hl => ?_)
        refine lv_aload hx hb dX12_ofReaderNow_54 (lv_at hl 0 rfl) ?_
        refine va_get hx hb hts hinX9 hown hK ((hM.later hS).Pa (hR.r26 (r := j) (by omega)).1 rfl (hR.r26 (r := j) (by omega)).2) 0 rfl rfl 0 (by decide) (hk4) (fun _ h9 => h9) rfl dX12_ofReaderNow_56 ?_
        refine lv_iload_n hx hb dX12_ofReaderNow_59 rfl (lv_at hl 5 rfl) ?_
        refine lv_icmp_eq (tgt := 66) hx hb dX12_ofReaderNow_60 (by decide) (fun c_8 => ?_) (fun c_8 => ?_)
        · refine lv_bipush (v := nI 6) hx hb dX12_ofReaderNow_66 (by decide) ?_
          have hcn9 := cntR_le (g := g) (R := R) (n := j + 1) (k := n5) (by omega)
          rw [cntR_y c_8] at hcn9
          refine mnewa1 hx hb (hts (.arrayClass .int) (by decide +kernel)) hK hS (fun q h => Nat.le_trans hS.1 h) (n := 6) (N' := 6) (by omega) rfl (by omega) (by show _ + 1 ≤ cntR g R n5; omega) (by show _ + 6 ≤ 6 * cntR g R n5; omega) dX12_ofReaderNow_68 (fun H sq hP hD hS ho => ?_)
          refine lv_dup hx hb dX12_ofReaderNow_70 rfl ?_
          refine lv_iconst (v := nI 0) hx hb dX12_ofReaderNow_71 (by decide) ?_
          refine lv_iconst (v := nI 0) hx hb dX12_ofReaderNow_72 (by decide) ?_
          refine zast hx hb hK hP hD hS 0 0 rfl rfl (i := 0) (by omega) (by decide) dX12_ofReaderNow_73 (fun H locs hP hS => ?_)
          have hP : va_P D vwCl [(sq, eI (ty 0) 6 (upd (fun _ => 0) 0 (nI 0)))] H := hP
          have hD : va_D (fun q => s.heap.size ≤ q) [(sq, eI (ty 0) 6 (upd (fun _ => 0) 0 (nI 0)))] := D1u hD
          refine lv_dup hx hb dX12_ofReaderNow_74 rfl ?_
          refine lv_iconst (v := nI 1) hx hb dX12_ofReaderNow_75 (by decide) ?_
          refine lv_iconst (v := nI 1) hx hb dX12_ofReaderNow_76 (by decide) ?_
          refine zast hx hb hK hP hD hS 0 0 rfl rfl (i := 1) (by omega) (by decide) dX12_ofReaderNow_77 (fun H locs hP hS => ?_)
          have hP : va_P D vwCl [(sq, eI (ty 0) 6 (upd (upd (fun _ => 0) 0 (nI 0)) 1 (nI 1)))] H := hP
          have hD : va_D (fun q => s.heap.size ≤ q) [(sq, eI (ty 0) 6 (upd (upd (fun _ => 0) 0 (nI 0)) 1 (nI 1)))] := D1u hD
          refine lv_dup hx hb dX12_ofReaderNow_78 rfl ?_
          refine lv_iconst (v := nI 2) hx hb dX12_ofReaderNow_79 (by decide) ?_
          refine lv_aload hx hb dX12_ofReaderNow_80 (lv_at hl 0 rfl) ?_
          refine zcVi (As := []) (rest := [.int (nI 2), .ref sq, .ref sq]) ⟨hx, hb, hml, hown, hts⟩ (c_X9_charge l D ty A u C ma t0 mi g n1 n2 nL n4 n5 th rep bro hR j (by omega)) (cwV 0 hts gX12_ofReaderNow_X9_charge rfl rfl rfl (by decide +kernel) ⟨Nat.le_of_ble_eq_true rfl, Nat.le_of_ble_eq_true rfl⟩) (mI_blind) (mI_preN hM hK hMS hS) (va_recv hK ((hM.later hS).Pa (hR.r26 (r := j) (by omega)).1 rfl (hR.r26 (r := j) (by omega)).2) (ci := 10) (q0 := 0) rfl rfl) rfl hl.1 rfl (Nat.le_of_ble_eq_true rfl) dX12_ofReaderNow_82 ⟨by show _ ≤ cntR g R n5; omega, by show _ ≤ 6 * cntR g R n5; omega⟩ (fun r_9 hr_9 => ?_)
          subst hr_9
          refine zast hx hb hK hP hD hS 0 0 rfl rfl (i := 2) (by omega) (by decide) dX12_ofReaderNow_85 (fun H locs hP hS => ?_)
          have hP : va_P D vwCl [(sq, eI (ty 0) 6 (upd (upd (upd (fun _ => 0) 0 (nI 0)) 1 (nI 1)) 2 (chN g j)))] H := hP
          have hD : va_D (fun q => s.heap.size ≤ q) [(sq, eI (ty 0) 6 (upd (upd (upd (fun _ => 0) 0 (nI 0)) 1 (nI 1)) 2 (chN g j)))] := D1u hD
          refine lv_dup hx hb dX12_ofReaderNow_86 rfl ?_
          refine lv_iconst (v := nI 3) hx hb dX12_ofReaderNow_87 (by decide) ?_
          refine lv_aload hx hb dX12_ofReaderNow_88 (lv_at hl 0 rfl) ?_
          refine lv_aload_n hx hb dX12_ofReaderNow_90 rfl (lv_at hl 4 rfl) ?_
          refine zcVi (As := [.ref ah]) (rest := [.int (nI 3), .ref sq, .ref sq]) ⟨hx, hb, hml, hown, hts⟩ (c_X9_credit l D ty A u C ma t0 mi g n1 n2 nL n4 n5 th rep bro hR _ j (by omega)) (cwV 1 hts gX12_ofReaderNow_X9_credit rfl rfl rfl (by decide +kernel) ⟨Nat.le_of_ble_eq_true rfl, Nat.le_of_ble_eq_true rfl⟩) (mIh_blind) (mIh_preN hM hK hMS hS hA) (va_recv hK ((hM.later hS).Pa (hR.r26 (r := j) (by omega)).1 rfl (hR.r26 (r := j) (by omega)).2) (ci := 10) (q0 := 0) rfl rfl) rfl hl.1 rfl (Nat.le_of_ble_eq_true rfl) dX12_ofReaderNow_91 ⟨by show _ ≤ cntR g R n5; omega, by show _ ≤ 6 * cntR g R n5; omega⟩ (fun r_10 hr_10 => ?_)
          subst hr_10
          refine zast hx hb hK hP hD hS 0 0 rfl rfl (i := 3) (by omega) (by decide) dX12_ofReaderNow_94 (fun H locs hP hS => ?_)
          have hP : va_P D vwCl [(sq, eI (ty 0) 6 (upd (upd (upd (upd (fun _ => 0) 0 (nI 0)) 1 (nI 1)) 2 (chN g j)) 3 (crN g 21 j)))] H := hP
          have hD : va_D (fun q => s.heap.size ≤ q) [(sq, eI (ty 0) 6 (upd (upd (upd (upd (fun _ => 0) 0 (nI 0)) 1 (nI 1)) 2 (chN g j)) 3 (crN g 21 j)))] := D1u hD
          refine lv_dup hx hb dX12_ofReaderNow_95 rfl ?_
          refine lv_iconst (v := nI 4) hx hb dX12_ofReaderNow_96 (by decide) ?_
          refine lv_aload hx hb dX12_ofReaderNow_97 (lv_at hl 0 rfl) ?_
          refine va_get hx hb hts hinX9 hown hK ((hM.later hS).Pa (hR.r26 (r := j) (by omega)).1 rfl (hR.r26 (r := j) (by omega)).2) 0 rfl rfl 9 (by decide) (hk5) (fun _ h9 => h9) rfl dX12_ofReaderNow_99 ?_
          refine zast hx hb hK hP hD hS 0 0 rfl rfl (i := 4) (by omega) (by decide) dX12_ofReaderNow_102 (fun H locs hP hS => ?_)
          have hP : va_P D vwCl [(sq, eI (ty 0) 6 (upd (upd (upd (upd (upd (fun _ => 0) 0 (nI 0)) 1 (nI 1)) 2 (chN g j)) 3 (crN g 21 j)) 4 (g 37 j)))] H := hP
          have hD : va_D (fun q => s.heap.size ≤ q) [(sq, eI (ty 0) 6 (upd (upd (upd (upd (upd (fun _ => 0) 0 (nI 0)) 1 (nI 1)) 2 (chN g j)) 3 (crN g 21 j)) 4 (g 37 j)))] := D1u hD
          refine lv_dup hx hb dX12_ofReaderNow_103 rfl ?_
          refine lv_iconst (v := nI 5) hx hb dX12_ofReaderNow_104 (by decide) ?_
          refine lv_aload hx hb dX12_ofReaderNow_105 (lv_at hl 0 rfl) ?_
          refine lv_aload_n hx hb dX12_ofReaderNow_107 rfl (lv_at hl 4 rfl) ?_
          refine zcVi (As := [.ref ah]) (rest := [.int (nI 5), .ref sq, .ref sq]) ⟨hx, hb, hml, hown, hts⟩ (c_X9_worth l D ty A u C ma t0 mi g n1 n2 nL n4 n5 th rep bro hR _ j (by omega)) (cwV 1 hts gX12_ofReaderNow_X9_worth rfl rfl rfl (by decide +kernel) ⟨Nat.le_of_ble_eq_true rfl, Nat.le_of_ble_eq_true rfl⟩) (mIh_blind) (mIh_preN hM hK hMS hS hA) (va_recv hK ((hM.later hS).Pa (hR.r26 (r := j) (by omega)).1 rfl (hR.r26 (r := j) (by omega)).2) (ci := 10) (q0 := 0) rfl rfl) rfl hl.1 rfl (Nat.le_of_ble_eq_true rfl) dX12_ofReaderNow_108 ⟨by show _ ≤ cntR g R n5; omega, by show _ ≤ 6 * cntR g R n5; omega⟩ (fun r_11 hr_11 => ?_)
          subst hr_11
          refine lv_aload hx hb dX12_ofReaderNow_111 (lv_at hl 0 rfl) ?_
          refine va_get hx hb hts hinX9 hown hK ((hM.later hS).Pa (hR.r26 (r := j) (by omega)).1 rfl (hR.r26 (r := j) (by omega)).2) 0 rfl rfl 9 (by decide) (hk5) (fun _ h9 => h9) rfl dX12_ofReaderNow_113 ?_
          refine lv_isub hx hb dX12_ofReaderNow_116 ?_
          refine zast hx hb hK hP hD hS 0 0 rfl rfl (i := 5) (by omega) (by decide) dX12_ofReaderNow_117 (fun H locs hP hS => ?_)
          have hP : va_P D vwCl [(sq, eI (ty 0) 6 (upd (upd (upd (upd (upd (upd (fun _ => 0) 0 (nI 0)) 1 (nI 1)) 2 (chN g j)) 3 (crN g 21 j)) 4 (g 37 j)) 5 ((chN g j - crN g 21 j) - (g 37 j))))] H := hP
          have hD : va_D (fun q => s.heap.size ≤ q) [(sq, eI (ty 0) 6 (upd (upd (upd (upd (upd (upd (fun _ => 0) 0 (nI 0)) 1 (nI 1)) 2 (chN g j)) 3 (crN g 21 j)) 4 (g 37 j)) 5 ((chN g j - crN g 21 j) - (g 37 j))))] := D1u hD
          refine lv_astore (lv' := [(7, .ref sq), (6, .ref (ma 26 j)), (4, .int (sumN (fDue g (nI R) 21) j)), (5, .int (nI j)), (0, .ref (ma 0 0)), (1, .ref ah), (2, .int (nI R)), (3, .int (nI 5))]) hx hb dX12_ofReaderNow_118 hl (by decide) rfl (fun ls hl => ?_)
          refine lv_iload hx hb dX12_ofReaderNow_120 (lv_at hl 2 rfl) ?_
          refine lv_aload hx hb dX12_ofReaderNow_122 (lv_at hl 0 rfl) ?_
          refine lv_iload_n hx hb dX12_ofReaderNow_124 rfl (lv_at hl 7 rfl) ?_
          refine zald hx hb hK hP 0 0 rfl rfl (i := 5) (by omega) (by decide) dX12_ofReaderNow_125 ?_
          refine zeq (show _ = chN g j - crN g 21 j - g 37 j from rfl) ?_
          refine lv_iadd hx hb dX12_ofReaderNow_126 ?_
          refine lv_istore (lv' := [(4, .int ((sumN (fDue g (nI R) 21) j) + (chN g j - crN g 21 j - g 37 j))), (7, .ref sq), (6, .ref (ma 26 j)), (5, .int (nI j)), (0, .ref (ma 0 0)), (1, .ref ah), (2, .int (nI R)), (3, .int (nI 5))]) hx hb dX12_ofReaderNow_127 hl (by decide) rfl (fun ls hl => ?_)
          refine lv_iinc (v := nI (j + 1)) (lv' := [(5, .int (nI (j + 1))), (4, .int ((sumN (fDue g (nI R) 21) j) + (chN g j - crN g 21 j - g 37 j))), (7, .ref sq), (6, .ref (ma 26 j)), (0, .ref (ma 0 0)), (1, .ref ah), (2, .int (nI R)), (3, .int (nI 5))]) hx hb dX12_ofReaderNow_129 hl (k := 3) rfl (nI_add j 1) (by decide) rfl (fun ls hl => ?_)
          refine lv_goto (tgt := 28) hx hb dX12_ofReaderNow_132 (by decide) ?_
          have hcn := cntR_y (g := g) (R := R) (n := j) c_8
          refine W.widen (k := cntR g R (j + 1)) (n := 6 * cntR g R (j + 1)) (by rw [hcn]; exact Nat.le_refl _) (by rw [hcn]; omega) ?_
          refine ih_j () ls _ _ _ _ (by omega) ⟨rfl, rfl, show lv_has ls 8 [(4, .int (sumN (fDue g (nI R) 21) (j + 1))), (5, .int (nI (j + 1))), (0, .ref (ma 0 0)), (1, .ref ah), (2, .int (nI R)), (3, .int (nI 5))] from ?_, hS⟩
          rw [show sumN (fDue g (nI R) 21) (j + 1) = (sumN (fDue g (nI R) 21) j) + (chN g j - crN g 21 j - g 37 j) from congrArg (fun z => (sumN (fDue g (nI R) 21) j) +  z) (show (fDue g (nI R) 21) j = (chN g j - crN g 21 j - g 37 j) from by unfold fDue; rw [ofB_r (by omega)]; simp only [decide_eq_true c_8, Bool.not_true, Bool.not_false, Bool.and_true, Bool.true_and, Bool.and_false, Bool.false_and, Bool.or_true, Bool.true_or, Bool.or_false, Bool.false_or, Bool.and_self, Bool.or_self, if_true, Bool.false_eq_true, if_false] <;> rfl)]
          exact lv_sub hl [1, 0, 4, 5, 6, 7] rfl
        · refine lv_goto (tgt := 129) hx hb dX12_ofReaderNow_63 (by decide) ?_
          refine lv_iinc (v := nI (j + 1)) (lv' := [(5, .int (nI (j + 1))), (6, .ref (ma 26 j)), (4, .int (sumN (fDue g (nI R) 21) j)), (0, .ref (ma 0 0)), (1, .ref ah), (2, .int (nI R)), (3, .int (nI 5))]) hx hb dX12_ofReaderNow_129 hl (k := 2) rfl (nI_add j 1) (by decide) rfl (fun ls hl => ?_)
          refine lv_goto (tgt := 28) hx hb dX12_ofReaderNow_132 (by decide) ?_
          have hcn := cntR_n (g := g) (R := R) (n := j) c_8
          rw [← hcn]
          refine ih_j () ls _ _ _ _ (by omega) ⟨rfl, rfl, show lv_has ls 8 [(4, .int (sumN (fDue g (nI R) 21) (j + 1))), (5, .int (nI (j + 1))), (0, .ref (ma 0 0)), (1, .ref ah), (2, .int (nI R)), (3, .int (nI 5))] from ?_, hS⟩
          rw [show sumN (fDue g (nI R) 21) (j + 1) = sumN (fDue g (nI R) 21) j from (congrArg (fun z => (sumN (fDue g (nI R) 21) j) +  z) (show (fDue g (nI R) 21) j = 0 from by unfold fDue; rw [ofB_r (by omega)]; simp only [decide_eq_false c_8, Bool.not_true, Bool.not_false, Bool.and_true, Bool.true_and, Bool.and_false, Bool.false_and, Bool.or_true, Bool.true_or, Bool.or_false, Bool.false_or, Bool.and_self, Bool.or_self, if_true, Bool.false_eq_true, if_false] <;> rfl)).trans (Int32.add_zero _)]
          exact lv_sub hl [2, 0, 3, 4, 5, 6] rfl
    · have c_2 := zn_neF (a := 5) (b := 6) (by omega) (by omega) c_2
      omega
  · have c_1 := zq_neF (x := 5) (by omega) c_1
    omega
set_option maxHeartbeats 600000 in
set_option maxRecDepth 100000 in
theorem c_X12_ofReaderNow_6 (l : Launch) (D : va_G) (ty : Nat → ClassId) (A : Nat → Prop) (u : Nat → Nat → Prop) (C : Nat → Nat → va_E) (ma : Nat → Nat → Nat) (t0 mi : Nat) (g : Nat → Nat → Int32) (n1 n2 nL n4 n5 : Nat) (th : Int32) (rep bro : Nat → Nat → Int32) (hR : mR ty t0 g n1 n2 nL n4 n5 th rep bro u C ma) (ah : Nat) (sz : Nat) (R : Nat) (hr6 : R < 6) : Met l yX12_ofReaderNow wsX12_ofReaderNow ({ frames := 6, cells := (cntR g R n5), slots := (6 * cntR g R n5), locals := 200 }) (va_Pc [.ref (ma 0 0), .ref ah, .int (nI R), .int (nI 6)] (mIhs D ty A u C ma t0 mi ah (g 21) sz)) (mkQ sz (fun v_ => v_ = ofReaderN g n4 n5 R 6)) (cntR g R n5) (6 * cntR g R n5) (fun q => sz ≤ q) := by
  refine zMet (cc := cX12_ofReaderNow) (maxL := 8) (ret := (some .int)) (by decide) rfl (Nat.le_of_ble_eq_true rfl) ?_
  intro p e s m below meth c hx hb hr hts hown hlocks hml hB ls hl
  obtain ⟨⟨⟨hM, hK, hMS⟩, ⟨hmb, hmd, hA⟩⟩, hsz⟩ := hB
  subst hsz
  have hS : va_S (fun q => s.heap.size ≤ q) s.heap s.heap [] := va_S.rf
  have hbn := hR.I.b1
  have hbs := hR.I.b2
  have hbl := hR.I.bL
  have hbc := hR.I.b4
  have hbr := hR.I.b5
  have hl : lv_has ls 8 [(0, .ref (ma 0 0)), (1, .ref ah), (2, .int (nI R)), (3, .int (nI 6))] := hl
  refine lv_iload_n hx hb dX12_ofReaderNow_0 rfl (lv_at hl 3 rfl) ?_
  refine lv_if_ne (tgt := 10) hx hb dX12_ofReaderNow_1 (by decide) (fun c_1 => ?_) (fun c_1 => ?_)
  · have c_1 := zq_neT (x := 6) (by omega) c_1
    refine lv_iload_n hx hb dX12_ofReaderNow_10 rfl (lv_at hl 3 rfl) ?_
    refine lv_bipush (v := nI 6) hx hb dX12_ofReaderNow_11 (by decide) ?_
    refine lv_icmp_ne (tgt := 22) hx hb dX12_ofReaderNow_13 (by decide) (fun c_2 => ?_) (fun c_2 => ?_)
    · have c_2 := zn_neT (a := 6) (b := 6) (by omega) (by omega) c_2
      omega
    · have c_2 := zn_neF (a := 6) (b := 6) (by omega) (by omega) c_2
      refine lv_aload_n hx hb dX12_ofReaderNow_16 rfl (lv_at hl 0 rfl) ?_
      refine lv_iload_n hx hb dX12_ofReaderNow_17 rfl (lv_at hl 2 rfl) ?_
      refine zcVi (As := [.int (nI R)]) (rest := []) ⟨hx, hb, hml, hown, hts⟩ (c_X12_contractsOf l D ty A u C ma t0 mi g n1 n2 nL n4 n5 th rep bro hR (nI R)) (cwV 1 hts gX12_ofReaderNow_X12_contractsOf rfl rfl rfl (by decide +kernel) ⟨Nat.le_of_ble_eq_true rfl, Nat.le_of_ble_eq_true rfl⟩) (mI_blind) (mI_preN hM hK hMS hS) (va_recv hK ((hM.later hS).Pa hR.o.1 rfl hR.o.2) (ci := 13) (q0 := 0) rfl rfl) rfl hl.1 rfl (Nat.le_of_ble_eq_true rfl) dX12_ofReaderNow_18 ⟨by show _ ≤ cntR g R n5; omega, by show _ ≤ 6 * cntR g R n5; omega⟩ (fun r_3 hr_3 => ?_)
      subst hr_3
      refine W.widen (k := cntR g R n5) (n := 6 * cntR g R n5) (Nat.zero_le _) (Nat.zero_le _) ?_
      exact W.iret (v := sumN (fOn g (nI R) (g 0 0)) n4) hx hb hr (fun t ht hW => ⟨⟨_, (), rfl, rfl, trivial⟩, hS.F ht⟩) hS.2.2 dX12_ofReaderNow_21
  · have c_1 := zq_neF (x := 6) (by omega) c_1
    omega
theorem c_X12_ofReaderNow (l : Launch) (D : va_G) (ty : Nat → ClassId) (A : Nat → Prop) (u : Nat → Nat → Prop) (C : Nat → Nat → va_E) (ma : Nat → Nat → Nat) (t0 mi : Nat) (g : Nat → Nat → Int32) (n1 n2 nL n4 n5 : Nat) (th : Int32) (rep bro : Nat → Nat → Int32) (hR : mR ty t0 g n1 n2 nL n4 n5 th rep bro u C ma) (ah : Nat) (sz : Nat) (R : Nat) (hr6 : R < 6) (w0 : Nat) (hw : w0 < 7) : Met l yX12_ofReaderNow wsX12_ofReaderNow ({ frames := 6, cells := (cntR g R n5), slots := (6 * cntR g R n5), locals := 200 }) (va_Pc [.ref (ma 0 0), .ref ah, .int (nI R), .int (nI w0)] (mIhs D ty A u C ma t0 mi ah (g 21) sz)) (mkQ sz (fun v_ => v_ = ofReaderN g n4 n5 R w0)) (cntR g R n5) (6 * cntR g R n5) (fun q => sz ≤ q) := by
  rcases (show w0 = 0 ∨ w0 = 1 ∨ w0 = 2 ∨ w0 = 3 ∨ w0 = 4 ∨ w0 = 5 ∨ w0 = 6 by omega) with rfl | rfl | rfl | rfl | rfl | rfl | rfl
  · exact c_X12_ofReaderNow_0 l D ty A u C ma t0 mi g n1 n2 nL n4 n5 th rep bro hR ah sz R hr6
  · exact c_X12_ofReaderNow_1 l D ty A u C ma t0 mi g n1 n2 nL n4 n5 th rep bro hR ah sz R hr6
  · exact c_X12_ofReaderNow_2 l D ty A u C ma t0 mi g n1 n2 nL n4 n5 th rep bro hR ah sz R hr6
  · exact c_X12_ofReaderNow_3 l D ty A u C ma t0 mi g n1 n2 nL n4 n5 th rep bro hR ah sz R hr6
  · exact c_X12_ofReaderNow_4 l D ty A u C ma t0 mi g n1 n2 nL n4 n5 th rep bro hR ah sz R hr6
  · exact c_X12_ofReaderNow_5 l D ty A u C ma t0 mi g n1 n2 nL n4 n5 th rep bro hR ah sz R hr6
  · exact c_X12_ofReaderNow_6 l D ty A u C ma t0 mi g n1 n2 nL n4 n5 th rep bro hR ah sz R hr6
