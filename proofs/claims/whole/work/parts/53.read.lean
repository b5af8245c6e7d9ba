set_option maxHeartbeats 400000 in
set_option maxRecDepth 100000 in
theorem c_X6_has (l : Launch) (D : va_G) (ty : Nat → ClassId) (A : Nat → Prop) (u : Nat → Nat → Prop) (C : Nat → Nat → va_E) (ma : Nat → Nat → Nat) (t0 mi : Nat) (g : Nat → Nat → Int32) (n1 n2 nL n4 n5 : Nat) (th : Int32) (rep bro : Nat → Nat → Int32) (hR : mR ty t0 g n1 n2 nL n4 n5 th rep bro u C ma) (c0 : Nat) (hc0 : c0 < n4) (d : Int32) : Met l yX6_has wsX6_has ({ frames := 0, cells := 0, slots := 0, locals := 0 }) (va_Pc [.ref (ma 25 c0), .int d] (mI D ty A u C ma t0 mi)) (vp_Si (fun v_ => v_ = bI (onB g c0 d))) 0 0 (fun _ => False) := by
  refine zMet (cc := cX6_has) (maxL := 2) (ret := (some .boolean)) (by decide) rfl (Nat.le_of_ble_eq_true rfl) ?_
  intro p e s m below meth c hx hb hr hts hown hlocks hml hB ls hl
  obtain ⟨hM, hK, hMS⟩ := hB
  have hS : va_S A s.heap s.heap [] := va_S.rf
  have hbn := hR.I.b1
  have hbs := hR.I.b2
  have hbl := hR.I.bL
  have hbc := hR.I.b4
  have hbr := hR.I.b5
  have hl : lv_has ls 2 [(0, .ref (ma 25 c0)), (1, .int d)] := hl
  have hinX6 : ∀ w ∈ wsX60, w ∈ wsX6_has := by decide +kernel
  have hk1 := hts (.fieldLink RX6 22 "DatamarketDeskModel$Contract" "from" "I") (by decide +kernel)
  have hk2 := hts (.fieldLink RX6 25 "DatamarketDeskModel$Contract" "to" "I") (by decide +kernel)
  refine lv_iload_n hx hb dX6_has_0 rfl (lv_at hl 1 rfl) ?_
  refine lv_aload_n hx hb dX6_has_1 rfl (lv_at hl 0 rfl) ?_
  refine va_get hx hb hts hinX6 hown hK (hM.Pa (hR.c25 (c := c0) (by omega)).1 rfl (hR.c25 (c := c0) (by omega)).2) 0 rfl rfl 4 (by decide) (hk1) (fun _ h9 => h9) rfl dX6_has_2 ?_
  refine lv_icmp_lt (tgt := 20) hx hb dX6_has_5 (by decide) (fun c_1 => ?_) (fun c_1 => ?_)
  · refine lv_iconst (v := nI 0) hx hb dX6_has_20 (by decide) ?_
    exact W.zret (v := nI 0) hx hb hr rfl (fun t ht hW => ⟨_, rfl, bI_n0 (by simp only [onB, decide_eq_true c_1, Bool.not_true, Bool.not_false, Bool.and_true, Bool.true_and, Bool.and_false, Bool.false_and, Bool.or_true, Bool.true_or, Bool.or_false, Bool.false_or, Bool.and_self, Bool.or_self]), ht⟩) (fun _ h => nomatch h) dX6_has_21
  · refine lv_iload_n hx hb dX6_has_8 rfl (lv_at hl 1 rfl) ?_
    refine lv_aload_n hx hb dX6_has_9 rfl (lv_at hl 0 rfl) ?_
    refine va_get hx hb hts hinX6 hown hK (hM.Pa (hR.c25 (c := c0) (by omega)).1 rfl (hR.c25 (c := c0) (by omega)).2) 0 rfl rfl 5 (by decide) (hk2) (fun _ h9 => h9) rfl dX6_has_10 ?_
    refine lv_icmp_gt (tgt := 20) hx hb dX6_has_13 (by decide) (fun c_2 => ?_) (fun c_2 => ?_)
    · refine lv_iconst (v := nI 0) hx hb dX6_has_20 (by decide) ?_
      exact W.zret (v := nI 0) hx hb hr rfl (fun t ht hW => ⟨_, rfl, bI_n0 (by simp only [onB, decide_eq_false c_1, decide_eq_true c_2, Bool.not_true, Bool.not_false, Bool.and_true, Bool.true_and, Bool.and_false, Bool.false_and, Bool.or_true, Bool.true_or, Bool.or_false, Bool.false_or, Bool.and_self, Bool.or_self]), ht⟩) (fun _ h => nomatch h) dX6_has_21
    · refine lv_iconst (v := nI 1) hx hb dX6_has_16 (by decide) ?_
      refine lv_goto (tgt := 21) hx hb dX6_has_17 (by decide) ?_
      exact W.zret (v := nI 1) hx hb hr rfl (fun t ht hW => ⟨_, rfl, bI_n1 (by simp only [onB, decide_eq_false c_1, decide_eq_false c_2, Bool.not_true, Bool.not_false, Bool.and_true, Bool.true_and, Bool.and_false, Bool.false_and, Bool.or_true, Bool.true_or, Bool.or_false, Bool.false_or, Bool.and_self, Bool.or_self]), ht⟩) (fun _ h => nomatch h) dX6_has_21
set_option maxHeartbeats 400000 in
set_option maxRecDepth 100000 in
theorem c_X6_covers (l : Launch) (D : va_G) (ty : Nat → ClassId) (A : Nat → Prop) (u : Nat → Nat → Prop) (C : Nat → Nat → va_E) (ma : Nat → Nat → Nat) (t0 mi : Nat) (g : Nat → Nat → Int32) (n1 n2 nL n4 n5 : Nat) (th : Int32) (rep bro : Nat → Nat → Int32) (hR : mR ty t0 g n1 n2 nL n4 n5 th rep bro u C ma) (c0 : Nat) (hc0 : c0 < n4) (R S P d : Int32) : Met l yX6_covers wsX6_covers ({ frames := 1, cells := 0, slots := 0, locals := 21 }) (va_Pc [.ref (ma 25 c0), .int R, .int S, .int P, .int d] (mI D ty A u C ma t0 mi)) (vp_Si (fun v_ => v_ = covN g c0 R S P d)) 0 0 (fun _ => False) := by
  refine zMet (cc := cX6_covers) (maxL := 5) (ret := (some .int)) (by decide) rfl (Nat.le_of_ble_eq_true rfl) ?_
  intro p e s m below meth c hx hb hr hts hown hlocks hml hB ls hl
  obtain ⟨hM, hK, hMS⟩ := hB
  have hS : va_S A s.heap s.heap [] := va_S.rf
  have hbn := hR.I.b1
  have hbs := hR.I.b2
  have hbl := hR.I.bL
  have hbc := hR.I.b4
  have hbr := hR.I.b5
  have hl : lv_has ls 5 [(0, .ref (ma 25 c0)), (1, .int R), (2, .int S), (3, .int P), (4, .int d)] := hl
  have hinX6 : ∀ w ∈ wsX60, w ∈ wsX6_covers := by decide +kernel
  have hk1 := hts (.fieldLink RX6 7 "DatamarketDeskModel$Contract" "reader" "I") (by decide +kernel)
  have hk2 := hts (.fieldLink RX6 13 "DatamarketDeskModel$Contract" "set" "I") (by decide +kernel)
  have hk3 := hts (.fieldLink RX6 19 "DatamarketDeskModel$Contract" "purposes" "I") (by decide +kernel)
  have hk4 := hts (.fieldLink RX6 16 "DatamarketDeskModel$Contract" "fields" "I") (by decide +kernel)
  refine lv_aload_n hx hb dX6_covers_0 rfl (lv_at hl 0 rfl) ?_
  refine va_get hx hb hts hinX6 hown hK (hM.Pa (hR.c25 (c := c0) (by omega)).1 rfl (hR.c25 (c := c0) (by omega)).2) 0 rfl rfl 0 (by decide) (hk1) (fun _ h9 => h9) rfl dX6_covers_1 ?_
  refine lv_iload_n hx hb dX6_covers_4 rfl (lv_at hl 1 rfl) ?_
  refine lv_icmp_ne (tgt := 44) hx hb dX6_covers_5 (by decide) (fun c_1 => ?_) (fun c_1 => ?_)
  · refine lv_iconst (v := nI 0) hx hb dX6_covers_44 (by decide) ?_
    exact W.iret (v := nI 0) hx hb hr (fun t ht hW => ⟨_, rfl, (by unfold covN forB; simp only [decide_eq_false c_1, Bool.not_true, Bool.not_false, Bool.and_true, Bool.true_and, Bool.and_false, Bool.false_and, Bool.or_true, Bool.true_or, Bool.or_false, Bool.false_or, Bool.and_self, Bool.or_self, if_true, Bool.false_eq_true, if_false] <;> rfl), ht⟩) (fun _ h => nomatch h) dX6_covers_45
  · refine lv_aload_n hx hb dX6_covers_8 rfl (lv_at hl 0 rfl) ?_
    refine va_get hx hb hts hinX6 hown hK (hM.Pa (hR.c25 (c := c0) (by omega)).1 rfl (hR.c25 (c := c0) (by omega)).2) 0 rfl rfl 1 (by decide) (hk2) (fun _ h9 => h9) rfl dX6_covers_9 ?_
    refine lv_iload_n hx hb dX6_covers_12 rfl (lv_at hl 2 rfl) ?_
    refine lv_icmp_ne (tgt := 44) hx hb dX6_covers_13 (by decide) (fun c_2 => ?_) (fun c_2 => ?_)
    · refine lv_iconst (v := nI 0) hx hb dX6_covers_44 (by decide) ?_
      exact W.iret (v := nI 0) hx hb hr (fun t ht hW => ⟨_, rfl, (by unfold covN forB; simp only [decide_eq_true c_1, decide_eq_false c_2, Bool.not_true, Bool.not_false, Bool.and_true, Bool.true_and, Bool.and_false, Bool.false_and, Bool.or_true, Bool.true_or, Bool.or_false, Bool.false_or, Bool.and_self, Bool.or_self, if_true, Bool.false_eq_true, if_false] <;> rfl), ht⟩) (fun _ h => nomatch h) dX6_covers_45
    · refine lv_aload_n hx hb dX6_covers_16 rfl (lv_at hl 0 rfl) ?_
      refine va_get hx hb hts hinX6 hown hK (hM.Pa (hR.c25 (c := c0) (by omega)).1 rfl (hR.c25 (c := c0) (by omega)).2) 0 rfl rfl 3 (by decide) (hk3) (fun _ h9 => h9) rfl dX6_covers_17 ?_
      refine lv_iload_n hx hb dX6_covers_20 rfl (lv_at hl 3 rfl) ?_
      refine lv_ishr hx hb dX6_covers_21 ?_
      refine lv_iconst (v := nI 1) hx hb dX6_covers_22 (by decide) ?_
      refine lv_iand hx hb dX6_covers_23 ?_
      refine lv_iconst (v := nI 1) hx hb dX6_covers_24 (by decide) ?_
      refine lv_icmp_ne (tgt := 44) hx hb dX6_covers_25 (by decide) (fun c_3 => ?_) (fun c_3 => ?_)
      · have c_3 := bitN c_3
        refine lv_iconst (v := nI 0) hx hb dX6_covers_44 (by decide) ?_
        exact W.iret (v := nI 0) hx hb hr (fun t ht hW => ⟨_, rfl, (by unfold covN forB; simp only [decide_eq_true c_1, decide_eq_true c_2, decide_eq_true c_3, Bool.not_true, Bool.not_false, Bool.and_true, Bool.true_and, Bool.and_false, Bool.false_and, Bool.or_true, Bool.true_or, Bool.or_false, Bool.false_or, Bool.and_self, Bool.or_self, if_true, Bool.false_eq_true, if_false] <;> rfl), ht⟩) (fun _ h => nomatch h) dX6_covers_45
      · have c_3 := bitP.mp c_3
        refine lv_aload_n hx hb dX6_covers_28 rfl (lv_at hl 0 rfl) ?_
        refine lv_iload hx hb dX6_covers_29 (lv_at hl 4 rfl) ?_
        refine zcVi (As := [.int d]) (rest := []) ⟨hx, hb, hml, hown, hts⟩ (c_X6_has l D ty A u C ma t0 mi g n1 n2 nL n4 n5 th rep bro hR c0 (by omega) d) (cwV 1 hts gX6_covers_X6_has rfl rfl rfl (by decide +kernel) ⟨Nat.le_of_ble_eq_true rfl, Nat.le_of_ble_eq_true rfl⟩) mI_blind (mI_pre hM hK hMS hS) (va_recv hK (hM.Pa (hR.c25 (c := c0) (by omega)).1 rfl (hR.c25 (c := c0) (by omega)).2) (ci := 7) (q0 := 0) rfl rfl) rfl hl.1 rfl (Nat.le_of_ble_eq_true rfl) dX6_covers_31 ⟨Nat.le_of_ble_eq_true rfl, Nat.le_of_ble_eq_true rfl⟩ (fun r_4 hr_4 => ?_)
        subst hr_4
        refine lv_if_eq (tgt := 44) hx hb dX6_covers_34 (by decide) (fun c_5 => ?_) (fun c_5 => ?_)
        · have c_5 := bI_f c_5
          refine lv_iconst (v := nI 0) hx hb dX6_covers_44 (by decide) ?_
          exact W.iret (v := nI 0) hx hb hr (fun t ht hW => ⟨_, rfl, (by unfold covN forB; simp only [decide_eq_true c_1, decide_eq_true c_2, decide_eq_false c_3, c_5, Bool.not_true, Bool.not_false, Bool.and_true, Bool.true_and, Bool.and_false, Bool.false_and, Bool.or_true, Bool.true_or, Bool.or_false, Bool.false_or, Bool.and_self, Bool.or_self, if_true, Bool.false_eq_true, if_false] <;> rfl), ht⟩) (fun _ h => nomatch h) dX6_covers_45
        · have c_5 := bI_t c_5
          refine lv_aload_n hx hb dX6_covers_37 rfl (lv_at hl 0 rfl) ?_
          refine va_get hx hb hts hinX6 hown hK (hM.Pa (hR.c25 (c := c0) (by omega)).1 rfl (hR.c25 (c := c0) (by omega)).2) 0 rfl rfl 2 (by decide) (hk4) (fun _ h9 => h9) rfl dX6_covers_38 ?_
          refine lv_goto (tgt := 45) hx hb dX6_covers_41 (by decide) ?_
          exact W.iret (v := g 25 c0) hx hb hr (fun t ht hW => ⟨_, rfl, (by unfold covN forB; simp only [decide_eq_true c_1, decide_eq_true c_2, decide_eq_false c_3, c_5, Bool.not_true, Bool.not_false, Bool.and_true, Bool.true_and, Bool.and_false, Bool.false_and, Bool.or_true, Bool.true_or, Bool.or_false, Bool.false_or, Bool.and_self, Bool.or_self, if_true, Bool.false_eq_true, if_false] <;> rfl), ht⟩) (fun _ h => nomatch h) dX6_covers_45
set_option maxHeartbeats 400000 in
set_option maxRecDepth 100000 in
theorem c_X12_coveredNow (l : Launch) (D : va_G) (ty : Nat → ClassId) (A : Nat → Prop) (u : Nat → Nat → Prop) (C : Nat → Nat → va_E) (ma : Nat → Nat → Nat) (t0 mi : Nat) (g : Nat → Nat → Int32) (n1 n2 nL n4 n5 : Nat) (th : Int32) (rep bro : Nat → Nat → Int32) (hR : mR ty t0 g n1 n2 nL n4 n5 th rep bro u C ma) (R S P d : Int32) : Met l yX12_coveredNow wsX12_coveredNow ({ frames := 3, cells := 0, slots := 0, locals := 64 }) (va_Pc [.ref (ma 0 0), .int R, .int S, .int P, .int d] (mI D ty A u C ma t0 mi)) (vp_Si (fun v_ => v_ = covP g n4 R S d P)) 0 0 (fun _ => False) := by
  refine zMet (cc := cX12_coveredNow) (maxL := 7) (ret := (some .int)) (by decide) rfl (Nat.le_of_ble_eq_true rfl) ?_
  intro p e s m below meth c hx hb hr hts hown hlocks hml hB ls hl
  obtain ⟨hM, hK, hMS⟩ := hB
  have hS : va_S A s.heap s.heap [] := va_S.rf
  have hbn := hR.I.b1
  have hbs := hR.I.b2
  have hbl := hR.I.bL
  have hbc := hR.I.b4
  have hbr := hR.I.b5
  have hl : lv_has ls 7 [(0, .ref (ma 0 0)), (1, .int R), (2, .int S), (3, .int P), (4, .int d)] := hl
  have hinX12 : ∀ w ∈ wsX120, w ∈ wsX12_coveredNow := by decide +kernel
  have hk1 := hts (.fieldLink RX12 19 "DatamarketDeskModel" "contracts" "Ljava/util/ArrayList;") (by decide +kernel)
  have hk2 := hts (.classLink RX12 196 "DatamarketDeskModel$Contract") (by decide +kernel)
  refine lv_iconst (v := nI 0) hx hb dX12_coveredNow_0 (by decide) ?_
  refine lv_istore (lv' := [(5, .int (nI 0)), (0, .ref (ma 0 0)), (1, .int R), (2, .int S), (3, .int P), (4, .int d)]) hx hb dX12_coveredNow_1 hl (by decide) rfl (fun ls hl => ?_)
  refine lv_iconst (v := nI 0) hx hb dX12_coveredNow_3 (by decide) ?_
  refine lv_istore (lv' := [(6, .int (nI 0)), (5, .int (nI 0)), (0, .ref (ma 0 0)), (1, .int R), (2, .int S), (3, .int P), (4, .int d)]) hx hb dX12_coveredNow_4 hl (by decide) rfl (fun ls hl => ?_)
  refine zloopP (τ := Unit) (fun j _ ls => lv_has ls 7 [(5, .int (orN (fOpen g R S (nI 1 <<< (P &&& 31)) d (-1)) j)), (6, .int (nI j)), (0, .ref (ma 0 0)), (1, .int R), (2, .int S), (3, .int P), (4, .int d)]) n4 ?_ 0 () ls (Nat.zero_le _) (lv_sub hl [1, 0, 2, 3, 4, 5, 6] rfl)
  intro j _ ls hi_j hl ih_j
  have hl : lv_has ls 7 [(5, .int (orN (fOpen g R S (nI 1 <<< (P &&& 31)) d (-1)) j)), (6, .int (nI j)), (0, .ref (ma 0 0)), (1, .int R), (2, .int S), (3, .int P), (4, .int d)] := hl
  refine lv_iload hx hb dX12_coveredNow_6 (lv_at hl 1 rfl) ?_
  refine lv_aload_n hx hb dX12_coveredNow_8 rfl (lv_at hl 2 rfl) ?_
  refine va_get hx hb hts hinX12 hown hK (hM.Pa hR.o.1 rfl hR.o.2) 0 rfl rfl 3 (by decide) (hk1) (fun _ h9 => h9) rfl dX12_coveredNow_9 ?_
  obtain ⟨huz_1, hnz_1, mz_1, bz_1, hCz_1⟩ := isL.hd hR.l5
  refine zcVi (As := []) (rest := [.int (nI j)]) ⟨hx, hb, hml, hown, hts⟩ (c_size l D ty A u C ma t0 mi 5 0 n4 (ma 25) hR.l5) (cwV 0 hts gX12_coveredNow_Jx4a65c_size_8abf5 rfl rfl rfl (by decide +kernel) ⟨Nat.le_of_ble_eq_true rfl, Nat.le_of_ble_eq_true rfl⟩) mI_blind (mI_pre hM hK hMS hS) (va_recv hK (hM.Pa huz_1 rfl hCz_1) (ci := 0) (q0 := 0) rfl rfl) rfl hl.1 rfl (Nat.le_of_ble_eq_true rfl) dX12_coveredNow_12 ⟨Nat.le_of_ble_eq_true rfl, Nat.le_of_ble_eq_true rfl⟩ (fun r_2 hr_2 => ?_)
  subst hr_2
  refine lv_icmp_ge (tgt := 49) hx hb dX12_coveredNow_15 (by decide) (fun c_3 => ?_) (fun c_3 => ?_)
  · have c_3 := zn_geT (a := j) (b := n4) (by omega) (by omega) c_3
    obtain rfl : j = n4 := by omega
    refine lv_iload hx hb dX12_coveredNow_49 (lv_at hl 0 rfl) ?_
    exact W.iret (v := orN (fOpen g R S (nI 1 <<< (P &&& 31)) d (-1)) j) hx hb hr (fun t ht hW => ⟨_, rfl, rfl, ht⟩) (fun _ h => nomatch h) dX12_coveredNow_51
  · have c_3 := zn_geF (a := j) (b := n4) (by omega) (by omega) c_3
    refine lv_iload hx hb dX12_coveredNow_18 (lv_at hl 0 rfl) ?_
    refine lv_aload_n hx hb dX12_coveredNow_20 rfl (lv_at hl 2 rfl) ?_
    refine va_get hx hb hts hinX12 hown hK (hM.Pa hR.o.1 rfl hR.o.2) 0 rfl rfl 3 (by decide) (hk1) (fun _ h9 => h9) rfl dX12_coveredNow_21 ?_
    refine lv_iload hx hb dX12_coveredNow_24 (lv_at hl 1 rfl) ?_
    obtain ⟨huz_4, hnz_4, mz_4, bz_4, hCz_4⟩ := isL.hd hR.l5
    refine zcVr (x := .ref (ma 25 j)) (As := [.int (nI j)]) (rest := [.int (orN (fOpen g R S (nI 1 <<< (P &&& 31)) d (-1)) j)]) ⟨hx, hb, hml, hown, hts⟩ (c_get l D ty A u C ma t0 mi 5 0 n4 (ma 25) hR.l5 j (by omega)) (cwV 1 hts gX12_coveredNow_Jx4a65c_get_915e3 rfl rfl rfl (by decide +kernel) ⟨Nat.le_of_ble_eq_true rfl, Nat.le_of_ble_eq_true rfl⟩) mI_blind (mI_pre hM hK hMS hS) (va_recv hK (hM.Pa huz_4 rfl hCz_4) (ci := 0) (q0 := 0) rfl rfl) rfl hl.1 rfl (Nat.le_of_ble_eq_true rfl) dX12_coveredNow_26 ⟨Nat.le_of_ble_eq_true rfl, Nat.le_of_ble_eq_true rfl⟩ ?_
    refine va_castS hx hb hown (hk2) ((hK.1 7 _ rfl).2) (va_recv hK (hM.Pa (hR.c25 (c := j) (by omega)).1 rfl (hR.c25 (c := j) (by omega)).2) (ci := 7) (q0 := 0) rfl rfl) dX12_coveredNow_29 ?_
    refine lv_iload_n hx hb dX12_coveredNow_32 rfl (lv_at hl 3 rfl) ?_
    refine lv_iload_n hx hb dX12_coveredNow_33 rfl (lv_at hl 4 rfl) ?_
    refine lv_iload_n hx hb dX12_coveredNow_34 rfl (lv_at hl 5 rfl) ?_
    refine lv_iload hx hb dX12_coveredNow_35 (lv_at hl 6 rfl) ?_
    refine zcVi (As := [.int R, .int S, .int P, .int d]) (rest := [.int (orN (fOpen g R S (nI 1 <<< (P &&& 31)) d (-1)) j)]) ⟨hx, hb, hml, hown, hts⟩ (c_X6_covers l D ty A u C ma t0 mi g n1 n2 nL n4 n5 th rep bro hR j (by omega) R S P d) (cwV 4 hts gX12_coveredNow_X6_covers rfl rfl rfl (by decide +kernel) ⟨Nat.le_of_ble_eq_true rfl, Nat.le_of_ble_eq_true rfl⟩) mI_blind (mI_pre hM hK hMS hS) (va_recv hK (hM.Pa (hR.c25 (c := j) (by omega)).1 rfl (hR.c25 (c := j) (by omega)).2) (ci := 7) (q0 := 0) rfl rfl) rfl hl.1 rfl (Nat.le_of_ble_eq_true rfl) dX12_coveredNow_37 ⟨Nat.le_of_ble_eq_true rfl, Nat.le_of_ble_eq_true rfl⟩ (fun r_6 hr_6 => ?_)
    subst hr_6
    refine lv_ior hx hb dX12_coveredNow_40 ?_
    refine lv_istore (lv' := [(5, .int ((orN (fOpen g R S (nI 1 <<< (P &&& 31)) d (-1)) j) ||| (covN g j R S P d))), (6, .int (nI j)), (0, .ref (ma 0 0)), (1, .int R), (2, .int S), (3, .int P), (4, .int d)]) hx hb dX12_coveredNow_41 hl (by decide) rfl (fun ls hl => ?_)
    refine lv_iinc (v := nI (j + 1)) (lv' := [(6, .int (nI (j + 1))), (5, .int ((orN (fOpen g R S (nI 1 <<< (P &&& 31)) d (-1)) j) ||| (covN g j R S P d))), (0, .ref (ma 0 0)), (1, .int R), (2, .int S), (3, .int P), (4, .int d)]) hx hb dX12_coveredNow_43 hl (k := 1) rfl (nI_add j 1) (by decide) rfl (fun ls hl => ?_)
    refine lv_goto (tgt := 6) hx hb dX12_coveredNow_46 (by decide) ?_
    refine ih_j () ls (by omega) (show lv_has ls 7 [(5, .int (orN (fOpen g R S (nI 1 <<< (P &&& 31)) d (-1)) (j + 1))), (6, .int (nI (j + 1))), (0, .ref (ma 0 0)), (1, .int R), (2, .int S), (3, .int P), (4, .int d)] from ?_)
    rw [show orN (fOpen g R S (nI 1 <<< (P &&& 31)) d (-1)) (j + 1) = (orN (fOpen g R S (nI 1 <<< (P &&& 31)) d (-1)) j) ||| (covN g j R S P d) from congrArg (fun z => (orN (fOpen g R S (nI 1 <<< (P &&& 31)) d (-1)) j) |||  z) (show (fOpen g R S (nI 1 <<< (P &&& 31)) d (-1)) j = (covN g j R S P d) from cov_op (by omega))]
    exact lv_sub hl [1, 0, 2, 3, 4, 5, 6] rfl
set_option maxHeartbeats 400000 in
set_option maxRecDepth 100000 in
theorem c_X12_contractsOf (l : Launch) (D : va_G) (ty : Nat → ClassId) (A : Nat → Prop) (u : Nat → Nat → Prop) (C : Nat → Nat → va_E) (ma : Nat → Nat → Nat) (t0 mi : Nat) (g : Nat → Nat → Int32) (n1 n2 nL n4 n5 : Nat) (th : Int32) (rep bro : Nat → Nat → Int32) (hR : mR ty t0 g n1 n2 nL n4 n5 th rep bro u C ma) (R : Int32) : Met l yX12_contractsOf wsX12_contractsOf ({ frames := 3, cells := 0, slots := 0, locals := 64 }) (va_Pc [.ref (ma 0 0), .int R] (mI D ty A u C ma t0 mi)) (vp_Si (fun v_ => v_ = sumN (fOn g R (g 0 0)) n4)) 0 0 (fun _ => False) := by
  refine zMet (cc := cX12_contractsOf) (maxL := 4) (ret := (some .int)) (by decide) rfl (Nat.le_of_ble_eq_true rfl) ?_
  intro p e s m below meth c hx hb hr hts hown hlocks hml hB ls hl
  obtain ⟨hM, hK, hMS⟩ := hB
  have hS : va_S A s.heap s.heap [] := va_S.rf
  have hbn := hR.I.b1
  have hbs := hR.I.b2
  have hbl := hR.I.bL
  have hbc := hR.I.b4
  have hbr := hR.I.b5
  have hl : lv_has ls 4 [(0, .ref (ma 0 0)), (1, .int R)] := hl
  have hinX12 : ∀ w ∈ wsX120, w ∈ wsX12_contractsOf := by decide +kernel
  have hk1 := hts (.fieldLink RX12 19 "DatamarketDeskModel" "contracts" "Ljava/util/ArrayList;") (by decide +kernel)
  have hk2 := hts (.classLink RX12 196 "DatamarketDeskModel$Contract") (by decide +kernel)
  have hinX6 : ∀ w ∈ wsX60, w ∈ wsX12_contractsOf := by decide +kernel
  have hk4 := hts (.fieldLink RX12 270 "DatamarketDeskModel$Contract" "reader" "I") (by decide +kernel)
  have hk5 := hts (.fieldLink RX12 193 "DatamarketDeskModel" "today" "I") (by decide +kernel)
  refine lv_iconst (v := nI 0) hx hb dX12_contractsOf_0 (by decide) ?_
  refine lv_istore_n (lv' := [(2, .int (nI 0)), (0, .ref (ma 0 0)), (1, .int R)]) hx hb dX12_contractsOf_1 rfl hl (by decide) rfl (fun ls hl => ?_)
  refine lv_iconst (v := nI 0) hx hb dX12_contractsOf_2 (by decide) ?_
  refine lv_istore_n (lv' := [(3, .int (nI 0)), (2, .int (nI 0)), (0, .ref (ma 0 0)), (1, .int R)]) hx hb dX12_contractsOf_3 rfl hl (by decide) rfl (fun ls hl => ?_)
  refine zloopP (τ := Unit) (fun j _ ls => lv_has ls 4 [(2, .int (sumN (fOn g R (g 0 0)) j)), (3, .int (nI j)), (0, .ref (ma 0 0)), (1, .int R)]) n4 ?_ 0 () ls (Nat.zero_le _) (lv_sub hl [1, 0, 2, 3] rfl)
  intro j _ ls hi_j hl ih_j
  have hl : lv_has ls 4 [(2, .int (sumN (fOn g R (g 0 0)) j)), (3, .int (nI j)), (0, .ref (ma 0 0)), (1, .int R)] := hl
  refine lv_iload_n hx hb dX12_contractsOf_4 rfl (lv_at hl 1 rfl) ?_
  refine lv_aload_n hx hb dX12_contractsOf_5 rfl (lv_at hl 2 rfl) ?_
  refine va_get hx hb hts hinX12 hown hK (hM.Pa hR.o.1 rfl hR.o.2) 0 rfl rfl 3 (by decide) (hk1) (fun _ h9 => h9) rfl dX12_contractsOf_6 ?_
  obtain ⟨huz_1, hnz_1, mz_1, bz_1, hCz_1⟩ := isL.hd hR.l5
  refine zcVi (As := []) (rest := [.int (nI j)]) ⟨hx, hb, hml, hown, hts⟩ (c_size l D ty A u C ma t0 mi 5 0 n4 (ma 25) hR.l5) (cwV 0 hts gX12_contractsOf_Jx4a65c_size_8abf5 rfl rfl rfl (by decide +kernel) ⟨Nat.le_of_ble_eq_true rfl, Nat.le_of_ble_eq_true rfl⟩) mI_blind (mI_pre hM hK hMS hS) (va_recv hK (hM.Pa huz_1 rfl hCz_1) (ci := 0) (q0 := 0) rfl rfl) rfl hl.1 rfl (Nat.le_of_ble_eq_true rfl) dX12_contractsOf_9 ⟨Nat.le_of_ble_eq_true rfl, Nat.le_of_ble_eq_true rfl⟩ (fun r_2 hr_2 => ?_)
  subst hr_2
  refine lv_icmp_ge (tgt := 68) hx hb dX12_contractsOf_12 (by decide) (fun c_3 => ?_) (fun c_3 => ?_)
  · have c_3 := zn_geT (a := j) (b := n4) (by omega) (by omega) c_3
    obtain rfl : j = n4 := by omega
    refine lv_iload_n hx hb dX12_contractsOf_68 rfl (lv_at hl 0 rfl) ?_
    exact W.iret (v := sumN (fOn g R (g 0 0)) j) hx hb hr (fun t ht hW => ⟨_, rfl, rfl, ht⟩) (fun _ h => nomatch h) dX12_contractsOf_69
  · have c_3 := zn_geF (a := j) (b := n4) (by omega) (by omega) c_3
    refine lv_iload_n hx hb dX12_contractsOf_15 rfl (lv_at hl 0 rfl) ?_
    refine lv_aload_n hx hb dX12_contractsOf_16 rfl (lv_at hl 2 rfl) ?_
    refine va_get hx hb hts hinX12 hown hK (hM.Pa hR.o.1 rfl hR.o.2) 0 rfl rfl 3 (by decide) (hk1) (fun _ h9 => h9) rfl dX12_contractsOf_17 ?_
    refine lv_iload_n hx hb dX12_contractsOf_20 rfl (lv_at hl 1 rfl) ?_
    obtain ⟨huz_4, hnz_4, mz_4, bz_4, hCz_4⟩ := isL.hd hR.l5
    refine zcVr (x := .ref (ma 25 j)) (As := [.int (nI j)]) (rest := [.int (sumN (fOn g R (g 0 0)) j)]) ⟨hx, hb, hml, hown, hts⟩ (c_get l D ty A u C ma t0 mi 5 0 n4 (ma 25) hR.l5 j (by omega)) (cwV 1 hts gX12_contractsOf_Jx4a65c_get_915e3 rfl rfl rfl (by decide +kernel) ⟨Nat.le_of_ble_eq_true rfl, Nat.le_of_ble_eq_true rfl⟩) mI_blind (mI_pre hM hK hMS hS) (va_recv hK (hM.Pa huz_4 rfl hCz_4) (ci := 0) (q0 := 0) rfl rfl) rfl hl.1 rfl (Nat.le_of_ble_eq_true rfl) dX12_contractsOf_21 ⟨Nat.le_of_ble_eq_true rfl, Nat.le_of_ble_eq_true rfl⟩ ?_
    refine va_castS hx hb hown (hk2) ((hK.1 7 _ rfl).2) (va_recv hK (hM.Pa (hR.c25 (c := j) (by omega)).1 rfl (hR.c25 (c := j) (by omega)).2) (ci := 7) (q0 := 0) rfl rfl) dX12_contractsOf_24 ?_
    refine va_get hx hb hts hinX6 hown hK (hM.Pa (hR.c25 (c := j) (by omega)).1 rfl (hR.c25 (c := j) (by omega)).2) 0 rfl rfl 0 (by decide) (hk4) (fun _ h9 => h9) rfl dX12_contractsOf_27 ?_
    refine lv_iload_n hx hb dX12_contractsOf_30 rfl (lv_at hl 3 rfl) ?_
    refine lv_icmp_ne (tgt := 59) hx hb dX12_contractsOf_31 (by decide) (fun c_6 => ?_) (fun c_6 => ?_)
    · refine lv_iconst (v := nI 0) hx hb dX12_contractsOf_59 (by decide) ?_
      refine lv_iadd hx hb dX12_contractsOf_60 ?_
      refine lv_istore_n (lv' := [(2, .int ((sumN (fOn g R (g 0 0)) j) + (nI 0))), (3, .int (nI j)), (0, .ref (ma 0 0)), (1, .int R)]) hx hb dX12_contractsOf_61 rfl hl (by decide) rfl (fun ls hl => ?_)
      refine lv_iinc (v := nI (j + 1)) (lv' := [(3, .int (nI (j + 1))), (2, .int ((sumN (fOn g R (g 0 0)) j) + (nI 0))), (0, .ref (ma 0 0)), (1, .int R)]) hx hb dX12_contractsOf_62 hl (k := 1) rfl (nI_add j 1) (by decide) rfl (fun ls hl => ?_)
      refine lv_goto (tgt := 4) hx hb dX12_contractsOf_65 (by decide) ?_
      refine ih_j () ls (by omega) (show lv_has ls 4 [(2, .int (sumN (fOn g R (g 0 0)) (j + 1))), (3, .int (nI (j + 1))), (0, .ref (ma 0 0)), (1, .int R)] from ?_)
      rw [show sumN (fOn g R (g 0 0)) (j + 1) = (sumN (fOn g R (g 0 0)) j) + (nI 0) from congrArg (fun z => (sumN (fOn g R (g 0 0)) j) +  z) (show (fOn g R (g 0 0)) j = (nI 0) from by unfold fOn; simp only [decide_eq_false c_6, Bool.not_true, Bool.not_false, Bool.and_true, Bool.true_and, Bool.and_false, Bool.false_and, Bool.or_true, Bool.true_or, Bool.or_false, Bool.false_or, Bool.and_self, Bool.or_self, if_true, Bool.false_eq_true, if_false] <;> rfl)]
      exact lv_sub hl [1, 0, 2, 3] rfl
    · refine lv_aload_n hx hb dX12_contractsOf_34 rfl (lv_at hl 2 rfl) ?_
      refine va_get hx hb hts hinX12 hown hK (hM.Pa hR.o.1 rfl hR.o.2) 0 rfl rfl 3 (by decide) (hk1) (fun _ h9 => h9) rfl dX12_contractsOf_35 ?_
      refine lv_iload_n hx hb dX12_contractsOf_38 rfl (lv_at hl 1 rfl) ?_
      obtain ⟨huz_7, hnz_7, mz_7, bz_7, hCz_7⟩ := isL.hd hR.l5
      refine zcVr (x := .ref (ma 25 j)) (As := [.int (nI j)]) (rest := [.int (sumN (fOn g R (g 0 0)) j)]) ⟨hx, hb, hml, hown, hts⟩ (c_get l D ty A u C ma t0 mi 5 0 n4 (ma 25) hR.l5 j (by omega)) (cwV 1 hts gX12_contractsOf_Jx4a65c_get_915e3 rfl rfl rfl (by decide +kernel) ⟨Nat.le_of_ble_eq_true rfl, Nat.le_of_ble_eq_true rfl⟩) mI_blind (mI_pre hM hK hMS hS) (va_recv hK (hM.Pa huz_7 rfl hCz_7) (ci := 0) (q0 := 0) rfl rfl) rfl hl.1 rfl (Nat.le_of_ble_eq_true rfl) dX12_contractsOf_39 ⟨Nat.le_of_ble_eq_true rfl, Nat.le_of_ble_eq_true rfl⟩ ?_
      refine va_castS hx hb hown (hk2) ((hK.1 7 _ rfl).2) (va_recv hK (hM.Pa (hR.c25 (c := j) (by omega)).1 rfl (hR.c25 (c := j) (by omega)).2) (ci := 7) (q0 := 0) rfl rfl) dX12_contractsOf_42 ?_
      refine lv_aload_n hx hb dX12_contractsOf_45 rfl (lv_at hl 2 rfl) ?_
      refine va_get hx hb hts hinX12 hown hK (hM.Pa hR.o.1 rfl hR.o.2) 0 rfl rfl 5 (by decide) (hk5) (fun _ h9 => h9) rfl dX12_contractsOf_46 ?_
      refine zcVi (As := [.int (g 0 0)]) (rest := [.int (sumN (fOn g R (g 0 0)) j)]) ⟨hx, hb, hml, hown, hts⟩ (c_X6_has l D ty A u C ma t0 mi g n1 n2 nL n4 n5 th rep bro hR j (by omega) (g 0 0)) (cwV 1 hts gX12_contractsOf_X6_has rfl rfl rfl (by decide +kernel) ⟨Nat.le_of_ble_eq_true rfl, Nat.le_of_ble_eq_true rfl⟩) mI_blind (mI_pre hM hK hMS hS) (va_recv hK (hM.Pa (hR.c25 (c := j) (by omega)).1 rfl (hR.c25 (c := j) (by omega)).2) (ci := 7) (q0 := 0) rfl rfl) rfl hl.1 rfl (Nat.le_of_ble_eq_true rfl) dX12_contractsOf_49 ⟨Nat.le_of_ble_eq_true rfl, Nat.le_of_ble_eq_true rfl⟩ (fun r_9 hr_9 => ?_)
      subst hr_9
      refine lv_if_eq (tgt := 59) hx hb dX12_contractsOf_52 (by decide) (fun c_10 => ?_) (fun c_10 => ?_)
      · have c_10 := bI_f c_10
        refine lv_iconst (v := nI 0) hx hb dX12_contractsOf_59 (by decide) ?_
        refine lv_iadd hx hb dX12_contractsOf_60 ?_
        refine lv_istore_n (lv' := [(2, .int ((sumN (fOn g R (g 0 0)) j) + (nI 0))), (3, .int (nI j)), (0, .ref (ma 0 0)), (1, .int R)]) hx hb dX12_contractsOf_61 rfl hl (by decide) rfl (fun ls hl => ?_)
        refine lv_iinc (v := nI (j + 1)) (lv' := [(3, .int (nI (j + 1))), (2, .int ((sumN (fOn g R (g 0 0)) j) + (nI 0))), (0, .ref (ma 0 0)), (1, .int R)]) hx hb dX12_contractsOf_62 hl (k := 1) rfl (nI_add j 1) (by decide) rfl (fun ls hl => ?_)
        refine lv_goto (tgt := 4) hx hb dX12_contractsOf_65 (by decide) ?_
        refine ih_j () ls (by omega) (show lv_has ls 4 [(2, .int (sumN (fOn g R (g 0 0)) (j + 1))), (3, .int (nI (j + 1))), (0, .ref (ma 0 0)), (1, .int R)] from ?_)
        rw [show sumN (fOn g R (g 0 0)) (j + 1) = (sumN (fOn g R (g 0 0)) j) + (nI 0) from congrArg (fun z => (sumN (fOn g R (g 0 0)) j) +  z) (show (fOn g R (g 0 0)) j = (nI 0) from by unfold fOn; simp only [decide_eq_true c_6, c_10, Bool.not_true, Bool.not_false, Bool.and_true, Bool.true_and, Bool.and_false, Bool.false_and, Bool.or_true, Bool.true_or, Bool.or_false, Bool.false_or, Bool.and_self, Bool.or_self, if_true, Bool.false_eq_true, if_false] <;> rfl)]
        exact lv_sub hl [1, 0, 2, 3] rfl
      · have c_10 := bI_t c_10
        refine lv_iconst (v := nI 1) hx hb dX12_contractsOf_55 (by decide) ?_
        refine lv_goto (tgt := 60) hx hb dX12_contractsOf_56 (by decide) ?_
        refine lv_iadd hx hb dX12_contractsOf_60 ?_
        refine lv_istore_n (lv' := [(2, .int ((sumN (fOn g R (g 0 0)) j) + (nI 1))), (3, .int (nI j)), (0, .ref (ma 0 0)), (1, .int R)]) hx hb dX12_contractsOf_61 rfl hl (by decide) rfl (fun ls hl => ?_)
        refine lv_iinc (v := nI (j + 1)) (lv' := [(3, .int (nI (j + 1))), (2, .int ((sumN (fOn g R (g 0 0)) j) + (nI 1))), (0, .ref (ma 0 0)), (1, .int R)]) hx hb dX12_contractsOf_62 hl (k := 1) rfl (nI_add j 1) (by decide) rfl (fun ls hl => ?_)
        refine lv_goto (tgt := 4) hx hb dX12_contractsOf_65 (by decide) ?_
        refine ih_j () ls (by omega) (show lv_has ls 4 [(2, .int (sumN (fOn g R (g 0 0)) (j + 1))), (3, .int (nI (j + 1))), (0, .ref (ma 0 0)), (1, .int R)] from ?_)
        rw [show sumN (fOn g R (g 0 0)) (j + 1) = (sumN (fOn g R (g 0 0)) j) + (nI 1) from congrArg (fun z => (sumN (fOn g R (g 0 0)) j) +  z) (show (fOn g R (g 0 0)) j = (nI 1) from by unfold fOn; simp only [decide_eq_true c_6, c_10, Bool.not_true, Bool.not_false, Bool.and_true, Bool.true_and, Bool.and_false, Bool.false_and, Bool.or_true, Bool.true_or, Bool.or_false, Bool.false_or, Bool.and_self, Bool.or_self, if_true, Bool.false_eq_true, if_false] <;> rfl)]
        exact lv_sub hl [1, 0, 2, 3] rfl
set_option maxHeartbeats 400000 in
set_option maxRecDepth 100000 in
theorem c_X9_units (l : Launch) (D : va_G) (ty : Nat → ClassId) (A : Nat → Prop) (u : Nat → Nat → Prop) (C : Nat → Nat → va_E) (ma : Nat → Nat → Nat) (t0 mi : Nat) (g : Nat → Nat → Int32) (n1 n2 nL n4 n5 : Nat) (th : Int32) (rep bro : Nat → Nat → Int32) (hR : mR ty t0 g n1 n2 nL n4 n5 th rep bro u C ma) (r0 : Nat) (hr0 : r0 < n5) : Met l yX9_units wsX9_units ({ frames := 1, cells := 0, slots := 0, locals := 20 }) (va_Pc [.ref (ma 26 r0)] (mI D ty A u C ma t0 mi)) (vp_Si (fun v_ => v_ = g 33 r0 * bc (g 32 r0))) 0 0 (fun _ => False) := by
  refine zMet (cc := cX9_units) (maxL := 1) (ret := (some .int)) (by decide) rfl (Nat.le_of_ble_eq_true rfl) ?_
  intro p e s m below meth c hx hb hr hts hown hlocks hml hB ls hl
  obtain ⟨hM, hK, hMS⟩ := hB
  have hS : va_S A s.heap s.heap [] := va_S.rf
  have hbn := hR.I.b1
  have hbs := hR.I.b2
  have hbl := hR.I.bL
  have hbc := hR.I.b4
  have hbr := hR.I.b5
  have hl : lv_has ls 1 [(0, .ref (ma 26 r0))] := hl
  have hinX9 : ∀ w ∈ wsX90, w ∈ wsX9_units := by decide +kernel
  have hk1 := hts (.fieldLink RX9 28 "DatamarketDeskModel$Read" "rows" "I") (by decide +kernel)
  have hk2 := hts (.fieldLink RX9 25 "DatamarketDeskModel$Read" "fields" "I") (by decide +kernel)
  refine lv_aload_n hx hb dX9_units_0 rfl (lv_at hl 0 rfl) ?_
  refine va_get hx hb hts hinX9 hown hK (hM.Pa (hR.r26 (r := r0) (by omega)).1 rfl (hR.r26 (r := r0) (by omega)).2) 0 rfl rfl 4 (by decide) (hk1) (fun _ h9 => h9) rfl dX9_units_1 ?_
  refine lv_aload_n hx hb dX9_units_4 rfl (lv_at hl 0 rfl) ?_
  refine va_get hx hb hts hinX9 hown hK (hM.Pa (hR.r26 (r := r0) (by omega)).1 rfl (hR.r26 (r := r0) (by omega)).2) 0 rfl rfl 3 (by decide) (hk2) (fun _ h9 => h9) rfl dX9_units_5 ?_
  refine zcSi (As := [.int (g 32 r0)]) (rest := [.int (g 33 r0)]) ⟨hx, hb, hml, hown, hts⟩ (c_J6_bitCount l _ (g 32 r0)) (va_cwS 1 hts gX9_units_J6_bitCount_0f7a4 rfl rfl rfl (by decide +kernel) ⟨Nat.le_of_ble_eq_true rfl, Nat.le_of_ble_eq_true rfl⟩) (B := fun _ => True) (fun _ _ _ _ _ => trivial) (fun _ _ _ => trivial) rfl hl.1 rfl (Nat.le_of_ble_eq_true rfl) dX9_units_8 ⟨Nat.le_of_ble_eq_true rfl, Nat.le_of_ble_eq_true rfl⟩ (fun r_1 hr_1 => ?_)
  subst hr_1
  refine lv_imul hx hb dX9_units_11 ?_
  exact W.iret (v := (g 33 r0) * (bc (g 32 r0))) hx hb hr (fun t ht hW => ⟨_, rfl, rfl, ht⟩) (fun _ h => nomatch h) dX9_units_12
set_option maxHeartbeats 400000 in
set_option maxRecDepth 100000 in
theorem c_X9_charge (l : Launch) (D : va_G) (ty : Nat → ClassId) (A : Nat → Prop) (u : Nat → Nat → Prop) (C : Nat → Nat → va_E) (ma : Nat → Nat → Nat) (t0 mi : Nat) (g : Nat → Nat → Int32) (n1 n2 nL n4 n5 : Nat) (th : Int32) (rep bro : Nat → Nat → Int32) (hR : mR ty t0 g n1 n2 nL n4 n5 th rep bro u C ma) (r0 : Nat) (hr0 : r0 < n5) : Met l yX9_charge wsX9_charge ({ frames := 0, cells := 0, slots := 0, locals := 0 }) (va_Pc [.ref (ma 26 r0)] (mI D ty A u C ma t0 mi)) (vp_Si (fun v_ => v_ = chN g r0)) 0 0 (fun _ => False) := by
  refine zMet (cc := cX9_charge) (maxL := 6) (ret := (some .int)) (by decide) rfl (Nat.le_of_ble_eq_true rfl) ?_
  intro p e s m below meth c hx hb hr hts hown hlocks hml hB ls hl
  obtain ⟨hM, hK, hMS⟩ := hB
  have hS : va_S A s.heap s.heap [] := va_S.rf
  have hbn := hR.I.b1
  have hbs := hR.I.b2
  have hbl := hR.I.bL
  have hbc := hR.I.b4
  have hbr := hR.I.b5
  have hl : lv_has ls 6 [(0, .ref (ma 26 r0))] := hl
  have hinX9 : ∀ w ∈ wsX90, w ∈ wsX9_charge := by decide +kernel
  have hk1 := hts (.fieldLink RX9 9 "DatamarketDeskModel$Read" "charges" "[I") (by decide +kernel)
  refine lv_iconst (v := nI 0) hx hb dX9_charge_0 (by decide) ?_
  refine lv_istore_n (lv' := [(1, .int (nI 0)), (0, .ref (ma 26 r0))]) hx hb dX9_charge_1 rfl hl (by decide) rfl (fun ls hl => ?_)
  refine lv_aload_n hx hb dX9_charge_2 rfl (lv_at hl 1 rfl) ?_
  refine va_get hx hb hts hinX9 hown hK (hM.Pa (hR.r26 (r := r0) (by omega)).1 rfl (hR.r26 (r := r0) (by omega)).2) 0 rfl rfl 8 (by decide) (hk1) (fun _ h9 => h9) rfl dX9_charge_3 ?_
  refine lv_astore_n (lv' := [(2, .ref (ma 27 r0)), (1, .int (nI 0)), (0, .ref (ma 26 r0))]) hx hb dX9_charge_6 rfl hl (by decide) rfl (fun ls hl => ?_)
  refine lv_aload_n hx hb dX9_charge_7 rfl (lv_at hl 0 rfl) ?_
  refine va_alen hx hb hK (hM.Pa (hR.r27 (r := r0) (by omega)).1 rfl (hR.r27 (r := r0) (by omega)).2) 0 0 rfl rfl (v := nI 6) rfl dX9_charge_8 ?_
  refine lv_istore_n (lv' := [(3, .int (nI 6)), (2, .ref (ma 27 r0)), (1, .int (nI 0)), (0, .ref (ma 26 r0))]) hx hb dX9_charge_9 rfl hl (by decide) rfl (fun ls hl => ?_)
  refine lv_iconst (v := nI 0) hx hb dX9_charge_10 (by decide) ?_
  refine lv_istore (lv' := [(4, .int (nI 0)), (3, .int (nI 6)), (2, .ref (ma 27 r0)), (1, .int (nI 0)), (0, .ref (ma 26 r0))]) hx hb dX9_charge_11 hl (by decide) rfl (fun ls hl => ?_)
  refine zloopP (τ := Unit) (fun i _ ls => lv_has ls 6 [(1, .int (sumN (chF g r0) i)), (4, .int (nI i)), (3, .int (nI 6)), (2, .ref (ma 27 r0)), (0, .ref (ma 26 r0))]) 6 ?_ 0 () ls (Nat.zero_le _) (lv_sub hl [3, 0, 1, 2, 4] rfl)
  intro i _ ls hi_i hl ih_i
  have hl : lv_has ls 6 [(1, .int (sumN (chF g r0) i)), (4, .int (nI i)), (3, .int (nI 6)), (2, .ref (ma 27 r0)), (0, .ref (ma 26 r0))] := hl
  refine lv_iload hx hb dX9_charge_13 (lv_at hl 1 rfl) ?_
  refine lv_iload_n hx hb dX9_charge_15 rfl (lv_at hl 2 rfl) ?_
  refine lv_icmp_ge (tgt := 36) hx hb dX9_charge_16 (by decide) (fun c_1 => ?_) (fun c_1 => ?_)
  · have c_1 := zn_geT (a := i) (b := 6) (by omega) (by omega) c_1
    obtain rfl : i = 6 := by omega
    refine lv_iload_n hx hb dX9_charge_36 rfl (lv_at hl 0 rfl) ?_
    exact W.iret (v := sumN (chF g r0) 6) hx hb hr (fun t ht hW => ⟨_, rfl, rfl, ht⟩) (fun _ h => nomatch h) dX9_charge_37
  · have c_1 := zn_geF (a := i) (b := 6) (by omega) (by omega) c_1
    refine lv_aload_n hx hb dX9_charge_19 rfl (lv_at hl 3 rfl) ?_
    refine lv_iload hx hb dX9_charge_20 (lv_at hl 1 rfl) ?_
    refine zald hx hb hK (hM.Pa (hR.r27 (r := r0) (by omega)).1 rfl (hR.r27 (r := r0) (by omega)).2) 0 0 rfl rfl (i := i) (by omega) (by omega) dX9_charge_22 ?_
    refine zeq (row6_at (by omega)) ?_
    refine lv_istore (lv' := [(5, .int (g 38 (r0 * 6 + i))), (1, .int (sumN (chF g r0) i)), (4, .int (nI i)), (3, .int (nI 6)), (2, .ref (ma 27 r0)), (0, .ref (ma 26 r0))]) hx hb dX9_charge_23 hl (by decide) rfl (fun ls hl => ?_)
    refine lv_iload_n hx hb dX9_charge_25 rfl (lv_at hl 1 rfl) ?_
    refine lv_iload hx hb dX9_charge_26 (lv_at hl 0 rfl) ?_
    refine lv_iadd hx hb dX9_charge_28 ?_
    refine lv_istore_n (lv' := [(1, .int ((sumN (chF g r0) i) + (g 38 (r0 * 6 + i)))), (5, .int (g 38 (r0 * 6 + i))), (4, .int (nI i)), (3, .int (nI 6)), (2, .ref (ma 27 r0)), (0, .ref (ma 26 r0))]) hx hb dX9_charge_29 rfl hl (by decide) rfl (fun ls hl => ?_)
    refine lv_iinc (v := nI (i + 1)) (lv' := [(4, .int (nI (i + 1))), (1, .int ((sumN (chF g r0) i) + (g 38 (r0 * 6 + i)))), (5, .int (g 38 (r0 * 6 + i))), (3, .int (nI 6)), (2, .ref (ma 27 r0)), (0, .ref (ma 26 r0))]) hx hb dX9_charge_30 hl (k := 2) rfl (nI_add i 1) (by decide) rfl (fun ls hl => ?_)
    refine lv_goto (tgt := 13) hx hb dX9_charge_33 (by decide) ?_
    exact ih_i () ls (by omega) (show lv_has ls 6 [(1, .int (sumN (chF g r0) (i + 1))), (4, .int (nI (i + 1))), (3, .int (nI 6)), (2, .ref (ma 27 r0)), (0, .ref (ma 26 r0))] from lv_sub hl [1, 0, 3, 4, 5] rfl)
set_option maxHeartbeats 400000 in
set_option maxRecDepth 100000 in
theorem c_X9_credit (l : Launch) (D : va_G) (ty : Nat → ClassId) (A : Nat → Prop) (u : Nat → Nat → Prop) (C : Nat → Nat → va_E) (ma : Nat → Nat → Nat) (t0 mi : Nat) (g : Nat → Nat → Int32) (n1 n2 nL n4 n5 : Nat) (th : Int32) (rep bro : Nat → Nat → Int32) (hR : mR ty t0 g n1 n2 nL n4 n5 th rep bro u C ma) (ah : Nat) (r0 : Nat) (hr0 : r0 < n5) : Met l yX9_credit wsX9_credit ({ frames := 0, cells := 0, slots := 0, locals := 0 }) (va_Pc [.ref (ma 26 r0), .ref ah] (mIh D ty A u C ma t0 mi ah (g 21))) (vp_Si (fun v_ => v_ = crN g 21 r0)) 0 0 (fun _ => False) := by
  refine zMet (cc := cX9_credit) (maxL := 4) (ret := (some .int)) (by decide) rfl (Nat.le_of_ble_eq_true rfl) ?_
  intro p e s m below meth c hx hb hr hts hown hlocks hml hB ls hl
  obtain ⟨⟨hM, hK, hMS⟩, ⟨hmb, hmd, hA⟩⟩ := hB
  have hS : va_S A s.heap s.heap [] := va_S.rf
  have hbn := hR.I.b1
  have hbs := hR.I.b2
  have hbl := hR.I.bL
  have hbc := hR.I.b4
  have hbr := hR.I.b5
  have h30 := (hR.I.rd hr0).1.2
  have h31 := (hR.I.rd hr0).2.2
  have hl : lv_has ls 4 [(0, .ref (ma 26 r0)), (1, .ref ah)] := hl
  have hinX9 : ∀ w ∈ wsX90, w ∈ wsX9_credit := by decide +kernel
  have hk1 := hts (.fieldLink RX9 9 "DatamarketDeskModel$Read" "charges" "[I") (by decide +kernel)
  have hk2 := hts (.fieldLink RX9 19 "DatamarketDeskModel$Read" "set" "I") (by decide +kernel)
  have hk3 := hts (.fieldLink RX9 22 "DatamarketDeskModel$Read" "version" "I") (by decide +kernel)
  refine lv_iconst (v := nI 0) hx hb dX9_credit_0 (by decide) ?_
  refine lv_istore_n (lv' := [(2, .int (nI 0)), (0, .ref (ma 26 r0)), (1, .ref ah)]) hx hb dX9_credit_1 rfl hl (by decide) rfl (fun ls hl => ?_)
  refine lv_iconst (v := nI 0) hx hb dX9_credit_2 (by decide) ?_
  refine lv_istore_n (lv' := [(3, .int (nI 0)), (2, .int (nI 0)), (0, .ref (ma 26 r0)), (1, .ref ah)]) hx hb dX9_credit_3 rfl hl (by decide) rfl (fun ls hl => ?_)
  refine zloopP (τ := Unit) (fun i _ ls => lv_has ls 4 [(2, .int (sumN (crF g 21 r0) i)), (3, .int (nI i)), (0, .ref (ma 26 r0)), (1, .ref ah)]) 6 ?_ 0 () ls (Nat.zero_le _) (lv_sub hl [1, 0, 2, 3] rfl)
  intro i _ ls hi_i hl ih_i
  have hl : lv_has ls 4 [(2, .int (sumN (crF g 21 r0) i)), (3, .int (nI i)), (0, .ref (ma 26 r0)), (1, .ref ah)] := hl
  refine lv_iload_n hx hb dX9_credit_4 rfl (lv_at hl 1 rfl) ?_
  refine lv_bipush (v := nI 6) hx hb dX9_credit_5 (by decide) ?_
  refine lv_icmp_ge (tgt := 42) hx hb dX9_credit_7 (by decide) (fun c_1 => ?_) (fun c_1 => ?_)
  · have c_1 := zn_geT (a := i) (b := 6) (by omega) (by omega) c_1
    obtain rfl : i = 6 := by omega
    refine lv_iload_n hx hb dX9_credit_42 rfl (lv_at hl 0 rfl) ?_
    exact W.iret (v := sumN (crF g 21 r0) 6) hx hb hr (fun t ht hW => ⟨_, rfl, rfl, ht⟩) (fun _ h => nomatch h) dX9_credit_43
  · have c_1 := zn_geF (a := i) (b := 6) (by omega) (by omega) c_1
    refine lv_iload_n hx hb dX9_credit_10 rfl (lv_at hl 0 rfl) ?_
    refine lv_aload_n hx hb dX9_credit_11 rfl (lv_at hl 2 rfl) ?_
    refine va_get hx hb hts hinX9 hown hK (hM.Pa (hR.r26 (r := r0) (by omega)).1 rfl (hR.r26 (r := r0) (by omega)).2) 0 rfl rfl 8 (by decide) (hk1) (fun _ h9 => h9) rfl dX9_credit_12 ?_
    refine lv_iload_n hx hb dX9_credit_15 rfl (lv_at hl 1 rfl) ?_
    refine zald hx hb hK (hM.Pa (hR.r27 (r := r0) (by omega)).1 rfl (hR.r27 (r := r0) (by omega)).2) 0 0 rfl rfl (i := i) (by omega) (by omega) dX9_credit_16 ?_
    refine zeq (row6_at (by omega)) ?_
    refine lv_aload_n hx hb dX9_credit_17 rfl (lv_at hl 3 rfl) ?_
    refine lv_aload_n hx hb dX9_credit_18 rfl (lv_at hl 2 rfl) ?_
    refine va_get hx hb hts hinX9 hown hK (hM.Pa (hR.r26 (r := r0) (by omega)).1 rfl (hR.r26 (r := r0) (by omega)).2) 0 rfl rfl 1 (by decide) (hk2) (fun _ h9 => h9) rfl dX9_credit_19 ?_
    refine zeq ((hR.I.rd (r := r0) (by omega)).1.1) ?_
    refine maldq hx hb hK (va_P1 hA.1) 0 4 rfl rfl (vp_in_nI (by omega) (by omega)) dX9_credit_22 ?_
    refine zeqv (y := .ref (hmb (cn (g 30 r0)))) (by rw [nI_clamp (by omega)]; rfl) ?_
    refine lv_aload_n hx hb dX9_credit_23 rfl (lv_at hl 2 rfl) ?_
    refine va_get hx hb hts hinX9 hown hK (hM.Pa (hR.r26 (r := r0) (by omega)).1 rfl (hR.r26 (r := r0) (by omega)).2) 0 rfl rfl 2 (by decide) (hk3) (fun _ h9 => h9) rfl dX9_credit_24 ?_
    refine zeq ((hR.I.rd (r := r0) (by omega)).2.1) ?_
    refine maldq hx hb hK (va_P1 (hA.2.1 (cn (g 30 r0)) (by omega))) 0 3 rfl rfl (vp_in_nI (by omega) (by omega)) dX9_credit_27 ?_
    refine zeqv (y := .ref (hmd ((cn (g 30 r0)) * 6 + (cn (g 31 r0))))) (by rw [nI_clamp (by omega)]; rfl) ?_
    refine lv_iload_n hx hb dX9_credit_28 rfl (lv_at hl 1 rfl) ?_
    refine zald hx hb hK (va_P1 (hA.2.2 ((cn (g 30 r0)) * 6 + (cn (g 31 r0))) (by omega))) 0 0 rfl rfl (i := i) (by omega) (by omega) dX9_credit_29 ?_
    refine zeq (row6_at (by omega)) ?_
    refine lv_imul hx hb dX9_credit_30 ?_
    refine lv_bipush (v := nI 100) hx hb dX9_credit_31 (by decide) ?_
    refine lv_idiv hx hb dX9_credit_33 (by decide) ?_
    refine lv_iadd hx hb dX9_credit_34 ?_
    refine lv_istore_n (lv' := [(2, .int ((sumN (crF g 21 r0) i) + (((g 38 (r0 * 6 + i)) * (g 21 (((cn (g 30 r0)) * 6 + (cn (g 31 r0))) * 6 + i))) / (nI 100)))), (3, .int (nI i)), (0, .ref (ma 26 r0)), (1, .ref ah)]) hx hb dX9_credit_35 rfl hl (by decide) rfl (fun ls hl => ?_)
    refine lv_iinc (v := nI (i + 1)) (lv' := [(3, .int (nI (i + 1))), (2, .int ((sumN (crF g 21 r0) i) + (((g 38 (r0 * 6 + i)) * (g 21 (((cn (g 30 r0)) * 6 + (cn (g 31 r0))) * 6 + i))) / (nI 100)))), (0, .ref (ma 26 r0)), (1, .ref ah)]) hx hb dX9_credit_36 hl (k := 1) rfl (nI_add i 1) (by decide) rfl (fun ls hl => ?_)
    refine lv_goto (tgt := 4) hx hb dX9_credit_39 (by decide) ?_
    exact ih_i () ls (by omega) (show lv_has ls 4 [(2, .int (sumN (crF g 21 r0) (i + 1))), (3, .int (nI (i + 1))), (0, .ref (ma 26 r0)), (1, .ref ah)] from lv_sub hl [1, 0, 2, 3] rfl)
set_option maxHeartbeats 400000 in
set_option maxRecDepth 100000 in
theorem c_X9_worth (l : Launch) (D : va_G) (ty : Nat → ClassId) (A : Nat → Prop) (u : Nat → Nat → Prop) (C : Nat → Nat → va_E) (ma : Nat → Nat → Nat) (t0 mi : Nat) (g : Nat → Nat → Int32) (n1 n2 nL n4 n5 : Nat) (th : Int32) (rep bro : Nat → Nat → Int32) (hR : mR ty t0 g n1 n2 nL n4 n5 th rep bro u C ma) (ah : Nat) (r0 : Nat) (hr0 : r0 < n5) : Met l yX9_worth wsX9_worth ({ frames := 1, cells := 0, slots := 0, locals := 25 }) (va_Pc [.ref (ma 26 r0), .ref ah] (mIh D ty A u C ma t0 mi ah (g 21))) (vp_Si (fun v_ => v_ = chN g r0 - crN g 21 r0)) 0 0 (fun _ => False) := by
  refine zMet (cc := cX9_worth) (maxL := 2) (ret := (some .int)) (by decide) rfl (Nat.le_of_ble_eq_true rfl) ?_
  intro p e s m below meth c hx hb hr hts hown hlocks hml hB ls hl
  obtain ⟨⟨hM, hK, hMS⟩, ⟨hmb, hmd, hA⟩⟩ := hB
  have hS : va_S A s.heap s.heap [] := va_S.rf
  have hbn := hR.I.b1
  have hbs := hR.I.b2
  have hbl := hR.I.bL
  have hbc := hR.I.b4
  have hbr := hR.I.b5
  have hl : lv_has ls 2 [(0, .ref (ma 26 r0)), (1, .ref ah)] := hl
  refine lv_aload_n hx hb dX9_worth_0 rfl (lv_at hl 0 rfl) ?_
  refine zcVi (As := []) (rest := []) ⟨hx, hb, hml, hown, hts⟩ (c_X9_charge l D ty A u C ma t0 mi g n1 n2 nL n4 n5 th rep bro hR r0 (by omega)) (cwV 0 hts gX9_worth_X9_charge rfl rfl rfl (by decide +kernel) ⟨Nat.le_of_ble_eq_true rfl, Nat.le_of_ble_eq_true rfl⟩) mI_blind (mI_pre hM hK hMS hS) (va_recv hK (hM.Pa (hR.r26 (r := r0) (by omega)).1 rfl (hR.r26 (r := r0) (by omega)).2) (ci := 10) (q0 := 0) rfl rfl) rfl hl.1 rfl (Nat.le_of_ble_eq_true rfl) dX9_worth_1 ⟨Nat.le_of_ble_eq_true rfl, Nat.le_of_ble_eq_true rfl⟩ (fun r_1 hr_1 => ?_)
  subst hr_1
  refine lv_aload_n hx hb dX9_worth_4 rfl (lv_at hl 0 rfl) ?_
  refine lv_aload_n hx hb dX9_worth_5 rfl (lv_at hl 1 rfl) ?_
  refine zcVi (As := [.ref ah]) (rest := [.int (chN g r0)]) ⟨hx, hb, hml, hown, hts⟩ (c_X9_credit l D ty A u C ma t0 mi g n1 n2 nL n4 n5 th rep bro hR _ r0 (by omega)) (cwV 1 hts gX9_worth_X9_credit rfl rfl rfl (by decide +kernel) ⟨Nat.le_of_ble_eq_true rfl, Nat.le_of_ble_eq_true rfl⟩) mIh_blind (mIh_pre hM hK hMS hS hA) (va_recv hK (hM.Pa (hR.r26 (r := r0) (by omega)).1 rfl (hR.r26 (r := r0) (by omega)).2) (ci := 10) (q0 := 0) rfl rfl) rfl hl.1 rfl (Nat.le_of_ble_eq_true rfl) dX9_worth_6 ⟨Nat.le_of_ble_eq_true rfl, Nat.le_of_ble_eq_true rfl⟩ (fun r_2 hr_2 => ?_)
  subst hr_2
  refine lv_isub hx hb dX9_worth_9 ?_
  exact W.iret (v := (chN g r0) - (crN g 21 r0)) hx hb hr (fun t ht hW => ⟨_, rfl, rfl, ht⟩) (fun _ h => nomatch h) dX9_worth_10
set_option maxHeartbeats 400000 in
set_option maxRecDepth 100000 in
theorem c_X12_unitsNow (l : Launch) (D : va_G) (ty : Nat → ClassId) (A : Nat → Prop) (u : Nat → Nat → Prop) (C : Nat → Nat → va_E) (ma : Nat → Nat → Nat) (t0 mi : Nat) (g : Nat → Nat → Int32) (n1 n2 nL n4 n5 : Nat) (th : Int32) (rep bro : Nat → Nat → Int32) (hR : mR ty t0 g n1 n2 nL n4 n5 th rep bro u C ma) (R : Int32) : Met l yX12_unitsNow wsX12_unitsNow ({ frames := 3, cells := 0, slots := 0, locals := 64 }) (va_Pc [.ref (ma 0 0), .int R] (mI D ty A u C ma t0 mi)) (vp_Si (fun v_ => v_ = sumN (fUn g R (g 0 0)) n5)) 0 0 (fun _ => False) := by
  refine zMet (cc := cX12_unitsNow) (maxL := 4) (ret := (some .int)) (by decide) rfl (Nat.le_of_ble_eq_true rfl) ?_
  intro p e s m below meth c hx hb hr hts hown hlocks hml hB ls hl
  obtain ⟨hM, hK, hMS⟩ := hB
  have hS : va_S A s.heap s.heap [] := va_S.rf
  have hbn := hR.I.b1
  have hbs := hR.I.b2
  have hbl := hR.I.bL
  have hbc := hR.I.b4
  have hbr := hR.I.b5
  have hl : lv_has ls 4 [(0, .ref (ma 0 0)), (1, .int R)] := hl
  have hinX12 : ∀ w ∈ wsX120, w ∈ wsX12_unitsNow := by decide +kernel
  have hk1 := hts (.fieldLink RX12 22 "DatamarketDeskModel" "reads" "Ljava/util/ArrayList;") (by decide +kernel)
  have hk2 := hts (.classLink RX12 152 "DatamarketDeskModel$Read") (by decide +kernel)
  have hinX9 : ∀ w ∈ wsX90, w ∈ wsX12_unitsNow := by decide +kernel
  have hk4 := hts (.fieldLink RX12 217 "DatamarketDeskModel$Read" "reader" "I") (by decide +kernel)
  have hk5 := hts (.fieldLink RX12 220 "DatamarketDeskModel$Read" "day" "I") (by decide +kernel)
  have hk6 := hts (.fieldLink RX12 193 "DatamarketDeskModel" "today" "I") (by decide +kernel)
  refine lv_iconst (v := nI 0) hx hb dX12_unitsNow_0 (by decide) ?_
  refine lv_istore_n (lv' := [(2, .int (nI 0)), (0, .ref (ma 0 0)), (1, .int R)]) hx hb dX12_unitsNow_1 rfl hl (by decide) rfl (fun ls hl => ?_)
  refine lv_iconst (v := nI 0) hx hb dX12_unitsNow_2 (by decide) ?_
  refine lv_istore_n (lv' := [(3, .int (nI 0)), (2, .int (nI 0)), (0, .ref (ma 0 0)), (1, .int R)]) hx hb dX12_unitsNow_3 rfl hl (by decide) rfl (fun ls hl => ?_)
  refine zloopP (τ := Unit) (fun j _ ls => lv_has ls 4 [(2, .int (sumN (fUn g R (g 0 0)) j)), (3, .int (nI j)), (0, .ref (ma 0 0)), (1, .int R)]) n5 ?_ 0 () ls (Nat.zero_le _) (lv_sub hl [1, 0, 2, 3] rfl)
  intro j _ ls hi_j hl ih_j
  have hl : lv_has ls 4 [(2, .int (sumN (fUn g R (g 0 0)) j)), (3, .int (nI j)), (0, .ref (ma 0 0)), (1, .int R)] := hl
  refine lv_iload_n hx hb dX12_unitsNow_4 rfl (lv_at hl 1 rfl) ?_
  refine lv_aload_n hx hb dX12_unitsNow_5 rfl (lv_at hl 2 rfl) ?_
  refine va_get hx hb hts hinX12 hown hK (hM.Pa hR.o.1 rfl hR.o.2) 0 rfl rfl 4 (by decide) (hk1) (fun _ h9 => h9) rfl dX12_unitsNow_6 ?_
  obtain ⟨huz_1, hnz_1, mz_1, bz_1, hCz_1⟩ := isL.hd hR.l7
  refine zcVi (As := []) (rest := [.int (nI j)]) ⟨hx, hb, hml, hown, hts⟩ (c_size l D ty A u C ma t0 mi 7 0 n5 (ma 26) hR.l7) (cwV 0 hts gX12_unitsNow_Jx4a65c_size_8abf5 rfl rfl rfl (by decide +kernel) ⟨Nat.le_of_ble_eq_true rfl, Nat.le_of_ble_eq_true rfl⟩) mI_blind (mI_pre hM hK hMS hS) (va_recv hK (hM.Pa huz_1 rfl hCz_1) (ci := 0) (q0 := 0) rfl rfl) rfl hl.1 rfl (Nat.le_of_ble_eq_true rfl) dX12_unitsNow_9 ⟨Nat.le_of_ble_eq_true rfl, Nat.le_of_ble_eq_true rfl⟩ (fun r_2 hr_2 => ?_)
  subst hr_2
  refine lv_icmp_ge (tgt := 87) hx hb dX12_unitsNow_12 (by decide) (fun c_3 => ?_) (fun c_3 => ?_)
  · have c_3 := zn_geT (a := j) (b := n5) (by omega) (by omega) c_3
    obtain rfl : j = n5 := by omega
    refine lv_iload_n hx hb dX12_unitsNow_87 rfl (lv_at hl 0 rfl) ?_
    exact W.iret (v := sumN (fUn g R (g 0 0)) j) hx hb hr (fun t ht hW => ⟨_, rfl, rfl, ht⟩) (fun _ h => nomatch h) dX12_unitsNow_88
  · have c_3 := zn_geF (a := j) (b := n5) (by omega) (by omega) c_3
    refine lv_iload_n hx hb dX12_unitsNow_15 rfl (lv_at hl 0 rfl) ?_
    refine lv_aload_n hx hb dX12_unitsNow_16 rfl (lv_at hl 2 rfl) ?_
    refine va_get hx hb hts hinX12 hown hK (hM.Pa hR.o.1 rfl hR.o.2) 0 rfl rfl 4 (by decide) (hk1) (fun _ h9 => h9) rfl dX12_unitsNow_17 ?_
    refine lv_iload_n hx hb dX12_unitsNow_20 rfl (lv_at hl 1 rfl) ?_
    obtain ⟨huz_4, hnz_4, mz_4, bz_4, hCz_4⟩ := isL.hd hR.l7
    refine zcVr (x := .ref (ma 26 j)) (As := [.int (nI j)]) (rest := [.int (sumN (fUn g R (g 0 0)) j)]) ⟨hx, hb, hml, hown, hts⟩ (c_get l D ty A u C ma t0 mi 7 0 n5 (ma 26) hR.l7 j (by omega)) (cwV 1 hts gX12_unitsNow_Jx4a65c_get_915e3 rfl rfl rfl (by decide +kernel) ⟨Nat.le_of_ble_eq_true rfl, Nat.le_of_ble_eq_true rfl⟩) mI_blind (mI_pre hM hK hMS hS) (va_recv hK (hM.Pa huz_4 rfl hCz_4) (ci := 0) (q0 := 0) rfl rfl) rfl hl.1 rfl (Nat.le_of_ble_eq_true rfl) dX12_unitsNow_21 ⟨Nat.le_of_ble_eq_true rfl, Nat.le_of_ble_eq_true rfl⟩ ?_
    refine va_castS hx hb hown (hk2) ((hK.1 10 _ rfl).2) (va_recv hK (hM.Pa (hR.r26 (r := j) (by omega)).1 rfl (hR.r26 (r := j) (by omega)).2) (ci := 10) (q0 := 0) rfl rfl) dX12_unitsNow_24 ?_
    refine va_get hx hb hts hinX9 hown hK (hM.Pa (hR.r26 (r := j) (by omega)).1 rfl (hR.r26 (r := j) (by omega)).2) 0 rfl rfl 0 (by decide) (hk4) (fun _ h9 => h9) rfl dX12_unitsNow_27 ?_
    refine lv_iload_n hx hb dX12_unitsNow_30 rfl (lv_at hl 3 rfl) ?_
    refine lv_icmp_ne (tgt := 78) hx hb dX12_unitsNow_31 (by decide) (fun c_6 => ?_) (fun c_6 => ?_)
    · refine lv_iconst (v := nI 0) hx hb dX12_unitsNow_78 (by decide) ?_
      refine lv_iadd hx hb dX12_unitsNow_79 ?_
      refine lv_istore_n (lv' := [(2, .int ((sumN (fUn g R (g 0 0)) j) + (nI 0))), (3, .int (nI j)), (0, .ref (ma 0 0)), (1, .int R)]) hx hb dX12_unitsNow_80 rfl hl (by decide) rfl (fun ls hl => ?_)
      refine lv_iinc (v := nI (j + 1)) (lv' := [(3, .int (nI (j + 1))), (2, .int ((sumN (fUn g R (g 0 0)) j) + (nI 0))), (0, .ref (ma 0 0)), (1, .int R)]) hx hb dX12_unitsNow_81 hl (k := 1) rfl (nI_add j 1) (by decide) rfl (fun ls hl => ?_)
      refine lv_goto (tgt := 4) hx hb dX12_unitsNow_84 (by decide) ?_
      refine ih_j () ls (by omega) (show lv_has ls 4 [(2, .int (sumN (fUn g R (g 0 0)) (j + 1))), (3, .int (nI (j + 1))), (0, .ref (ma 0 0)), (1, .int R)] from ?_)
      rw [show sumN (fUn g R (g 0 0)) (j + 1) = (sumN (fUn g R (g 0 0)) j) + (nI 0) from congrArg (fun z => (sumN (fUn g R (g 0 0)) j) +  z) (show (fUn g R (g 0 0)) j = (nI 0) from by unfold fUn; simp only [decide_eq_false c_6, Bool.not_true, Bool.not_false, Bool.and_true, Bool.true_and, Bool.and_false, Bool.false_and, Bool.or_true, Bool.true_or, Bool.or_false, Bool.false_or, Bool.and_self, Bool.or_self, if_true, Bool.false_eq_true, if_false] <;> rfl)]
      exact lv_sub hl [1, 0, 2, 3] rfl
    · refine lv_aload_n hx hb dX12_unitsNow_34 rfl (lv_at hl 2 rfl) ?_
      refine va_get hx hb hts hinX12 hown hK (hM.Pa hR.o.1 rfl hR.o.2) 0 rfl rfl 4 (by decide) (hk1) (fun _ h9 => h9) rfl dX12_unitsNow_35 ?_
      refine lv_iload_n hx hb dX12_unitsNow_38 rfl (lv_at hl 1 rfl) ?_
      obtain ⟨huz_7, hnz_7, mz_7, bz_7, hCz_7⟩ := isL.hd hR.l7
      refine zcVr (x := .ref (ma 26 j)) (As := [.int (nI j)]) (rest := [.int (sumN (fUn g R (g 0 0)) j)]) ⟨hx, hb, hml, hown, hts⟩ (c_get l D ty A u C ma t0 mi 7 0 n5 (ma 26) hR.l7 j (by omega)) (cwV 1 hts gX12_unitsNow_Jx4a65c_get_915e3 rfl rfl rfl (by decide +kernel) ⟨Nat.le_of_ble_eq_true rfl, Nat.le_of_ble_eq_true rfl⟩) mI_blind (mI_pre hM hK hMS hS) (va_recv hK (hM.Pa huz_7 rfl hCz_7) (ci := 0) (q0 := 0) rfl rfl) rfl hl.1 rfl (Nat.le_of_ble_eq_true rfl) dX12_unitsNow_39 ⟨Nat.le_of_ble_eq_true rfl, Nat.le_of_ble_eq_true rfl⟩ ?_
      refine va_castS hx hb hown (hk2) ((hK.1 10 _ rfl).2) (va_recv hK (hM.Pa (hR.r26 (r := j) (by omega)).1 rfl (hR.r26 (r := j) (by omega)).2) (ci := 10) (q0 := 0) rfl rfl) dX12_unitsNow_42 ?_
      refine va_get hx hb hts hinX9 hown hK (hM.Pa (hR.r26 (r := j) (by omega)).1 rfl (hR.r26 (r := j) (by omega)).2) 0 rfl rfl 5 (by decide) (hk5) (fun _ h9 => h9) rfl dX12_unitsNow_45 ?_
      refine lv_bipush (v := nI 30) hx hb dX12_unitsNow_48 (by decide) ?_
      refine lv_idiv hx hb dX12_unitsNow_50 (by decide) ?_
      refine lv_aload_n hx hb dX12_unitsNow_51 rfl (lv_at hl 2 rfl) ?_
      refine va_get hx hb hts hinX12 hown hK (hM.Pa hR.o.1 rfl hR.o.2) 0 rfl rfl 5 (by decide) (hk6) (fun _ h9 => h9) rfl dX12_unitsNow_52 ?_
      refine lv_bipush (v := nI 30) hx hb dX12_unitsNow_55 (by decide) ?_
      refine lv_idiv hx hb dX12_unitsNow_57 (by decide) ?_
      refine lv_icmp_ne (tgt := 78) hx hb dX12_unitsNow_58 (by decide) (fun c_9 => ?_) (fun c_9 => ?_)
      · refine lv_iconst (v := nI 0) hx hb dX12_unitsNow_78 (by decide) ?_
        refine lv_iadd hx hb dX12_unitsNow_79 ?_
        refine lv_istore_n (lv' := [(2, .int ((sumN (fUn g R (g 0 0)) j) + (nI 0))), (3, .int (nI j)), (0, .ref (ma 0 0)), (1, .int R)]) hx hb dX12_unitsNow_80 rfl hl (by decide) rfl (fun ls hl => ?_)
        refine lv_iinc (v := nI (j + 1)) (lv' := [(3, .int (nI (j + 1))), (2, .int ((sumN (fUn g R (g 0 0)) j) + (nI 0))), (0, .ref (ma 0 0)), (1, .int R)]) hx hb dX12_unitsNow_81 hl (k := 1) rfl (nI_add j 1) (by decide) rfl (fun ls hl => ?_)
        refine lv_goto (tgt := 4) hx hb dX12_unitsNow_84 (by decide) ?_
        refine ih_j () ls (by omega) (show lv_has ls 4 [(2, .int (sumN (fUn g R (g 0 0)) (j + 1))), (3, .int (nI (j + 1))), (0, .ref (ma 0 0)), (1, .int R)] from ?_)
        rw [show sumN (fUn g R (g 0 0)) (j + 1) = (sumN (fUn g R (g 0 0)) j) + (nI 0) from congrArg (fun z => (sumN (fUn g R (g 0 0)) j) +  z) (show (fUn g R (g 0 0)) j = (nI 0) from by unfold fUn; simp only [decide_eq_true c_6, decide_eq_false c_9, Bool.not_true, Bool.not_false, Bool.and_true, Bool.true_and, Bool.and_false, Bool.false_and, Bool.or_true, Bool.true_or, Bool.or_false, Bool.false_or, Bool.and_self, Bool.or_self, if_true, Bool.false_eq_true, if_false] <;> rfl)]
        exact lv_sub hl [1, 0, 2, 3] rfl
      · refine lv_aload_n hx hb dX12_unitsNow_61 rfl (lv_at hl 2 rfl) ?_
        refine va_get hx hb hts hinX12 hown hK (hM.Pa hR.o.1 rfl hR.o.2) 0 rfl rfl 4 (by decide) (hk1) (fun _ h9 => h9) rfl dX12_unitsNow_62 ?_
        refine lv_iload_n hx hb dX12_unitsNow_65 rfl (lv_at hl 1 rfl) ?_
        obtain ⟨huz_10, hnz_10, mz_10, bz_10, hCz_10⟩ := isL.hd hR.l7
        refine zcVr (x := .ref (ma 26 j)) (As := [.int (nI j)]) (rest := [.int (sumN (fUn g R (g 0 0)) j)]) ⟨hx, hb, hml, hown, hts⟩ (c_get l D ty A u C ma t0 mi 7 0 n5 (ma 26) hR.l7 j (by omega)) (cwV 1 hts gX12_unitsNow_Jx4a65c_get_915e3 rfl rfl rfl (by decide +kernel) ⟨Nat.le_of_ble_eq_true rfl, Nat.le_of_ble_eq_true rfl⟩) mI_blind (mI_pre hM hK hMS hS) (va_recv hK (hM.Pa huz_10 rfl hCz_10) (ci := 0) (q0 := 0) rfl rfl) rfl hl.1 rfl (Nat.le_of_ble_eq_true rfl) dX12_unitsNow_66 ⟨Nat.le_of_ble_eq_true rfl, Nat.le_of_ble_eq_true rfl⟩ ?_
        refine va_castS hx hb hown (hk2) ((hK.1 10 _ rfl).2) (va_recv hK (hM.Pa (hR.r26 (r := j) (by omega)).1 rfl (hR.r26 (r := j) (by omega)).2) (ci := 10) (q0 := 0) rfl rfl) dX12_unitsNow_69 ?_
        refine zcVi (As := []) (rest := [.int (sumN (fUn g R (g 0 0)) j)]) ⟨hx, hb, hml, hown, hts⟩ (c_X9_units l D ty A u C ma t0 mi g n1 n2 nL n4 n5 th rep bro hR j (by omega)) (cwV 0 hts gX12_unitsNow_X9_units rfl rfl rfl (by decide +kernel) ⟨Nat.le_of_ble_eq_true rfl, Nat.le_of_ble_eq_true rfl⟩) mI_blind (mI_pre hM hK hMS hS) (va_recv hK (hM.Pa (hR.r26 (r := j) (by omega)).1 rfl (hR.r26 (r := j) (by omega)).2) (ci := 10) (q0 := 0) rfl rfl) rfl hl.1 rfl (Nat.le_of_ble_eq_true rfl) dX12_unitsNow_72 ⟨Nat.le_of_ble_eq_true rfl, Nat.le_of_ble_eq_true rfl⟩ (fun r_12 hr_12 => ?_)
        subst hr_12
        refine lv_goto (tgt := 79) hx hb dX12_unitsNow_75 (by decide) ?_
        refine lv_iadd hx hb dX12_unitsNow_79 ?_
        refine lv_istore_n (lv' := [(2, .int ((sumN (fUn g R (g 0 0)) j) + (g 33 j * bc (g 32 j)))), (3, .int (nI j)), (0, .ref (ma 0 0)), (1, .int R)]) hx hb dX12_unitsNow_80 rfl hl (by decide) rfl (fun ls hl => ?_)
        refine lv_iinc (v := nI (j + 1)) (lv' := [(3, .int (nI (j + 1))), (2, .int ((sumN (fUn g R (g 0 0)) j) + (g 33 j * bc (g 32 j)))), (0, .ref (ma 0 0)), (1, .int R)]) hx hb dX12_unitsNow_81 hl (k := 1) rfl (nI_add j 1) (by decide) rfl (fun ls hl => ?_)
        refine lv_goto (tgt := 4) hx hb dX12_unitsNow_84 (by decide) ?_
        refine ih_j () ls (by omega) (show lv_has ls 4 [(2, .int (sumN (fUn g R (g 0 0)) (j + 1))), (3, .int (nI (j + 1))), (0, .ref (ma 0 0)), (1, .int R)] from ?_)
        rw [show sumN (fUn g R (g 0 0)) (j + 1) = (sumN (fUn g R (g 0 0)) j) + (g 33 j * bc (g 32 j)) from congrArg (fun z => (sumN (fUn g R (g 0 0)) j) +  z) (show (fUn g R (g 0 0)) j = (g 33 j * bc (g 32 j)) from by unfold fUn; simp only [decide_eq_true c_6, decide_eq_true c_9, Bool.not_true, Bool.not_false, Bool.and_true, Bool.true_and, Bool.and_false, Bool.false_and, Bool.or_true, Bool.true_or, Bool.or_false, Bool.false_or, Bool.and_self, Bool.or_self, if_true, Bool.false_eq_true, if_false] <;> rfl)]
        exact lv_sub hl [1, 0, 2, 3] rfl
set_option maxHeartbeats 400000 in
set_option maxRecDepth 100000 in
theorem c_X12_tier (l : Launch) (D : va_G) (ty : Nat → ClassId) (A : Nat → Prop) (u : Nat → Nat → Prop) (C : Nat → Nat → va_E) (ma : Nat → Nat → Nat) (t0 mi : Nat) (g : Nat → Nat → Int32) (n1 n2 nL n4 n5 : Nat) (th : Int32) (rep bro : Nat → Nat → Int32) (hR : mR ty t0 g n1 n2 nL n4 n5 th rep bro u C ma) (R : Int32) : Met l yX12_tier wsX12_tier ({ frames := 4, cells := 0, slots := 0, locals := 87 }) (va_Pc [.ref (ma 0 0), .int R] (mI D ty A u C ma t0 mi)) (vp_Si (fun v_ => v_ = tierN (sumN (fUn g R (g 0 0)) n5))) 0 0 (fun _ => False) := by
  refine zMet (cc := cX12_tier) (maxL := 3) (ret := (some .int)) (by decide) rfl (Nat.le_of_ble_eq_true rfl) ?_
  intro p e s m below meth c hx hb hr hts hown hlocks hml hB ls hl
  obtain ⟨hM, hK, hMS⟩ := hB
  have hS : va_S A s.heap s.heap [] := va_S.rf
  have hbn := hR.I.b1
  have hbs := hR.I.b2
  have hbl := hR.I.bL
  have hbc := hR.I.b4
  have hbr := hR.I.b5
  have hl : lv_has ls 3 [(0, .ref (ma 0 0)), (1, .int R)] := hl
  refine lv_aload_n hx hb dX12_tier_0 rfl (lv_at hl 0 rfl) ?_
  refine lv_iload_n hx hb dX12_tier_1 rfl (lv_at hl 1 rfl) ?_
  refine zcVi (As := [.int R]) (rest := []) ⟨hx, hb, hml, hown, hts⟩ (c_X12_unitsNow l D ty A u C ma t0 mi g n1 n2 nL n4 n5 th rep bro hR R) (cwV 1 hts gX12_tier_X12_unitsNow rfl rfl rfl (by decide +kernel) ⟨Nat.le_of_ble_eq_true rfl, Nat.le_of_ble_eq_true rfl⟩) mI_blind (mI_pre hM hK hMS hS) (va_recv hK (hM.Pa hR.o.1 rfl hR.o.2) (ci := 13) (q0 := 0) rfl rfl) rfl hl.1 rfl (Nat.le_of_ble_eq_true rfl) dX12_tier_2 ⟨Nat.le_of_ble_eq_true rfl, Nat.le_of_ble_eq_true rfl⟩ (fun r_1 hr_1 => ?_)
  subst hr_1
  refine lv_istore_n (lv' := [(2, .int (sumN (fUn g R (g 0 0)) n5)), (0, .ref (ma 0 0)), (1, .int R)]) hx hb dX12_tier_5 rfl hl (by decide) rfl (fun ls hl => ?_)
  refine lv_iload_n hx hb dX12_tier_6 rfl (lv_at hl 0 rfl) ?_
  refine lv_sipush (v := nI 20000) hx hb dX12_tier_7 (by decide) ?_
  refine lv_icmp_lt (tgt := 17) hx hb dX12_tier_10 (by decide) (fun c_2 => ?_) (fun c_2 => ?_)
  · refine lv_iload_n hx hb dX12_tier_17 rfl (lv_at hl 0 rfl) ?_
    refine lv_sipush (v := nI 5000) hx hb dX12_tier_18 (by decide) ?_
    refine lv_icmp_lt (tgt := 28) hx hb dX12_tier_21 (by decide) (fun c_3 => ?_) (fun c_3 => ?_)
    · refine lv_iconst (v := nI 4) hx hb dX12_tier_28 (by decide) ?_
      exact W.iret (v := nI 4) hx hb hr (fun t ht hW => ⟨_, rfl, (by unfold tierN; simp only [c_2, c_3, if_true, if_false] <;> rfl), ht⟩) (fun _ h => nomatch h) dX12_tier_29
    · refine lv_iconst (v := nI 3) hx hb dX12_tier_24 (by decide) ?_
      refine lv_goto (tgt := 29) hx hb dX12_tier_25 (by decide) ?_
      exact W.iret (v := nI 3) hx hb hr (fun t ht hW => ⟨_, rfl, (by unfold tierN; simp only [c_2, c_3, if_true, if_false] <;> rfl), ht⟩) (fun _ h => nomatch h) dX12_tier_29
  · refine lv_iconst (v := nI 2) hx hb dX12_tier_13 (by decide) ?_
    refine lv_goto (tgt := 29) hx hb dX12_tier_14 (by decide) ?_
    exact W.iret (v := nI 2) hx hb hr (fun t ht hW => ⟨_, rfl, (by unfold tierN; simp only [c_2, if_true, if_false] <;> rfl), ht⟩) (fun _ h => nomatch h) dX12_tier_29
set_option maxHeartbeats 400000 in
set_option maxRecDepth 100000 in
theorem c_X12_canPreview (l : Launch) (D : va_G) (ty : Nat → ClassId) (A : Nat → Prop) (u : Nat → Nat → Prop) (C : Nat → Nat → va_E) (ma : Nat → Nat → Nat) (t0 mi : Nat) (g : Nat → Nat → Int32) (n1 n2 nL n4 n5 : Nat) (th : Int32) (rep bro : Nat → Nat → Int32) (hR : mR ty t0 g n1 n2 nL n4 n5 th rep bro u C ma) (R i : Nat) (hr : R < 6) (hi : i < n1) (F : Int32) : Met l yX12_canPreview wsX12_canPreview ({ frames := 4, cells := 0, slots := 0, locals := 90 }) (va_Pc [.ref (ma 0 0), .int (nI R), .int (nI i), .int F] (mI D ty A u C ma t0 mi)) (vp_Si (fun v_ => v_ = bI (!decide (nV g i = 0) && mayB g i (g 6 (R * 8 + i) ||| F) (openT g n4 (nI R) (nI i))))) 0 0 (fun _ => False) := by
  refine zMet (cc := cX12_canPreview) (maxL := 8) (ret := (some .boolean)) (by decide) rfl (Nat.le_of_ble_eq_true rfl) ?_
  intro p e s m below meth c hx hb hr hts hown hlocks hml hB ls hl
  obtain ⟨hM, hK, hMS⟩ := hB
  have hS : va_S A s.heap s.heap [] := va_S.rf
  have hbn := hR.I.b1
  have hbs := hR.I.b2
  have hbl := hR.I.bL
  have hbc := hR.I.b4
  have hbr := hR.I.b5
  have hf7 := (hR.I.f7 hi).2.2
  have hl : lv_has ls 8 [(0, .ref (ma 0 0)), (1, .int (nI R)), (2, .int (nI i)), (3, .int F)] := hl
  have hinX12 : ∀ w ∈ wsX120, w ∈ wsX12_canPreview := by decide +kernel
  have hk1 := hts (.fieldLink RX12 10 "DatamarketDeskModel" "sets" "Ljava/util/ArrayList;") (by decide +kernel)
  have hk2 := hts (.classLink RX12 49 "DatamarketDeskModel$DataSet") (by decide +kernel)
  have hinX7 : ∀ w ∈ wsX70, w ∈ wsX12_canPreview := by decide +kernel
  have hk4 := hts (.fieldLink RX12 245 "DatamarketDeskModel$DataSet" "previewed" "[I") (by decide +kernel)
  have hk5 := hts (.fieldLink RX12 69 "DatamarketDeskModel$DataSet" "versions" "Ljava/util/ArrayList;") (by decide +kernel)
  have hk6 := hts (.fieldLink RX12 51 "DatamarketDeskModel$DataSet" "fields" "I") (by decide +kernel)
  have hk7 := hts (.fieldLink RX12 193 "DatamarketDeskModel" "today" "I") (by decide +kernel)
  refine lv_aload_n hx hb dX12_canPreview_0 rfl (lv_at hl 0 rfl) ?_
  refine va_get hx hb hts hinX12 hown hK (hM.Pa hR.o.1 rfl hR.o.2) 0 rfl rfl 1 (by decide) (hk1) (fun _ h9 => h9) rfl dX12_canPreview_1 ?_
  refine lv_iload_n hx hb dX12_canPreview_4 rfl (lv_at hl 2 rfl) ?_
  obtain ⟨huz_1, hnz_1, mz_1, bz_1, hCz_1⟩ := isL.hd hR.l1
  refine zcVr (x := .ref (ma 9 i)) (As := [.int (nI i)]) (rest := []) ⟨hx, hb, hml, hown, hts⟩ (c_get l D ty A u C ma t0 mi 1 0 n1 (ma 9) hR.l1 i (by omega)) (cwV 1 hts gX12_canPreview_Jx4a65c_get_915e3 rfl rfl rfl (by decide +kernel) ⟨Nat.le_of_ble_eq_true rfl, Nat.le_of_ble_eq_true rfl⟩) mI_blind (mI_pre hM hK hMS hS) (va_recv hK (hM.Pa huz_1 rfl hCz_1) (ci := 0) (q0 := 0) rfl rfl) rfl hl.1 rfl (Nat.le_of_ble_eq_true rfl) dX12_canPreview_5 ⟨Nat.le_of_ble_eq_true rfl, Nat.le_of_ble_eq_true rfl⟩ ?_
  refine va_castS hx hb hown (hk2) ((hK.1 8 _ rfl).2) (va_recv hK (hM.Pa (hR.s9 (i := i) (by omega)).1 rfl (hR.s9 (i := i) (by omega)).2) (ci := 8) (q0 := 0) rfl rfl) dX12_canPreview_8 ?_
  refine lv_astore (lv' := [(4, .ref (ma 9 i)), (0, .ref (ma 0 0)), (1, .int (nI R)), (2, .int (nI i)), (3, .int F)]) hx hb dX12_canPreview_11 hl (by decide) rfl (fun ls hl => ?_)
  refine lv_aload hx hb dX12_canPreview_13 (lv_at hl 0 rfl) ?_
  refine va_get hx hb hts hinX7 hown hK (hM.Pa (hR.s9 (i := i) (by omega)).1 rfl (hR.s9 (i := i) (by omega)).2) 0 rfl rfl 4 (by decide) (hk4) (fun _ h9 => h9) rfl dX12_canPreview_15 ?_
  refine lv_iload_n hx hb dX12_canPreview_18 rfl (lv_at hl 2 rfl) ?_
  refine zald hx hb hK (hM.Pa (hR.s14 (i := i) (by omega)).1 rfl (hR.s14 (i := i) (by omega)).2) 0 0 rfl rfl (i := R) (by omega) (by omega) dX12_canPreview_19 ?_
  refine zeq (prvR_at (by omega)) ?_
  refine lv_iload_n hx hb dX12_canPreview_20 rfl (lv_at hl 4 rfl) ?_
  refine lv_ior hx hb dX12_canPreview_21 ?_
  refine lv_istore (lv' := [(5, .int ((g 6 (R * 8 + i)) ||| F)), (4, .ref (ma 9 i)), (0, .ref (ma 0 0)), (1, .int (nI R)), (2, .int (nI i)), (3, .int F)]) hx hb dX12_canPreview_22 hl (by decide) rfl (fun ls hl => ?_)
  refine lv_iconst (v := nI 0) hx hb dX12_canPreview_24 (by decide) ?_
  refine lv_istore (lv' := [(6, .int (nI 0)), (5, .int ((g 6 (R * 8 + i)) ||| F)), (4, .ref (ma 9 i)), (0, .ref (ma 0 0)), (1, .int (nI R)), (2, .int (nI i)), (3, .int F)]) hx hb dX12_canPreview_25 hl (by decide) rfl (fun ls hl => ?_)
  refine lv_iconst (v := nI 0) hx hb dX12_canPreview_27 (by decide) ?_
  refine lv_istore (lv' := [(7, .int (nI 0)), (6, .int (nI 0)), (5, .int ((g 6 (R * 8 + i)) ||| F)), (4, .ref (ma 9 i)), (0, .ref (ma 0 0)), (1, .int (nI R)), (2, .int (nI i)), (3, .int F)]) hx hb dX12_canPreview_28 hl (by decide) rfl (fun ls hl => ?_)
  refine zloopP (τ := Unit) (fun P _ ls => lv_has ls 8 [(6, .int (orN (fun p9 => covP g n4 (nI R) (nI i) (g 0 0) (nI p9)) P)), (7, .int (nI P)), (5, .int (g 6 (R * 8 + i) ||| F)), (4, .ref (ma 9 i)), (0, .ref (ma 0 0)), (1, .int (nI R)), (2, .int (nI i)), (3, .int F)]) 4 ?_ 0 () ls (Nat.zero_le _) (lv_sub hl [1, 0, 2, 3, 4, 5, 6, 7] rfl)
  intro P _ ls hi_P hl ih_P
  have hl : lv_has ls 8 [(6, .int (orN (fun p9 => covP g n4 (nI R) (nI i) (g 0 0) (nI p9)) P)), (7, .int (nI P)), (5, .int (g 6 (R * 8 + i) ||| F)), (4, .ref (ma 9 i)), (0, .ref (ma 0 0)), (1, .int (nI R)), (2, .int (nI i)), (3, .int F)] := hl
  refine lv_iload hx hb dX12_canPreview_30 (lv_at hl 1 rfl) ?_
  refine lv_iconst (v := nI 4) hx hb dX12_canPreview_32 (by decide) ?_
  refine lv_icmp_ge (tgt := 59) hx hb dX12_canPreview_33 (by decide) (fun c_3 => ?_) (fun c_3 => ?_)
  · have c_3 := zn_geT (a := P) (b := 4) (by omega) (by omega) c_3
    obtain rfl : P = 4 := by omega
    refine lv_aload hx hb dX12_canPreview_59 (lv_at hl 3 rfl) ?_
    refine va_get hx hb hts hinX7 hown hK (hM.Pa (hR.s9 (i := i) (by omega)).1 rfl (hR.s9 (i := i) (by omega)).2) 0 rfl rfl 3 (by decide) (hk5) (fun _ h9 => h9) rfl dX12_canPreview_61 ?_
    obtain ⟨huz_4, hnz_4, mz_4, bz_4, hCz_4⟩ := isL.hd (hR.s12 (i := i) (by omega))
    refine zcVi (As := []) (rest := []) ⟨hx, hb, hml, hown, hts⟩ (c_isEmpty l D ty A u C ma t0 mi 12 i (nV g i) (fun v => ma 15 (i * 6 + v)) (hR.s12 (i := i) (by omega))) (cwV 0 hts gX12_canPreview_Jx4a65c_isEmpty_aae02 rfl rfl rfl (by decide +kernel) ⟨Nat.le_of_ble_eq_true rfl, Nat.le_of_ble_eq_true rfl⟩) mI_blind (mI_pre hM hK hMS hS) (va_recv hK (hM.Pa huz_4 rfl hCz_4) (ci := 0) (q0 := 0) rfl rfl) rfl hl.1 rfl (Nat.le_of_ble_eq_true rfl) dX12_canPreview_64 ⟨Nat.le_of_ble_eq_true rfl, Nat.le_of_ble_eq_true rfl⟩ (fun r_5 hr_5 => ?_)
    subst hr_5
    refine lv_if_ne (tgt := 114) hx hb dX12_canPreview_67 (by decide) (fun c_6 => ?_) (fun c_6 => ?_)
    · have c_6 := bI_t c_6
      refine lv_iconst (v := nI 0) hx hb dX12_canPreview_114 (by decide) ?_
      exact W.zret (v := nI 0) hx hb hr rfl (fun t ht hW => ⟨_, rfl, bI_n0 (by unfold mayB openT; rw [← open4]; simp only [c_6, Bool.not_true, Bool.not_false, Bool.and_true, Bool.true_and, Bool.and_false, Bool.false_and, Bool.or_true, Bool.true_or, Bool.or_false, Bool.false_or, Bool.and_self, Bool.or_self]), ht⟩) (fun _ h => nomatch h) dX12_canPreview_115
    · have c_6 := bI_f c_6
      refine lv_iload hx hb dX12_canPreview_70 (lv_at hl 2 rfl) ?_
      refine zcSi (As := [.int (g 6 (R * 8 + i) ||| F)]) (rest := []) ⟨hx, hb, hml, hown, hts⟩ (c_J6_bitCount l _ (g 6 (R * 8 + i) ||| F)) (va_cwS 1 hts gX12_canPreview_J6_bitCount_0f7a4 rfl rfl rfl (by decide +kernel) ⟨Nat.le_of_ble_eq_true rfl, Nat.le_of_ble_eq_true rfl⟩) (B := fun _ => True) (fun _ _ _ _ _ => trivial) (fun _ _ _ => trivial) rfl hl.1 rfl (Nat.le_of_ble_eq_true rfl) dX12_canPreview_72 ⟨Nat.le_of_ble_eq_true rfl, Nat.le_of_ble_eq_true rfl⟩ (fun r_7 hr_7 => ?_)
      subst hr_7
      refine lv_aload hx hb dX12_canPreview_75 (lv_at hl 3 rfl) ?_
      refine va_get hx hb hts hinX7 hown hK (hM.Pa (hR.s9 (i := i) (by omega)).1 rfl (hR.s9 (i := i) (by omega)).2) 0 rfl rfl 0 (by decide) (hk6) (fun _ h9 => h9) rfl dX12_canPreview_77 ?_
      refine zeq ((hR.I.f7 (i := i) (by omega)).1) ?_
      refine lv_iconst (v := nI 1) hx hb dX12_canPreview_80 (by decide) ?_
      refine lv_iadd hx hb dX12_canPreview_81 ?_
      refine zeq (nI_add (nF g i) 1) ?_
      refine lv_iconst (v := nI 2) hx hb dX12_canPreview_82 (by decide) ?_
      refine lv_idiv hx hb dX12_canPreview_83 (by decide) ?_
      refine zeq (pk_div (a := (nF g i) + 1) (d := 2) (by omega) (by omega) (by omega)) ?_
      refine lv_icmp_gt (tgt := 114) hx hb dX12_canPreview_84 (by decide) (fun c_8 => ?_) (fun c_8 => ?_)
      · have c_8 := Int32.not_le.mpr c_8
        refine lv_iconst (v := nI 0) hx hb dX12_canPreview_114 (by decide) ?_
        exact W.zret (v := nI 0) hx hb hr rfl (fun t ht hW => ⟨_, rfl, bI_n0 (by unfold mayB openT; rw [← open4]; simp only [c_6, decide_eq_false c_8, Bool.not_true, Bool.not_false, Bool.and_true, Bool.true_and, Bool.and_false, Bool.false_and, Bool.or_true, Bool.true_or, Bool.or_false, Bool.false_or, Bool.and_self, Bool.or_self]), ht⟩) (fun _ h => nomatch h) dX12_canPreview_115
      · have c_8 := Int32.not_lt.mp c_8
        refine lv_iload hx hb dX12_canPreview_87 (lv_at hl 0 rfl) ?_
        refine lv_aload hx hb dX12_canPreview_89 (lv_at hl 3 rfl) ?_
        refine zcVi (As := []) (rest := [.int (orN (fun p9 => covP g n4 (nI R) (nI i) (g 0 0) (nI p9)) 4)]) ⟨hx, hb, hml, hown, hts⟩ (c_X7_all l D ty A u C ma t0 mi g n1 n2 nL n4 n5 th rep bro hR i (by omega)) (cwV 0 hts gX12_canPreview_X7_all rfl rfl rfl (by decide +kernel) ⟨Nat.le_of_ble_eq_true rfl, Nat.le_of_ble_eq_true rfl⟩) mI_blind (mI_pre hM hK hMS hS) (va_recv hK (hM.Pa (hR.s9 (i := i) (by omega)).1 rfl (hR.s9 (i := i) (by omega)).2) (ci := 8) (q0 := 0) rfl rfl) rfl hl.1 rfl (Nat.le_of_ble_eq_true rfl) dX12_canPreview_91 ⟨Nat.le_of_ble_eq_true rfl, Nat.le_of_ble_eq_true rfl⟩ (fun r_9 hr_9 => ?_)
        subst hr_9
        refine lv_icmp_eq (tgt := 110) hx hb dX12_canPreview_94 (by decide) (fun c_10 => ?_) (fun c_10 => ?_)
        · refine lv_iconst (v := nI 1) hx hb dX12_canPreview_110 (by decide) ?_
          refine lv_goto (tgt := 115) hx hb dX12_canPreview_111 (by decide) ?_
          exact W.zret (v := nI 1) hx hb hr rfl (fun t ht hW => ⟨_, rfl, bI_n1 (by unfold mayB openT; rw [← open4]; simp only [c_6, decide_eq_true c_8, decide_eq_true c_10, Bool.not_true, Bool.not_false, Bool.and_true, Bool.true_and, Bool.and_false, Bool.false_and, Bool.or_true, Bool.true_or, Bool.or_false, Bool.false_or, Bool.and_self, Bool.or_self]), ht⟩) (fun _ h => nomatch h) dX12_canPreview_115
        · refine lv_iload hx hb dX12_canPreview_97 (lv_at hl 2 rfl) ?_
          refine lv_iload hx hb dX12_canPreview_99 (lv_at hl 0 rfl) ?_
          refine lv_ior hx hb dX12_canPreview_101 ?_
          refine lv_aload hx hb dX12_canPreview_102 (lv_at hl 3 rfl) ?_
          refine zcVi (As := []) (rest := [.int ((g 6 (R * 8 + i) ||| F) ||| (orN (fun p9 => covP g n4 (nI R) (nI i) (g 0 0) (nI p9)) 4))]) ⟨hx, hb, hml, hown, hts⟩ (c_X7_all l D ty A u C ma t0 mi g n1 n2 nL n4 n5 th rep bro hR i (by omega)) (cwV 0 hts gX12_canPreview_X7_all rfl rfl rfl (by decide +kernel) ⟨Nat.le_of_ble_eq_true rfl, Nat.le_of_ble_eq_true rfl⟩) mI_blind (mI_pre hM hK hMS hS) (va_recv hK (hM.Pa (hR.s9 (i := i) (by omega)).1 rfl (hR.s9 (i := i) (by omega)).2) (ci := 8) (q0 := 0) rfl rfl) rfl hl.1 rfl (Nat.le_of_ble_eq_true rfl) dX12_canPreview_104 ⟨Nat.le_of_ble_eq_true rfl, Nat.le_of_ble_eq_true rfl⟩ (fun r_11 hr_11 => ?_)
          subst hr_11
          refine lv_icmp_eq (tgt := 114) hx hb dX12_canPreview_107 (by decide) (fun c_12 => ?_) (fun c_12 => ?_)
          · refine lv_iconst (v := nI 0) hx hb dX12_canPreview_114 (by decide) ?_
            exact W.zret (v := nI 0) hx hb hr rfl (fun t ht hW => ⟨_, rfl, bI_n0 (by unfold mayB openT; rw [← open4]; simp only [c_6, decide_eq_true c_8, decide_eq_false c_10, decide_eq_true c_12, Bool.not_true, Bool.not_false, Bool.and_true, Bool.true_and, Bool.and_false, Bool.false_and, Bool.or_true, Bool.true_or, Bool.or_false, Bool.false_or, Bool.and_self, Bool.or_self]), ht⟩) (fun _ h => nomatch h) dX12_canPreview_115
          · refine lv_iconst (v := nI 1) hx hb dX12_canPreview_110 (by decide) ?_
            refine lv_goto (tgt := 115) hx hb dX12_canPreview_111 (by decide) ?_
            exact W.zret (v := nI 1) hx hb hr rfl (fun t ht hW => ⟨_, rfl, bI_n1 (by unfold mayB openT; rw [← open4]; simp only [c_6, decide_eq_true c_8, decide_eq_false c_10, decide_eq_false c_12, Bool.not_true, Bool.not_false, Bool.and_true, Bool.true_and, Bool.and_false, Bool.false_and, Bool.or_true, Bool.true_or, Bool.or_false, Bool.false_or, Bool.and_self, Bool.or_self]), ht⟩) (fun _ h => nomatch h) dX12_canPreview_115
  · have c_3 := zn_geF (a := P) (b := 4) (by omega) (by omega) c_3
    refine lv_iload hx hb dX12_canPreview_36 (lv_at hl 0 rfl) ?_
    refine lv_aload_n hx hb dX12_canPreview_38 rfl (lv_at hl 4 rfl) ?_
    refine lv_iload_n hx hb dX12_canPreview_39 rfl (lv_at hl 5 rfl) ?_
    refine lv_iload_n hx hb dX12_canPreview_40 rfl (lv_at hl 6 rfl) ?_
    refine lv_iload hx hb dX12_canPreview_41 (lv_at hl 1 rfl) ?_
    refine lv_aload_n hx hb dX12_canPreview_43 rfl (lv_at hl 4 rfl) ?_
    refine va_get hx hb hts hinX12 hown hK (hM.Pa hR.o.1 rfl hR.o.2) 0 rfl rfl 5 (by decide) (hk7) (fun _ h9 => h9) rfl dX12_canPreview_44 ?_
    refine zcVi (As := [.int (nI R), .int (nI i), .int (nI P), .int (g 0 0)]) (rest := [.int (orN (fun p9 => covP g n4 (nI R) (nI i) (g 0 0) (nI p9)) P)]) ⟨hx, hb, hml, hown, hts⟩ (c_X12_coveredNow l D ty A u C ma t0 mi g n1 n2 nL n4 n5 th rep bro hR (nI R) (nI i) (nI P) (g 0 0)) (cwV 4 hts gX12_canPreview_X12_coveredNow rfl rfl rfl (by decide +kernel) ⟨Nat.le_of_ble_eq_true rfl, Nat.le_of_ble_eq_true rfl⟩) mI_blind (mI_pre hM hK hMS hS) (va_recv hK (hM.Pa hR.o.1 rfl hR.o.2) (ci := 13) (q0 := 0) rfl rfl) rfl hl.1 rfl (Nat.le_of_ble_eq_true rfl) dX12_canPreview_47 ⟨Nat.le_of_ble_eq_true rfl, Nat.le_of_ble_eq_true rfl⟩ (fun r_13 hr_13 => ?_)
    subst hr_13
    refine lv_ior hx hb dX12_canPreview_50 ?_
    refine lv_istore (lv' := [(6, .int ((orN (fun p9 => covP g n4 (nI R) (nI i) (g 0 0) (nI p9)) P) ||| (covP g n4 (nI R) (nI i) (g 0 0) (nI P)))), (7, .int (nI P)), (5, .int (g 6 (R * 8 + i) ||| F)), (4, .ref (ma 9 i)), (0, .ref (ma 0 0)), (1, .int (nI R)), (2, .int (nI i)), (3, .int F)]) hx hb dX12_canPreview_51 hl (by decide) rfl (fun ls hl => ?_)
    refine lv_iinc (v := nI (P + 1)) (lv' := [(7, .int (nI (P + 1))), (6, .int ((orN (fun p9 => covP g n4 (nI R) (nI i) (g 0 0) (nI p9)) P) ||| (covP g n4 (nI R) (nI i) (g 0 0) (nI P)))), (5, .int (g 6 (R * 8 + i) ||| F)), (4, .ref (ma 9 i)), (0, .ref (ma 0 0)), (1, .int (nI R)), (2, .int (nI i)), (3, .int F)]) hx hb dX12_canPreview_53 hl (k := 1) rfl (nI_add P 1) (by decide) rfl (fun ls hl => ?_)
    refine lv_goto (tgt := 30) hx hb dX12_canPreview_56 (by decide) ?_
    exact ih_P () ls (by omega) (show lv_has ls 8 [(6, .int (orN (fun p9 => covP g n4 (nI R) (nI i) (g 0 0) (nI p9)) (P + 1))), (7, .int (nI (P + 1))), (5, .int (g 6 (R * 8 + i) ||| F)), (4, .ref (ma 9 i)), (0, .ref (ma 0 0)), (1, .int (nI R)), (2, .int (nI i)), (3, .int F)] from lv_sub hl [1, 0, 2, 3, 4, 5, 6, 7] rfl)
