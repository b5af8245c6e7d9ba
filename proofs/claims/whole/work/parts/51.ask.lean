set_option maxHeartbeats 4000000 in
set_option maxRecDepth 100000 in
theorem c_X12_isIn (l : Launch) (B : State → Prop) (x a b : Int32) : Met l yX12_isIn wsX12_isIn ({ frames := 0, cells := 0, slots := 0, locals := 0 }) (va_Pc [.int x, .int a, .int b] (B)) (vp_Si (fun v_ => v_ = bI (inB x a b))) 0 0 (fun _ => False) := by
  refine zMet (cc := cX12_isIn) (maxL := 3) (ret := (some .boolean)) (by decide) rfl (Nat.le_of_ble_eq_true rfl) ?_
  intro p e s m below meth c hx hb hr hts hown hlocks hml hB ls hl
  have hl : lv_has ls 3 [(0, .int x), (1, .int a), (2, .int b)] := hl
  refine lv_iload_n hx hb dX12_isIn_0 rfl (lv_at hl 0 rfl) ?_
  refine lv_iload_n hx hb dX12_isIn_1 rfl (lv_at hl 1 rfl) ?_
  refine lv_icmp_lt (tgt := 14) hx hb dX12_isIn_2 (by decide) (fun c_1 => ?_) (fun c_1 => ?_)
  · refine lv_iconst (v := nI 0) hx hb dX12_isIn_14 (by decide) ?_
    exact W.zret (v := nI 0) hx hb hr rfl (fun t ht hW => ⟨_, rfl, bI_n0 (by simp only [inB, decide_eq_true c_1, Bool.not_true, Bool.not_false, Bool.and_true, Bool.true_and, Bool.and_false, Bool.false_and, Bool.or_true, Bool.true_or, Bool.or_false, Bool.false_or, Bool.and_self, Bool.or_self]), ht⟩) (fun _ h => nomatch h) dX12_isIn_15
  · refine lv_iload_n hx hb dX12_isIn_5 rfl (lv_at hl 0 rfl) ?_
    refine lv_iload_n hx hb dX12_isIn_6 rfl (lv_at hl 2 rfl) ?_
    refine lv_icmp_gt (tgt := 14) hx hb dX12_isIn_7 (by decide) (fun c_2 => ?_) (fun c_2 => ?_)
    · refine lv_iconst (v := nI 0) hx hb dX12_isIn_14 (by decide) ?_
      exact W.zret (v := nI 0) hx hb hr rfl (fun t ht hW => ⟨_, rfl, bI_n0 (by simp only [inB, decide_eq_false c_1, decide_eq_true c_2, Bool.not_true, Bool.not_false, Bool.and_true, Bool.true_and, Bool.and_false, Bool.false_and, Bool.or_true, Bool.true_or, Bool.or_false, Bool.false_or, Bool.and_self, Bool.or_self]), ht⟩) (fun _ h => nomatch h) dX12_isIn_15
    · refine lv_iconst (v := nI 1) hx hb dX12_isIn_10 (by decide) ?_
      refine lv_goto (tgt := 15) hx hb dX12_isIn_11 (by decide) ?_
      exact W.zret (v := nI 1) hx hb hr rfl (fun t ht hW => ⟨_, rfl, bI_n1 (by simp only [inB, decide_eq_false c_1, decide_eq_false c_2, Bool.not_true, Bool.not_false, Bool.and_true, Bool.true_and, Bool.and_false, Bool.false_and, Bool.or_true, Bool.true_or, Bool.or_false, Bool.false_or, Bool.and_self, Bool.or_self]), ht⟩) (fun _ h => nomatch h) dX12_isIn_15
set_option maxHeartbeats 4000000 in
set_option maxRecDepth 100000 in
theorem c_X12_isNoReader (l : Launch) (B : State → Prop) (x : Int32) : Met l yX12_isNoReader wsX12_isNoReader ({ frames := 1, cells := 0, slots := 0, locals := 22 }) (va_Pc [.int x] (B)) (vp_Si (fun v_ => v_ = bI (bRd x))) 0 0 (fun _ => False) := by
  refine zMet (cc := cX12_isNoReader) (maxL := 1) (ret := (some .boolean)) (by decide) rfl (Nat.le_of_ble_eq_true rfl) ?_
  intro p e s m below meth c hx hb hr hts hown hlocks hml hB ls hl
  have hl : lv_has ls 1 [(0, .int x)] := hl
  refine lv_iload_n hx hb dX12_isNoReader_0 rfl (lv_at hl 0 rfl) ?_
  refine lv_iconst (v := nI 0) hx hb dX12_isNoReader_1 (by decide) ?_
  refine lv_iconst (v := nI 5) hx hb dX12_isNoReader_2 (by decide) ?_
  refine zcSi (As := [.int x, .int (nI 0), .int (nI 5)]) (rest := []) ⟨hx, hb, hml, hown, hts⟩ (c_X12_isIn l _ x (nI 0) (nI 5)) (cwS 3 hts gX12_isNoReader_X12_isIn rfl rfl rfl (by decide +kernel) ⟨Nat.le_of_ble_eq_true rfl, Nat.le_of_ble_eq_true rfl⟩) (B := fun _ => True) (fun _ _ _ _ _ => trivial) (fun _ _ _ => trivial) rfl hl.1 rfl (Nat.le_of_ble_eq_true rfl) dX12_isNoReader_3 ⟨Nat.le_of_ble_eq_true rfl, Nat.le_of_ble_eq_true rfl⟩ (fun r_1 hr_1 => ?_)
  subst hr_1
  refine lv_if_ne (tgt := 13) hx hb dX12_isNoReader_6 (by decide) (fun c_2 => ?_) (fun c_2 => ?_)
  · have c_2 := bI_t c_2
    refine lv_iconst (v := nI 0) hx hb dX12_isNoReader_13 (by decide) ?_
    exact W.zret (v := nI 0) hx hb hr rfl (fun t ht hW => ⟨_, rfl, bI_n0 (by simp only [bRd, c_2, Bool.not_true, Bool.not_false, Bool.and_true, Bool.true_and, Bool.and_false, Bool.false_and, Bool.or_true, Bool.true_or, Bool.or_false, Bool.false_or, Bool.and_self, Bool.or_self]), ht⟩) (fun _ h => nomatch h) dX12_isNoReader_14
  · have c_2 := bI_f c_2
    refine lv_iconst (v := nI 1) hx hb dX12_isNoReader_9 (by decide) ?_
    refine lv_goto (tgt := 14) hx hb dX12_isNoReader_10 (by decide) ?_
    exact W.zret (v := nI 1) hx hb hr rfl (fun t ht hW => ⟨_, rfl, bI_n1 (by simp only [bRd, c_2, Bool.not_true, Bool.not_false, Bool.and_true, Bool.true_and, Bool.and_false, Bool.false_and, Bool.or_true, Bool.true_or, Bool.or_false, Bool.false_or, Bool.and_self, Bool.or_self]), ht⟩) (fun _ h => nomatch h) dX12_isNoReader_14
set_option maxHeartbeats 400000 in
set_option maxRecDepth 100000 in
theorem c_X12_thrown (l : Launch) (D : va_G) (ty : Nat → ClassId) (A : Nat → Prop) (u : Nat → Nat → Prop) (C : Nat → Nat → va_E) (ma : Nat → Nat → Nat) (t0 mi : Nat) (g : Nat → Nat → Int32) (n1 n2 nL n4 n5 : Nat) (th : Int32) (rep bro : Nat → Nat → Int32) (hR : mR ty t0 g n1 n2 nL n4 n5 th rep bro u C ma) : Met l yX12_thrown wsX12_thrown ({ frames := 0, cells := 0, slots := 0, locals := 0 }) (va_Pc [.ref (ma 0 0)] (mI D ty A u C ma t0 mi)) (vp_Si (fun v_ => v_ = th)) 0 0 (fun _ => False) := by
  refine zMet (cc := cX12_thrown) (maxL := 1) (ret := (some .int)) (by decide) rfl (Nat.le_of_ble_eq_true rfl) ?_
  intro p e s m below meth c hx hb hr hts hown hlocks hml hB ls hl
  obtain ⟨hM, hK, hMS⟩ := hB
  have hS : va_S A s.heap s.heap [] := va_S.rf
  have hbn := hR.I.b1
  have hbs := hR.I.b2
  have hbl := hR.I.bL
  have hbc := hR.I.b4
  have hbr := hR.I.b5
  have hl : lv_has ls 1 [(0, .ref (ma 0 0))] := hl
  have hinX12 : ∀ w ∈ wsX120, w ∈ wsX12_thrown := by decide +kernel
  have hk1 := hts (.fieldLink RX12 25 "DatamarketDeskModel" "thrown" "I") (by decide +kernel)
  refine lv_aload_n hx hb dX12_thrown_0 rfl (lv_at hl 0 rfl) ?_
  refine va_get hx hb hts hinX12 hown hK (hM.Pa hR.o.1 rfl hR.o.2) 0 rfl rfl 0 (by decide) (hk1) (fun _ h9 => h9) rfl dX12_thrown_1 ?_
  exact W.iret (v := th) hx hb hr (fun t ht hW => ⟨_, rfl, rfl, ht⟩) (fun _ h => nomatch h) dX12_thrown_4
set_option maxHeartbeats 400000 in
set_option maxRecDepth 100000 in
theorem c_X12_isNo (l : Launch) (D : va_G) (ty : Nat → ClassId) (A : Nat → Prop) (u : Nat → Nat → Prop) (C : Nat → Nat → va_E) (ma : Nat → Nat → Nat) (t0 mi : Nat) (g : Nat → Nat → Int32) (n1 n2 nL n4 n5 : Nat) (th : Int32) (rep bro : Nat → Nat → Int32) (hR : mR ty t0 g n1 n2 nL n4 n5 th rep bro u C ma) (x : Int32) : Met l yX12_isNo wsX12_isNo ({ frames := 1, cells := 0, slots := 0, locals := 22 }) (va_Pc [.ref (ma 0 0), .int x] (mI D ty A u C ma t0 mi)) (vp_Si (fun v_ => v_ = bI (bNo n1 x))) 0 0 (fun _ => False) := by
  refine zMet (cc := cX12_isNo) (maxL := 2) (ret := (some .boolean)) (by decide) rfl (Nat.le_of_ble_eq_true rfl) ?_
  intro p e s m below meth c hx hb hr hts hown hlocks hml hB ls hl
  obtain ⟨hM, hK, hMS⟩ := hB
  have hS : va_S A s.heap s.heap [] := va_S.rf
  have hbn := hR.I.b1
  have hbs := hR.I.b2
  have hbl := hR.I.bL
  have hbc := hR.I.b4
  have hbr := hR.I.b5
  have hl : lv_has ls 2 [(0, .ref (ma 0 0)), (1, .int x)] := hl
  have hinX12 : ∀ w ∈ wsX120, w ∈ wsX12_isNo := by decide +kernel
  have hk1 := hts (.fieldLink RX12 10 "DatamarketDeskModel" "sets" "Ljava/util/ArrayList;") (by decide +kernel)
  refine lv_iload_n hx hb dX12_isNo_0 rfl (lv_at hl 1 rfl) ?_
  refine lv_iconst (v := nI 0) hx hb dX12_isNo_1 (by decide) ?_
  refine lv_aload_n hx hb dX12_isNo_2 rfl (lv_at hl 0 rfl) ?_
  refine va_get hx hb hts hinX12 hown hK (hM.Pa hR.o.1 rfl hR.o.2) 0 rfl rfl 1 (by decide) (hk1) (fun _ h9 => h9) rfl dX12_isNo_3 ?_
  obtain ⟨huz_1, hnz_1, mz_1, bz_1, hCz_1⟩ := isL.hd hR.l1
  refine zcVi (As := []) (rest := [.int (nI 0), .int x]) ⟨hx, hb, hml, hown, hts⟩ (c_size l D ty A u C ma t0 mi 1 0 n1 (ma 9) hR.l1) (cwV 0 hts gX12_isNo_Jx4a65c_size_8abf5 rfl rfl rfl (by decide +kernel) ⟨Nat.le_of_ble_eq_true rfl, Nat.le_of_ble_eq_true rfl⟩) mI_blind (mI_pre hM hK hMS hS) (va_recv hK (hM.Pa huz_1 rfl hCz_1) (ci := 0) (q0 := 0) rfl rfl) rfl hl.1 rfl (Nat.le_of_ble_eq_true rfl) dX12_isNo_6 ⟨Nat.le_of_ble_eq_true rfl, Nat.le_of_ble_eq_true rfl⟩ (fun r_2 hr_2 => ?_)
  subst hr_2
  refine lv_iconst (v := nI 1) hx hb dX12_isNo_9 (by decide) ?_
  refine lv_isub hx hb dX12_isNo_10 ?_
  refine zcSi (As := [.int x, .int (nI 0), .int ((nI n1) - (nI 1))]) (rest := []) ⟨hx, hb, hml, hown, hts⟩ (c_X12_isIn l _ x (nI 0) ((nI n1) - (nI 1))) (cwS 3 hts gX12_isNo_X12_isIn rfl rfl rfl (by decide +kernel) ⟨Nat.le_of_ble_eq_true rfl, Nat.le_of_ble_eq_true rfl⟩) (B := fun _ => True) (fun _ _ _ _ _ => trivial) (fun _ _ _ => trivial) rfl hl.1 rfl (Nat.le_of_ble_eq_true rfl) dX12_isNo_11 ⟨Nat.le_of_ble_eq_true rfl, Nat.le_of_ble_eq_true rfl⟩ (fun r_3 hr_3 => ?_)
  subst hr_3
  refine lv_if_ne (tgt := 21) hx hb dX12_isNo_14 (by decide) (fun c_4 => ?_) (fun c_4 => ?_)
  · have c_4 := bI_t c_4
    refine lv_iconst (v := nI 0) hx hb dX12_isNo_21 (by decide) ?_
    exact W.zret (v := nI 0) hx hb hr rfl (fun t ht hW => ⟨_, rfl, bI_n0 (by simp only [bNo, c_4, Bool.not_true, Bool.not_false, Bool.and_true, Bool.true_and, Bool.and_false, Bool.false_and, Bool.or_true, Bool.true_or, Bool.or_false, Bool.false_or, Bool.and_self, Bool.or_self]), ht⟩) (fun _ h => nomatch h) dX12_isNo_22
  · have c_4 := bI_f c_4
    refine lv_iconst (v := nI 1) hx hb dX12_isNo_17 (by decide) ?_
    refine lv_goto (tgt := 22) hx hb dX12_isNo_18 (by decide) ?_
    exact W.zret (v := nI 1) hx hb hr rfl (fun t ht hW => ⟨_, rfl, bI_n1 (by simp only [bNo, c_4, Bool.not_true, Bool.not_false, Bool.and_true, Bool.true_and, Bool.and_false, Bool.false_and, Bool.or_true, Bool.true_or, Bool.or_false, Bool.false_or, Bool.and_self, Bool.or_self]), ht⟩) (fun _ h => nomatch h) dX12_isNo_22
set_option maxHeartbeats 400000 in
set_option maxRecDepth 100000 in
theorem c_X7_all (l : Launch) (D : va_G) (ty : Nat → ClassId) (A : Nat → Prop) (u : Nat → Nat → Prop) (C : Nat → Nat → va_E) (ma : Nat → Nat → Nat) (t0 mi : Nat) (g : Nat → Nat → Int32) (n1 n2 nL n4 n5 : Nat) (th : Int32) (rep bro : Nat → Nat → Int32) (hR : mR ty t0 g n1 n2 nL n4 n5 th rep bro u C ma) (i : Nat) (hi : i < n1) : Met l yX7_all wsX7_all ({ frames := 0, cells := 0, slots := 0, locals := 0 }) (va_Pc [.ref (ma 9 i)] (mI D ty A u C ma t0 mi)) (vp_Si (fun v_ => v_ = allF g i)) 0 0 (fun _ => False) := by
  refine zMet (cc := cX7_all) (maxL := 1) (ret := (some .int)) (by decide) rfl (Nat.le_of_ble_eq_true rfl) ?_
  intro p e s m below meth c hx hb hr hts hown hlocks hml hB ls hl
  obtain ⟨hM, hK, hMS⟩ := hB
  have hS : va_S A s.heap s.heap [] := va_S.rf
  have hbn := hR.I.b1
  have hbs := hR.I.b2
  have hbl := hR.I.bL
  have hbc := hR.I.b4
  have hbr := hR.I.b5
  have hl : lv_has ls 1 [(0, .ref (ma 9 i))] := hl
  have hinX7 : ∀ w ∈ wsX70, w ∈ wsX7_all := by decide +kernel
  have hk1 := hts (.fieldLink RX7 28 "DatamarketDeskModel$DataSet" "fields" "I") (by decide +kernel)
  refine lv_iconst (v := nI 1) hx hb dX7_all_0 (by decide) ?_
  refine lv_aload_n hx hb dX7_all_1 rfl (lv_at hl 0 rfl) ?_
  refine va_get hx hb hts hinX7 hown hK (hM.Pa (hR.s9 (i := i) (by omega)).1 rfl (hR.s9 (i := i) (by omega)).2) 0 rfl rfl 0 (by decide) (hk1) (fun _ h9 => h9) rfl dX7_all_2 ?_
  refine zeq ((hR.I.f7 (i := i) (by omega)).1) ?_
  refine lv_ishl hx hb dX7_all_5 ?_
  refine lv_iconst (v := nI 1) hx hb dX7_all_6 (by decide) ?_
  refine lv_isub hx hb dX7_all_7 ?_
  exact W.iret (v := ((nI 1) <<< ((nI (nF g i)) &&& 31)) - (nI 1)) hx hb hr (fun t ht hW => ⟨_, rfl, rfl, ht⟩) (fun _ h => nomatch h) dX7_all_8
set_option maxHeartbeats 400000 in
set_option maxRecDepth 100000 in
theorem c_X7_latest (l : Launch) (D : va_G) (ty : Nat → ClassId) (A : Nat → Prop) (u : Nat → Nat → Prop) (C : Nat → Nat → va_E) (ma : Nat → Nat → Nat) (t0 mi : Nat) (g : Nat → Nat → Int32) (n1 n2 nL n4 n5 : Nat) (th : Int32) (rep bro : Nat → Nat → Int32) (hR : mR ty t0 g n1 n2 nL n4 n5 th rep bro u C ma) (i : Nat) (hi : i < n1) : Met l yX7_latest wsX7_latest ({ frames := 1, cells := 0, slots := 0, locals := 20 }) (va_Pc [.ref (ma 9 i)] (mI D ty A u C ma t0 mi)) (vp_Si (fun v_ => v_ = nI (nV g i) - nI 1)) 0 0 (fun _ => False) := by
  refine zMet (cc := cX7_latest) (maxL := 1) (ret := (some .int)) (by decide) rfl (Nat.le_of_ble_eq_true rfl) ?_
  intro p e s m below meth c hx hb hr hts hown hlocks hml hB ls hl
  obtain ⟨hM, hK, hMS⟩ := hB
  have hS : va_S A s.heap s.heap [] := va_S.rf
  have hbn := hR.I.b1
  have hbs := hR.I.b2
  have hbl := hR.I.bL
  have hbc := hR.I.b4
  have hbr := hR.I.b5
  have hl : lv_has ls 1 [(0, .ref (ma 9 i))] := hl
  have hinX7 : ∀ w ∈ wsX70, w ∈ wsX7_latest := by decide +kernel
  have hk1 := hts (.fieldLink RX7 21 "DatamarketDeskModel$DataSet" "versions" "Ljava/util/ArrayList;") (by decide +kernel)
  refine lv_aload_n hx hb dX7_latest_0 rfl (lv_at hl 0 rfl) ?_
  refine va_get hx hb hts hinX7 hown hK (hM.Pa (hR.s9 (i := i) (by omega)).1 rfl (hR.s9 (i := i) (by omega)).2) 0 rfl rfl 3 (by decide) (hk1) (fun _ h9 => h9) rfl dX7_latest_1 ?_
  obtain ⟨huz_1, hnz_1, mz_1, bz_1, hCz_1⟩ := isL.hd (hR.s12 (i := i) (by omega))
  refine zcVi (As := []) (rest := []) ⟨hx, hb, hml, hown, hts⟩ (c_size l D ty A u C ma t0 mi 12 i (nV g i) (fun v => ma 15 (i * 6 + v)) (hR.s12 (i := i) (by omega))) (cwV 0 hts gX7_latest_Jx4a65c_size_8abf5 rfl rfl rfl (by decide +kernel) ⟨Nat.le_of_ble_eq_true rfl, Nat.le_of_ble_eq_true rfl⟩) mI_blind (mI_pre hM hK hMS hS) (va_recv hK (hM.Pa huz_1 rfl hCz_1) (ci := 0) (q0 := 0) rfl rfl) rfl hl.1 rfl (Nat.le_of_ble_eq_true rfl) dX7_latest_4 ⟨Nat.le_of_ble_eq_true rfl, Nat.le_of_ble_eq_true rfl⟩ (fun r_2 hr_2 => ?_)
  subst hr_2
  refine lv_iconst (v := nI 1) hx hb dX7_latest_7 (by decide) ?_
  refine lv_isub hx hb dX7_latest_8 ?_
  exact W.iret (v := (nI (nV g i)) - (nI 1)) hx hb hr (fun t ht hW => ⟨_, rfl, rfl, ht⟩) (fun _ h => nomatch h) dX7_latest_9
set_option maxHeartbeats 400000 in
set_option maxRecDepth 100000 in
theorem c_X7_rows (l : Launch) (D : va_G) (ty : Nat → ClassId) (A : Nat → Prop) (u : Nat → Nat → Prop) (C : Nat → Nat → va_E) (ma : Nat → Nat → Nat) (t0 mi : Nat) (g : Nat → Nat → Int32) (n1 n2 nL n4 n5 : Nat) (th : Int32) (rep bro : Nat → Nat → Int32) (hR : mR ty t0 g n1 n2 nL n4 n5 th rep bro u C ma) (i : Nat) (hi : i < n1) : Met l yX7_rows wsX7_rows ({ frames := 3, cells := 0, slots := 0, locals := 64 }) (va_Pc [.ref (ma 9 i)] (mI D ty A u C ma t0 mi)) (vp_Si (fun v_ => v_ = rowsL g i)) 0 0 (fun _ => False) := by
  refine zMet (cc := cX7_rows) (maxL := 1) (ret := (some .int)) (by decide) rfl (Nat.le_of_ble_eq_true rfl) ?_
  intro p e s m below meth c hx hb hr hts hown hlocks hml hB ls hl
  obtain ⟨hM, hK, hMS⟩ := hB
  have hS : va_S A s.heap s.heap [] := va_S.rf
  have hbn := hR.I.b1
  have hbs := hR.I.b2
  have hbl := hR.I.bL
  have hbc := hR.I.b4
  have hbr := hR.I.b5
  have hl : lv_has ls 1 [(0, .ref (ma 9 i))] := hl
  have hinX7 : ∀ w ∈ wsX70, w ∈ wsX7_rows := by decide +kernel
  have hk1 := hts (.fieldLink RX7 21 "DatamarketDeskModel$DataSet" "versions" "Ljava/util/ArrayList;") (by decide +kernel)
  have hk2 := hts (.classLink RX7 47 "DatamarketDeskModel$Version") (by decide +kernel)
  have hinX11 : ∀ w ∈ wsX110, w ∈ wsX7_rows := by decide +kernel
  have hk4 := hts (.fieldLink RX7 49 "DatamarketDeskModel$Version" "rows" "I") (by decide +kernel)
  refine lv_aload_n hx hb dX7_rows_0 rfl (lv_at hl 0 rfl) ?_
  refine va_get hx hb hts hinX7 hown hK (hM.Pa (hR.s9 (i := i) (by omega)).1 rfl (hR.s9 (i := i) (by omega)).2) 0 rfl rfl 3 (by decide) (hk1) (fun _ h9 => h9) rfl dX7_rows_1 ?_
  obtain ⟨huz_1, hnz_1, mz_1, bz_1, hCz_1⟩ := isL.hd (hR.s12 (i := i) (by omega))
  refine zcVi (As := []) (rest := []) ⟨hx, hb, hml, hown, hts⟩ (c_isEmpty l D ty A u C ma t0 mi 12 i (nV g i) (fun v => ma 15 (i * 6 + v)) (hR.s12 (i := i) (by omega))) (cwV 0 hts gX7_rows_Jx4a65c_isEmpty_aae02 rfl rfl rfl (by decide +kernel) ⟨Nat.le_of_ble_eq_true rfl, Nat.le_of_ble_eq_true rfl⟩) mI_blind (mI_pre hM hK hMS hS) (va_recv hK (hM.Pa huz_1 rfl hCz_1) (ci := 0) (q0 := 0) rfl rfl) rfl hl.1 rfl (Nat.le_of_ble_eq_true rfl) dX7_rows_4 ⟨Nat.le_of_ble_eq_true rfl, Nat.le_of_ble_eq_true rfl⟩ (fun r_2 hr_2 => ?_)
  subst hr_2
  refine lv_if_eq (tgt := 14) hx hb dX7_rows_7 (by decide) (fun c_3 => ?_) (fun c_3 => ?_)
  · have c_3 := bI_f c_3
    have hp := of_decide_eq_false c_3
    have h0 : ¬ nV g i = 0 := hp
    refine lv_aload_n hx hb dX7_rows_14 rfl (lv_at hl 0 rfl) ?_
    refine va_get hx hb hts hinX7 hown hK (hM.Pa (hR.s9 (i := i) (by omega)).1 rfl (hR.s9 (i := i) (by omega)).2) 0 rfl rfl 3 (by decide) (hk1) (fun _ h9 => h9) rfl dX7_rows_15 ?_
    refine lv_aload_n hx hb dX7_rows_18 rfl (lv_at hl 0 rfl) ?_
    refine zcVi (As := []) (rest := [.ref (ma 12 i)]) ⟨hx, hb, hml, hown, hts⟩ (c_X7_latest l D ty A u C ma t0 mi g n1 n2 nL n4 n5 th rep bro hR i (by omega)) (cwV 0 hts gX7_rows_X7_latest rfl rfl rfl (by decide +kernel) ⟨Nat.le_of_ble_eq_true rfl, Nat.le_of_ble_eq_true rfl⟩) mI_blind (mI_pre hM hK hMS hS) (va_recv hK (hM.Pa (hR.s9 (i := i) (by omega)).1 rfl (hR.s9 (i := i) (by omega)).2) (ci := 8) (q0 := 0) rfl rfl) rfl hl.1 rfl (Nat.le_of_ble_eq_true rfl) dX7_rows_19 ⟨Nat.le_of_ble_eq_true rfl, Nat.le_of_ble_eq_true rfl⟩ (fun r_4 hr_4 => ?_)
    subst hr_4
    refine zeq (pk_sub (a := nV g i) (b := 1) (by omega)) ?_
    obtain ⟨huz_5, hnz_5, mz_5, bz_5, hCz_5⟩ := isL.hd (hR.s12 (i := i) (by omega))
    refine zcVr (x := .ref (ma 15 (i * 6 + (nV g i - 1)))) (As := [.int (nI (nV g i - 1))]) (rest := []) ⟨hx, hb, hml, hown, hts⟩ (c_get l D ty A u C ma t0 mi 12 i (nV g i) (fun v => ma 15 (i * 6 + v)) (hR.s12 (i := i) (by omega)) (nV g i - 1) (by omega)) (cwV 1 hts gX7_rows_Jx4a65c_get_915e3 rfl rfl rfl (by decide +kernel) ⟨Nat.le_of_ble_eq_true rfl, Nat.le_of_ble_eq_true rfl⟩) mI_blind (mI_pre hM hK hMS hS) (va_recv hK (hM.Pa huz_5 rfl hCz_5) (ci := 0) (q0 := 0) rfl rfl) rfl hl.1 rfl (Nat.le_of_ble_eq_true rfl) dX7_rows_22 ⟨Nat.le_of_ble_eq_true rfl, Nat.le_of_ble_eq_true rfl⟩ ?_
    refine va_castS hx hb hown (hk2) ((hK.1 12 _ rfl).2) (va_recv hK (hM.Pa (hR.v15 (i := i) (v := nV g i - 1) (by omega) (by omega)).1 rfl (hR.v15 (i := i) (v := nV g i - 1) (by omega) (by omega)).2) (ci := 12) (q0 := 0) rfl rfl) dX7_rows_25 ?_
    refine va_get hx hb hts hinX11 hown hK (hM.Pa (hR.v15 (i := i) (v := nV g i - 1) (by omega) (by omega)).1 rfl (hR.v15 (i := i) (v := nV g i - 1) (by omega) (by omega)).2) 0 rfl rfl 0 (by decide) (hk4) (fun _ h9 => h9) rfl dX7_rows_28 ?_
    exact W.iret (v := g 9 (i * 6 + (nV g i - 1))) hx hb hr (fun t ht hW => ⟨_, rfl, (by unfold rowsL; rw [if_neg h0]), ht⟩) (fun _ h => nomatch h) dX7_rows_31
  · have c_3 := bI_t c_3
    have h0 := of_decide_eq_true c_3
    refine lv_iconst (v := nI 0) hx hb dX7_rows_10 (by decide) ?_
    refine lv_goto (tgt := 31) hx hb dX7_rows_11 (by decide) ?_
    exact W.iret (v := nI 0) hx hb hr (fun t ht hW => ⟨_, rfl, (by unfold rowsL; rw [if_pos h0]), ht⟩) (fun _ h => nomatch h) dX7_rows_31
set_option maxHeartbeats 400000 in
set_option maxRecDepth 100000 in
theorem c_X12_isNoField_a (l : Launch) (D : va_G) (ty : Nat → ClassId) (A : Nat → Prop) (u : Nat → Nat → Prop) (C : Nat → Nat → va_E) (ma : Nat → Nat → Nat) (t0 mi : Nat) (g : Nat → Nat → Int32) (n1 n2 nL n4 n5 : Nat) (th : Int32) (rep bro : Nat → Nat → Int32) (hR : mR ty t0 g n1 n2 nL n4 n5 th rep bro u C ma) (x : Int32) (f : Int32) (hbx : bNo n1 x = true) : Met l yX12_isNoField wsX12_isNoField ({ frames := 6, cells := 0, slots := 0, locals := 160 }) (va_Pc [.ref (ma 0 0), .int x, .int f] (mI D ty A u C ma t0 mi)) (vp_Si (fun v_ => v_ = bI true)) 0 0 (fun _ => False) := by
  refine zMet (cc := cX12_isNoField) (maxL := 3) (ret := (some .boolean)) (by decide) rfl (Nat.le_of_ble_eq_true rfl) ?_
  intro p e s m below meth c hx hb hr hts hown hlocks hml hB ls hl
  obtain ⟨hM, hK, hMS⟩ := hB
  have hS : va_S A s.heap s.heap [] := va_S.rf
  have hbn := hR.I.b1
  have hbs := hR.I.b2
  have hbl := hR.I.bL
  have hbc := hR.I.b4
  have hbr := hR.I.b5
  have hl : lv_has ls 3 [(0, .ref (ma 0 0)), (1, .int x), (2, .int f)] := hl
  refine lv_aload_n hx hb dX12_isNoField_0 rfl (lv_at hl 0 rfl) ?_
  refine lv_iload_n hx hb dX12_isNoField_1 rfl (lv_at hl 1 rfl) ?_
  refine zcVi (As := [.int x]) (rest := []) ⟨hx, hb, hml, hown, hts⟩ (c_X12_isNo l D ty A u C ma t0 mi g n1 n2 nL n4 n5 th rep bro hR x) (cwV 1 hts gX12_isNoField_X12_isNo rfl rfl rfl (by decide +kernel) ⟨Nat.le_of_ble_eq_true rfl, Nat.le_of_ble_eq_true rfl⟩) mI_blind (mI_pre hM hK hMS hS) (va_recv hK (hM.Pa hR.o.1 rfl hR.o.2) (ci := 13) (q0 := 0) rfl rfl) rfl hl.1 rfl (Nat.le_of_ble_eq_true rfl) dX12_isNoField_2 ⟨Nat.le_of_ble_eq_true rfl, Nat.le_of_ble_eq_true rfl⟩ (fun r_1 hr_1 => ?_)
  subst hr_1
  refine zeq (show bI _ = bI true from by rw [hbx]) ?_
  refine lv_if_ne (tgt := 32) hx hb dX12_isNoField_5 (by decide) (fun c_2 => ?_) (fun c_2 => ?_)
  · have c_2 := bI_t c_2
    refine lv_iconst (v := nI 1) hx hb dX12_isNoField_32 (by decide) ?_
    refine lv_goto (tgt := 37) hx hb dX12_isNoField_33 (by decide) ?_
    exact W.zret (v := nI 1) hx hb hr rfl (fun t ht hW => ⟨_, rfl, rfl, ht⟩) (fun _ h => nomatch h) dX12_isNoField_37
  · have c_2 := bI_f c_2
    cases c_2
set_option maxHeartbeats 400000 in
set_option maxRecDepth 100000 in
theorem c_X12_isNoField_b (l : Launch) (D : va_G) (ty : Nat → ClassId) (A : Nat → Prop) (u : Nat → Nat → Prop) (C : Nat → Nat → va_E) (ma : Nat → Nat → Nat) (t0 mi : Nat) (g : Nat → Nat → Int32) (n1 n2 nL n4 n5 : Nat) (th : Int32) (rep bro : Nat → Nat → Int32) (hR : mR ty t0 g n1 n2 nL n4 n5 th rep bro u C ma) (i : Nat) (hi : i < n1) (f : Int32) : Met l yX12_isNoField wsX12_isNoField ({ frames := 6, cells := 0, slots := 0, locals := 160 }) (va_Pc [.ref (ma 0 0), .int (nI i), .int f] (mI D ty A u C ma t0 mi)) (vp_Si (fun v_ => v_ = bI (!inB f (nI 0) (g 7 i - nI 1)))) 0 0 (fun _ => False) := by
  refine zMet (cc := cX12_isNoField) (maxL := 3) (ret := (some .boolean)) (by decide) rfl (Nat.le_of_ble_eq_true rfl) ?_
  intro p e s m below meth c hx hb hr hts hown hlocks hml hB ls hl
  obtain ⟨hM, hK, hMS⟩ := hB
  have hS : va_S A s.heap s.heap [] := va_S.rf
  have hbn := hR.I.b1
  have hbs := hR.I.b2
  have hbl := hR.I.bL
  have hbc := hR.I.b4
  have hbr := hR.I.b5
  have hl : lv_has ls 3 [(0, .ref (ma 0 0)), (1, .int (nI i)), (2, .int f)] := hl
  have hinX12 : ∀ w ∈ wsX120, w ∈ wsX12_isNoField := by decide +kernel
  have hk1 := hts (.fieldLink RX12 10 "DatamarketDeskModel" "sets" "Ljava/util/ArrayList;") (by decide +kernel)
  have hk2 := hts (.classLink RX12 49 "DatamarketDeskModel$DataSet") (by decide +kernel)
  have hinX7 : ∀ w ∈ wsX70, w ∈ wsX12_isNoField := by decide +kernel
  have hk4 := hts (.fieldLink RX12 51 "DatamarketDeskModel$DataSet" "fields" "I") (by decide +kernel)
  refine lv_aload_n hx hb dX12_isNoField_0 rfl (lv_at hl 0 rfl) ?_
  refine lv_iload_n hx hb dX12_isNoField_1 rfl (lv_at hl 1 rfl) ?_
  refine zcVi (As := [.int (nI i)]) (rest := []) ⟨hx, hb, hml, hown, hts⟩ (c_X12_isNo l D ty A u C ma t0 mi g n1 n2 nL n4 n5 th rep bro hR (nI i)) (cwV 1 hts gX12_isNoField_X12_isNo rfl rfl rfl (by decide +kernel) ⟨Nat.le_of_ble_eq_true rfl, Nat.le_of_ble_eq_true rfl⟩) mI_blind (mI_pre hM hK hMS hS) (va_recv hK (hM.Pa hR.o.1 rfl hR.o.2) (ci := 13) (q0 := 0) rfl rfl) rfl hl.1 rfl (Nat.le_of_ble_eq_true rfl) dX12_isNoField_2 ⟨Nat.le_of_ble_eq_true rfl, Nat.le_of_ble_eq_true rfl⟩ (fun r_1 hr_1 => ?_)
  subst hr_1
  refine zeq (show bI _ = bI false from by rw [bNo_ok hR.I.b1 hi]) ?_
  refine lv_if_ne (tgt := 32) hx hb dX12_isNoField_5 (by decide) (fun c_2 => ?_) (fun c_2 => ?_)
  · have c_2 := bI_t c_2
    cases c_2
  · have c_2 := bI_f c_2
    refine lv_iload_n hx hb dX12_isNoField_8 rfl (lv_at hl 2 rfl) ?_
    refine lv_iconst (v := nI 0) hx hb dX12_isNoField_9 (by decide) ?_
    refine lv_aload_n hx hb dX12_isNoField_10 rfl (lv_at hl 0 rfl) ?_
    refine va_get hx hb hts hinX12 hown hK (hM.Pa hR.o.1 rfl hR.o.2) 0 rfl rfl 1 (by decide) (hk1) (fun _ h9 => h9) rfl dX12_isNoField_11 ?_
    refine lv_iload_n hx hb dX12_isNoField_14 rfl (lv_at hl 1 rfl) ?_
    obtain ⟨huz_3, hnz_3, mz_3, bz_3, hCz_3⟩ := isL.hd hR.l1
    refine zcVr (x := .ref (ma 9 i)) (As := [.int (nI i)]) (rest := [.int (nI 0), .int f]) ⟨hx, hb, hml, hown, hts⟩ (c_get l D ty A u C ma t0 mi 1 0 n1 (ma 9) hR.l1 i (by omega)) (cwV 1 hts gX12_isNoField_Jx4a65c_get_915e3 rfl rfl rfl (by decide +kernel) ⟨Nat.le_of_ble_eq_true rfl, Nat.le_of_ble_eq_true rfl⟩) mI_blind (mI_pre hM hK hMS hS) (va_recv hK (hM.Pa huz_3 rfl hCz_3) (ci := 0) (q0 := 0) rfl rfl) rfl hl.1 rfl (Nat.le_of_ble_eq_true rfl) dX12_isNoField_15 ⟨Nat.le_of_ble_eq_true rfl, Nat.le_of_ble_eq_true rfl⟩ ?_
    refine va_castS hx hb hown (hk2) ((hK.1 8 _ rfl).2) (va_recv hK (hM.Pa (hR.s9 (i := i) (by omega)).1 rfl (hR.s9 (i := i) (by omega)).2) (ci := 8) (q0 := 0) rfl rfl) dX12_isNoField_18 ?_
    refine va_get hx hb hts hinX7 hown hK (hM.Pa (hR.s9 (i := i) (by omega)).1 rfl (hR.s9 (i := i) (by omega)).2) 0 rfl rfl 0 (by decide) (hk4) (fun _ h9 => h9) rfl dX12_isNoField_21 ?_
    refine lv_iconst (v := nI 1) hx hb dX12_isNoField_24 (by decide) ?_
    refine lv_isub hx hb dX12_isNoField_25 ?_
    refine zcSi (As := [.int f, .int (nI 0), .int ((g 7 i) - (nI 1))]) (rest := []) ⟨hx, hb, hml, hown, hts⟩ (c_X12_isIn l _ f (nI 0) ((g 7 i) - (nI 1))) (cwS 3 hts gX12_isNoField_X12_isIn rfl rfl rfl (by decide +kernel) ⟨Nat.le_of_ble_eq_true rfl, Nat.le_of_ble_eq_true rfl⟩) (B := fun _ => True) (fun _ _ _ _ _ => trivial) (fun _ _ _ => trivial) rfl hl.1 rfl (Nat.le_of_ble_eq_true rfl) dX12_isNoField_26 ⟨Nat.le_of_ble_eq_true rfl, Nat.le_of_ble_eq_true rfl⟩ (fun r_5 hr_5 => ?_)
    subst hr_5
    refine lv_if_ne (tgt := 36) hx hb dX12_isNoField_29 (by decide) (fun c_6 => ?_) (fun c_6 => ?_)
    · have c_6 := bI_t c_6
      refine lv_iconst (v := nI 0) hx hb dX12_isNoField_36 (by decide) ?_
      exact W.zret (v := nI 0) hx hb hr rfl (fun t ht hW => ⟨_, rfl, bI_n0 (by simp only [Bool.not_true, Bool.not_false, c_6]), ht⟩) (fun _ h => nomatch h) dX12_isNoField_37
    · have c_6 := bI_f c_6
      refine lv_iconst (v := nI 1) hx hb dX12_isNoField_32 (by decide) ?_
      refine lv_goto (tgt := 37) hx hb dX12_isNoField_33 (by decide) ?_
      exact W.zret (v := nI 1) hx hb hr rfl (fun t ht hW => ⟨_, rfl, bI_n1 (by simp only [Bool.not_true, Bool.not_false, c_6]), ht⟩) (fun _ h => nomatch h) dX12_isNoField_37
set_option maxHeartbeats 4000000 in
theorem c_X12_isNoField (l : Launch) (D : va_G) (ty : Nat → ClassId) (A : Nat → Prop) (u : Nat → Nat → Prop) (C : Nat → Nat → va_E) (ma : Nat → Nat → Nat) (t0 mi : Nat) (g : Nat → Nat → Int32) (n1 n2 nL n4 n5 : Nat) (th : Int32) (rep bro : Nat → Nat → Int32) (hR : mR ty t0 g n1 n2 nL n4 n5 th rep bro u C ma) (x : Int32) (f : Int32) : Met l yX12_isNoField wsX12_isNoField ({ frames := 6, cells := 0, slots := 0, locals := 160 }) (va_Pc [.ref (ma 0 0), .int x, .int f] (mI D ty A u C ma t0 mi)) (vp_Si (fun v_ => v_ = bI (bFld g n1 x f))) 0 0 (fun _ => False) := by
  by_cases hbx : bNo n1 x = true
  · have e9 : bFld g n1 x f = true := by unfold bFld; rw [hbx]; rfl
    rw [e9]; exact c_X12_isNoField_a l D ty A u C ma t0 mi g n1 n2 nL n4 n5 th rep bro hR x f hbx
  · obtain ⟨i, hi, rfl⟩ := bNo_f hR.I.b1 hbx
    have e9 : bFld g n1 (nI i) f = (!inB f (nI 0) (g 7 i - nI 1)) := by unfold bFld; rw [bNo_ok hR.I.b1 hi, (show cn (nI i) = i from cn_nI (by have := hR.I.b1; omega))]; rfl
    rw [e9]; exact c_X12_isNoField_b l D ty A u C ma t0 mi g n1 n2 nL n4 n5 th rep bro hR i hi f
set_option maxHeartbeats 400000 in
set_option maxRecDepth 100000 in
theorem c_X12_isNoVersion_a (l : Launch) (D : va_G) (ty : Nat → ClassId) (A : Nat → Prop) (u : Nat → Nat → Prop) (C : Nat → Nat → va_E) (ma : Nat → Nat → Nat) (t0 mi : Nat) (g : Nat → Nat → Int32) (n1 n2 nL n4 n5 : Nat) (th : Int32) (rep bro : Nat → Nat → Int32) (hR : mR ty t0 g n1 n2 nL n4 n5 th rep bro u C ma) (x : Int32) (f : Int32) (hbx : bNo n1 x = true) : Met l yX12_isNoVersion wsX12_isNoVersion ({ frames := 6, cells := 0, slots := 0, locals := 160 }) (va_Pc [.ref (ma 0 0), .int x, .int f] (mI D ty A u C ma t0 mi)) (vp_Si (fun v_ => v_ = bI true)) 0 0 (fun _ => False) := by
  refine zMet (cc := cX12_isNoVersion) (maxL := 3) (ret := (some .boolean)) (by decide) rfl (Nat.le_of_ble_eq_true rfl) ?_
  intro p e s m below meth c hx hb hr hts hown hlocks hml hB ls hl
  obtain ⟨hM, hK, hMS⟩ := hB
  have hS : va_S A s.heap s.heap [] := va_S.rf
  have hbn := hR.I.b1
  have hbs := hR.I.b2
  have hbl := hR.I.bL
  have hbc := hR.I.b4
  have hbr := hR.I.b5
  have hl : lv_has ls 3 [(0, .ref (ma 0 0)), (1, .int x), (2, .int f)] := hl
  refine lv_aload_n hx hb dX12_isNoVersion_0 rfl (lv_at hl 0 rfl) ?_
  refine lv_iload_n hx hb dX12_isNoVersion_1 rfl (lv_at hl 1 rfl) ?_
  refine zcVi (As := [.int x]) (rest := []) ⟨hx, hb, hml, hown, hts⟩ (c_X12_isNo l D ty A u C ma t0 mi g n1 n2 nL n4 n5 th rep bro hR x) (cwV 1 hts gX12_isNoVersion_X12_isNo rfl rfl rfl (by decide +kernel) ⟨Nat.le_of_ble_eq_true rfl, Nat.le_of_ble_eq_true rfl⟩) mI_blind (mI_pre hM hK hMS hS) (va_recv hK (hM.Pa hR.o.1 rfl hR.o.2) (ci := 13) (q0 := 0) rfl rfl) rfl hl.1 rfl (Nat.le_of_ble_eq_true rfl) dX12_isNoVersion_2 ⟨Nat.le_of_ble_eq_true rfl, Nat.le_of_ble_eq_true rfl⟩ (fun r_1 hr_1 => ?_)
  subst hr_1
  refine zeq (show bI _ = bI true from by rw [hbx]) ?_
  refine lv_if_ne (tgt := 30) hx hb dX12_isNoVersion_5 (by decide) (fun c_2 => ?_) (fun c_2 => ?_)
  · have c_2 := bI_t c_2
    refine lv_iconst (v := nI 1) hx hb dX12_isNoVersion_30 (by decide) ?_
    refine lv_goto (tgt := 35) hx hb dX12_isNoVersion_31 (by decide) ?_
    exact W.zret (v := nI 1) hx hb hr rfl (fun t ht hW => ⟨_, rfl, rfl, ht⟩) (fun _ h => nomatch h) dX12_isNoVersion_35
  · have c_2 := bI_f c_2
    cases c_2
set_option maxHeartbeats 400000 in
set_option maxRecDepth 100000 in
theorem c_X12_isNoVersion_b (l : Launch) (D : va_G) (ty : Nat → ClassId) (A : Nat → Prop) (u : Nat → Nat → Prop) (C : Nat → Nat → va_E) (ma : Nat → Nat → Nat) (t0 mi : Nat) (g : Nat → Nat → Int32) (n1 n2 nL n4 n5 : Nat) (th : Int32) (rep bro : Nat → Nat → Int32) (hR : mR ty t0 g n1 n2 nL n4 n5 th rep bro u C ma) (i : Nat) (hi : i < n1) (f : Int32) : Met l yX12_isNoVersion wsX12_isNoVersion ({ frames := 6, cells := 0, slots := 0, locals := 160 }) (va_Pc [.ref (ma 0 0), .int (nI i), .int f] (mI D ty A u C ma t0 mi)) (vp_Si (fun v_ => v_ = bI (!inB f (nI 0) (nI (nV g i) - nI 1)))) 0 0 (fun _ => False) := by
  refine zMet (cc := cX12_isNoVersion) (maxL := 3) (ret := (some .boolean)) (by decide) rfl (Nat.le_of_ble_eq_true rfl) ?_
  intro p e s m below meth c hx hb hr hts hown hlocks hml hB ls hl
  obtain ⟨hM, hK, hMS⟩ := hB
  have hS : va_S A s.heap s.heap [] := va_S.rf
  have hbn := hR.I.b1
  have hbs := hR.I.b2
  have hbl := hR.I.bL
  have hbc := hR.I.b4
  have hbr := hR.I.b5
  have hl : lv_has ls 3 [(0, .ref (ma 0 0)), (1, .int (nI i)), (2, .int f)] := hl
  have hinX12 : ∀ w ∈ wsX120, w ∈ wsX12_isNoVersion := by decide +kernel
  have hk1 := hts (.fieldLink RX12 10 "DatamarketDeskModel" "sets" "Ljava/util/ArrayList;") (by decide +kernel)
  have hk2 := hts (.classLink RX12 49 "DatamarketDeskModel$DataSet") (by decide +kernel)
  refine lv_aload_n hx hb dX12_isNoVersion_0 rfl (lv_at hl 0 rfl) ?_
  refine lv_iload_n hx hb dX12_isNoVersion_1 rfl (lv_at hl 1 rfl) ?_
  refine zcVi (As := [.int (nI i)]) (rest := []) ⟨hx, hb, hml, hown, hts⟩ (c_X12_isNo l D ty A u C ma t0 mi g n1 n2 nL n4 n5 th rep bro hR (nI i)) (cwV 1 hts gX12_isNoVersion_X12_isNo rfl rfl rfl (by decide +kernel) ⟨Nat.le_of_ble_eq_true rfl, Nat.le_of_ble_eq_true rfl⟩) mI_blind (mI_pre hM hK hMS hS) (va_recv hK (hM.Pa hR.o.1 rfl hR.o.2) (ci := 13) (q0 := 0) rfl rfl) rfl hl.1 rfl (Nat.le_of_ble_eq_true rfl) dX12_isNoVersion_2 ⟨Nat.le_of_ble_eq_true rfl, Nat.le_of_ble_eq_true rfl⟩ (fun r_1 hr_1 => ?_)
  subst hr_1
  refine zeq (show bI _ = bI false from by rw [bNo_ok hR.I.b1 hi]) ?_
  refine lv_if_ne (tgt := 30) hx hb dX12_isNoVersion_5 (by decide) (fun c_2 => ?_) (fun c_2 => ?_)
  · have c_2 := bI_t c_2
    cases c_2
  · have c_2 := bI_f c_2
    refine lv_iload_n hx hb dX12_isNoVersion_8 rfl (lv_at hl 2 rfl) ?_
    refine lv_iconst (v := nI 0) hx hb dX12_isNoVersion_9 (by decide) ?_
    refine lv_aload_n hx hb dX12_isNoVersion_10 rfl (lv_at hl 0 rfl) ?_
    refine va_get hx hb hts hinX12 hown hK (hM.Pa hR.o.1 rfl hR.o.2) 0 rfl rfl 1 (by decide) (hk1) (fun _ h9 => h9) rfl dX12_isNoVersion_11 ?_
    refine lv_iload_n hx hb dX12_isNoVersion_14 rfl (lv_at hl 1 rfl) ?_
    obtain ⟨huz_3, hnz_3, mz_3, bz_3, hCz_3⟩ := isL.hd hR.l1
    refine zcVr (x := .ref (ma 9 i)) (As := [.int (nI i)]) (rest := [.int (nI 0), .int f]) ⟨hx, hb, hml, hown, hts⟩ (c_get l D ty A u C ma t0 mi 1 0 n1 (ma 9) hR.l1 i (by omega)) (cwV 1 hts gX12_isNoVersion_Jx4a65c_get_915e3 rfl rfl rfl (by decide +kernel) ⟨Nat.le_of_ble_eq_true rfl, Nat.le_of_ble_eq_true rfl⟩) mI_blind (mI_pre hM hK hMS hS) (va_recv hK (hM.Pa huz_3 rfl hCz_3) (ci := 0) (q0 := 0) rfl rfl) rfl hl.1 rfl (Nat.le_of_ble_eq_true rfl) dX12_isNoVersion_15 ⟨Nat.le_of_ble_eq_true rfl, Nat.le_of_ble_eq_true rfl⟩ ?_
    refine va_castS hx hb hown (hk2) ((hK.1 8 _ rfl).2) (va_recv hK (hM.Pa (hR.s9 (i := i) (by omega)).1 rfl (hR.s9 (i := i) (by omega)).2) (ci := 8) (q0 := 0) rfl rfl) dX12_isNoVersion_18 ?_
    refine zcVi (As := []) (rest := [.int (nI 0), .int f]) ⟨hx, hb, hml, hown, hts⟩ (c_X7_latest l D ty A u C ma t0 mi g n1 n2 nL n4 n5 th rep bro hR i (by omega)) (cwV 0 hts gX12_isNoVersion_X7_latest rfl rfl rfl (by decide +kernel) ⟨Nat.le_of_ble_eq_true rfl, Nat.le_of_ble_eq_true rfl⟩) mI_blind (mI_pre hM hK hMS hS) (va_recv hK (hM.Pa (hR.s9 (i := i) (by omega)).1 rfl (hR.s9 (i := i) (by omega)).2) (ci := 8) (q0 := 0) rfl rfl) rfl hl.1 rfl (Nat.le_of_ble_eq_true rfl) dX12_isNoVersion_21 ⟨Nat.le_of_ble_eq_true rfl, Nat.le_of_ble_eq_true rfl⟩ (fun r_5 hr_5 => ?_)
    subst hr_5
    refine zcSi (As := [.int f, .int (nI 0), .int (nI (nV g i) - nI 1)]) (rest := []) ⟨hx, hb, hml, hown, hts⟩ (c_X12_isIn l _ f (nI 0) (nI (nV g i) - nI 1)) (cwS 3 hts gX12_isNoVersion_X12_isIn rfl rfl rfl (by decide +kernel) ⟨Nat.le_of_ble_eq_true rfl, Nat.le_of_ble_eq_true rfl⟩) (B := fun _ => True) (fun _ _ _ _ _ => trivial) (fun _ _ _ => trivial) rfl hl.1 rfl (Nat.le_of_ble_eq_true rfl) dX12_isNoVersion_24 ⟨Nat.le_of_ble_eq_true rfl, Nat.le_of_ble_eq_true rfl⟩ (fun r_6 hr_6 => ?_)
    subst hr_6
    refine lv_if_ne (tgt := 34) hx hb dX12_isNoVersion_27 (by decide) (fun c_7 => ?_) (fun c_7 => ?_)
    · have c_7 := bI_t c_7
      refine lv_iconst (v := nI 0) hx hb dX12_isNoVersion_34 (by decide) ?_
      exact W.zret (v := nI 0) hx hb hr rfl (fun t ht hW => ⟨_, rfl, bI_n0 (by simp only [Bool.not_true, Bool.not_false, c_7]), ht⟩) (fun _ h => nomatch h) dX12_isNoVersion_35
    · have c_7 := bI_f c_7
      refine lv_iconst (v := nI 1) hx hb dX12_isNoVersion_30 (by decide) ?_
      refine lv_goto (tgt := 35) hx hb dX12_isNoVersion_31 (by decide) ?_
      exact W.zret (v := nI 1) hx hb hr rfl (fun t ht hW => ⟨_, rfl, bI_n1 (by simp only [Bool.not_true, Bool.not_false, c_7]), ht⟩) (fun _ h => nomatch h) dX12_isNoVersion_35
set_option maxHeartbeats 4000000 in
theorem c_X12_isNoVersion (l : Launch) (D : va_G) (ty : Nat → ClassId) (A : Nat → Prop) (u : Nat → Nat → Prop) (C : Nat → Nat → va_E) (ma : Nat → Nat → Nat) (t0 mi : Nat) (g : Nat → Nat → Int32) (n1 n2 nL n4 n5 : Nat) (th : Int32) (rep bro : Nat → Nat → Int32) (hR : mR ty t0 g n1 n2 nL n4 n5 th rep bro u C ma) (x : Int32) (f : Int32) : Met l yX12_isNoVersion wsX12_isNoVersion ({ frames := 6, cells := 0, slots := 0, locals := 160 }) (va_Pc [.ref (ma 0 0), .int x, .int f] (mI D ty A u C ma t0 mi)) (vp_Si (fun v_ => v_ = bI (bVer g n1 x f))) 0 0 (fun _ => False) := by
  by_cases hbx : bNo n1 x = true
  · have e9 : bVer g n1 x f = true := by unfold bVer; rw [hbx]; rfl
    rw [e9]; exact c_X12_isNoVersion_a l D ty A u C ma t0 mi g n1 n2 nL n4 n5 th rep bro hR x f hbx
  · obtain ⟨i, hi, rfl⟩ := bNo_f hR.I.b1 hbx
    have e9 : bVer g n1 (nI i) f = (!inB f (nI 0) (nI (nV g i) - nI 1)) := by unfold bVer; rw [bNo_ok hR.I.b1 hi, (show cn (nI i) = i from cn_nI (by have := hR.I.b1; omega))]; rfl
    rw [e9]; exact c_X12_isNoVersion_b l D ty A u C ma t0 mi g n1 n2 nL n4 n5 th rep bro hR i hi f
set_option maxHeartbeats 400000 in
set_option maxRecDepth 100000 in
theorem c_X12_isNoValue (l : Launch) (D : va_G) (ty : Nat → ClassId) (A : Nat → Prop) (u : Nat → Nat → Prop) (C : Nat → Nat → va_E) (ma : Nat → Nat → Nat) (t0 mi : Nat) (g : Nat → Nat → Int32) (n1 n2 nL n4 n5 : Nat) (th : Int32) (rep bro : Nat → Nat → Int32) (hR : mR ty t0 g n1 n2 nL n4 n5 th rep bro u C ma) (x v f : Int32) : Met l yX12_isNoValue wsX12_isNoValue ({ frames := 7, cells := 0, slots := 0, locals := 182 }) (va_Pc [.ref (ma 0 0), .int x, .int v, .int f] (mI D ty A u C ma t0 mi)) (vp_Si (fun v_ => v_ = bI (bVal g n1 x v f))) 0 0 (fun _ => False) := by
  refine zMet (cc := cX12_isNoValue) (maxL := 4) (ret := (some .boolean)) (by decide) rfl (Nat.le_of_ble_eq_true rfl) ?_
  intro p e s m below meth c hx hb hr hts hown hlocks hml hB ls hl
  obtain ⟨hM, hK, hMS⟩ := hB
  have hS : va_S A s.heap s.heap [] := va_S.rf
  have hbn := hR.I.b1
  have hbs := hR.I.b2
  have hbl := hR.I.bL
  have hbc := hR.I.b4
  have hbr := hR.I.b5
  have hl : lv_has ls 4 [(0, .ref (ma 0 0)), (1, .int x), (2, .int v), (3, .int f)] := hl
  refine lv_aload_n hx hb dX12_isNoValue_0 rfl (lv_at hl 0 rfl) ?_
  refine lv_iload_n hx hb dX12_isNoValue_1 rfl (lv_at hl 1 rfl) ?_
  refine lv_iload_n hx hb dX12_isNoValue_2 rfl (lv_at hl 3 rfl) ?_
  refine zcVi (As := [.int x, .int f]) (rest := []) ⟨hx, hb, hml, hown, hts⟩ (c_X12_isNoField l D ty A u C ma t0 mi g n1 n2 nL n4 n5 th rep bro hR x f) (cwV 2 hts gX12_isNoValue_X12_isNoField rfl rfl rfl (by decide +kernel) ⟨Nat.le_of_ble_eq_true rfl, Nat.le_of_ble_eq_true rfl⟩) mI_blind (mI_pre hM hK hMS hS) (va_recv hK (hM.Pa hR.o.1 rfl hR.o.2) (ci := 13) (q0 := 0) rfl rfl) rfl hl.1 rfl (Nat.le_of_ble_eq_true rfl) dX12_isNoValue_3 ⟨Nat.le_of_ble_eq_true rfl, Nat.le_of_ble_eq_true rfl⟩ (fun r_1 hr_1 => ?_)
  subst hr_1
  refine lv_if_ne (tgt := 18) hx hb dX12_isNoValue_6 (by decide) (fun c_2 => ?_) (fun c_2 => ?_)
  · have c_2 := bI_t c_2
    refine lv_iconst (v := nI 1) hx hb dX12_isNoValue_18 (by decide) ?_
    refine lv_goto (tgt := 23) hx hb dX12_isNoValue_19 (by decide) ?_
    exact W.zret (v := nI 1) hx hb hr rfl (fun t ht hW => ⟨_, rfl, bI_n1 (by simp only [bVal, c_2, Bool.not_true, Bool.not_false, Bool.and_true, Bool.true_and, Bool.and_false, Bool.false_and, Bool.or_true, Bool.true_or, Bool.or_false, Bool.false_or, Bool.and_self, Bool.or_self]), ht⟩) (fun _ h => nomatch h) dX12_isNoValue_23
  · have c_2 := bI_f c_2
    refine lv_aload_n hx hb dX12_isNoValue_9 rfl (lv_at hl 0 rfl) ?_
    refine lv_iload_n hx hb dX12_isNoValue_10 rfl (lv_at hl 1 rfl) ?_
    refine lv_iload_n hx hb dX12_isNoValue_11 rfl (lv_at hl 2 rfl) ?_
    refine zcVi (As := [.int x, .int v]) (rest := []) ⟨hx, hb, hml, hown, hts⟩ (c_X12_isNoVersion l D ty A u C ma t0 mi g n1 n2 nL n4 n5 th rep bro hR x v) (cwV 2 hts gX12_isNoValue_X12_isNoVersion rfl rfl rfl (by decide +kernel) ⟨Nat.le_of_ble_eq_true rfl, Nat.le_of_ble_eq_true rfl⟩) mI_blind (mI_pre hM hK hMS hS) (va_recv hK (hM.Pa hR.o.1 rfl hR.o.2) (ci := 13) (q0 := 0) rfl rfl) rfl hl.1 rfl (Nat.le_of_ble_eq_true rfl) dX12_isNoValue_12 ⟨Nat.le_of_ble_eq_true rfl, Nat.le_of_ble_eq_true rfl⟩ (fun r_3 hr_3 => ?_)
    subst hr_3
    refine lv_if_eq (tgt := 22) hx hb dX12_isNoValue_15 (by decide) (fun c_4 => ?_) (fun c_4 => ?_)
    · have c_4 := bI_f c_4
      refine lv_iconst (v := nI 0) hx hb dX12_isNoValue_22 (by decide) ?_
      exact W.zret (v := nI 0) hx hb hr rfl (fun t ht hW => ⟨_, rfl, bI_n0 (by simp only [bVal, c_2, c_4, Bool.not_true, Bool.not_false, Bool.and_true, Bool.true_and, Bool.and_false, Bool.false_and, Bool.or_true, Bool.true_or, Bool.or_false, Bool.false_or, Bool.and_self, Bool.or_self]), ht⟩) (fun _ h => nomatch h) dX12_isNoValue_23
    · have c_4 := bI_t c_4
      refine lv_iconst (v := nI 1) hx hb dX12_isNoValue_18 (by decide) ?_
      refine lv_goto (tgt := 23) hx hb dX12_isNoValue_19 (by decide) ?_
      exact W.zret (v := nI 1) hx hb hr rfl (fun t ht hW => ⟨_, rfl, bI_n1 (by simp only [bVal, c_2, c_4, Bool.not_true, Bool.not_false, Bool.and_true, Bool.true_and, Bool.and_false, Bool.false_and, Bool.or_true, Bool.true_or, Bool.or_false, Bool.false_or, Bool.and_self, Bool.or_self]), ht⟩) (fun _ h => nomatch h) dX12_isNoValue_23
set_option maxHeartbeats 400000 in
set_option maxRecDepth 100000 in
theorem c_X12_isNoFields (l : Launch) (D : va_G) (ty : Nat → ClassId) (A : Nat → Prop) (u : Nat → Nat → Prop) (C : Nat → Nat → va_E) (ma : Nat → Nat → Nat) (t0 mi : Nat) (g : Nat → Nat → Int32) (n1 n2 nL n4 n5 : Nat) (th : Int32) (rep bro : Nat → Nat → Int32) (hR : mR ty t0 g n1 n2 nL n4 n5 th rep bro u C ma) (i : Nat) (hi : i < n1) (F : Int32) : Met l yX12_isNoFields wsX12_isNoFields ({ frames := 3, cells := 0, slots := 0, locals := 64 }) (va_Pc [.ref (ma 0 0), .int (nI i), .int F] (mI D ty A u C ma t0 mi)) (vp_Si (fun v_ => v_ = bI (bFds g i F))) 0 0 (fun _ => False) := by
  refine zMet (cc := cX12_isNoFields) (maxL := 3) (ret := (some .boolean)) (by decide) rfl (Nat.le_of_ble_eq_true rfl) ?_
  intro p e s m below meth c hx hb hr hts hown hlocks hml hB ls hl
  obtain ⟨hM, hK, hMS⟩ := hB
  have hS : va_S A s.heap s.heap [] := va_S.rf
  have hbn := hR.I.b1
  have hbs := hR.I.b2
  have hbl := hR.I.bL
  have hbc := hR.I.b4
  have hbr := hR.I.b5
  have hl : lv_has ls 3 [(0, .ref (ma 0 0)), (1, .int (nI i)), (2, .int F)] := hl
  have hinX12 : ∀ w ∈ wsX120, w ∈ wsX12_isNoFields := by decide +kernel
  have hk1 := hts (.fieldLink RX12 10 "DatamarketDeskModel" "sets" "Ljava/util/ArrayList;") (by decide +kernel)
  have hk2 := hts (.classLink RX12 49 "DatamarketDeskModel$DataSet") (by decide +kernel)
  refine lv_iload_n hx hb dX12_isNoFields_0 rfl (lv_at hl 2 rfl) ?_
  refine lv_iconst (v := nI 1) hx hb dX12_isNoFields_1 (by decide) ?_
  refine lv_icmp_lt (tgt := 23) hx hb dX12_isNoFields_2 (by decide) (fun c_1 => ?_) (fun c_1 => ?_)
  · refine lv_iconst (v := nI 1) hx hb dX12_isNoFields_23 (by decide) ?_
    refine lv_goto (tgt := 28) hx hb dX12_isNoFields_24 (by decide) ?_
    exact W.zret (v := nI 1) hx hb hr rfl (fun t ht hW => ⟨_, rfl, bI_n1 (by simp only [bFds, decide_eq_true c_1, Bool.not_true, Bool.not_false, Bool.and_true, Bool.true_and, Bool.and_false, Bool.false_and, Bool.or_true, Bool.true_or, Bool.or_false, Bool.false_or, Bool.and_self, Bool.or_self]), ht⟩) (fun _ h => nomatch h) dX12_isNoFields_28
  · refine lv_iload_n hx hb dX12_isNoFields_5 rfl (lv_at hl 2 rfl) ?_
    refine lv_aload_n hx hb dX12_isNoFields_6 rfl (lv_at hl 0 rfl) ?_
    refine va_get hx hb hts hinX12 hown hK (hM.Pa hR.o.1 rfl hR.o.2) 0 rfl rfl 1 (by decide) (hk1) (fun _ h9 => h9) rfl dX12_isNoFields_7 ?_
    refine lv_iload_n hx hb dX12_isNoFields_10 rfl (lv_at hl 1 rfl) ?_
    obtain ⟨huz_2, hnz_2, mz_2, bz_2, hCz_2⟩ := isL.hd hR.l1
    refine zcVr (x := .ref (ma 9 i)) (As := [.int (nI i)]) (rest := [.int F]) ⟨hx, hb, hml, hown, hts⟩ (c_get l D ty A u C ma t0 mi 1 0 n1 (ma 9) hR.l1 i (by omega)) (cwV 1 hts gX12_isNoFields_Jx4a65c_get_915e3 rfl rfl rfl (by decide +kernel) ⟨Nat.le_of_ble_eq_true rfl, Nat.le_of_ble_eq_true rfl⟩) mI_blind (mI_pre hM hK hMS hS) (va_recv hK (hM.Pa huz_2 rfl hCz_2) (ci := 0) (q0 := 0) rfl rfl) rfl hl.1 rfl (Nat.le_of_ble_eq_true rfl) dX12_isNoFields_11 ⟨Nat.le_of_ble_eq_true rfl, Nat.le_of_ble_eq_true rfl⟩ ?_
    refine va_castS hx hb hown (hk2) ((hK.1 8 _ rfl).2) (va_recv hK (hM.Pa (hR.s9 (i := i) (by omega)).1 rfl (hR.s9 (i := i) (by omega)).2) (ci := 8) (q0 := 0) rfl rfl) dX12_isNoFields_14 ?_
    refine zcVi (As := []) (rest := [.int F]) ⟨hx, hb, hml, hown, hts⟩ (c_X7_all l D ty A u C ma t0 mi g n1 n2 nL n4 n5 th rep bro hR i (by omega)) (cwV 0 hts gX12_isNoFields_X7_all rfl rfl rfl (by decide +kernel) ⟨Nat.le_of_ble_eq_true rfl, Nat.le_of_ble_eq_true rfl⟩) mI_blind (mI_pre hM hK hMS hS) (va_recv hK (hM.Pa (hR.s9 (i := i) (by omega)).1 rfl (hR.s9 (i := i) (by omega)).2) (ci := 8) (q0 := 0) rfl rfl) rfl hl.1 rfl (Nat.le_of_ble_eq_true rfl) dX12_isNoFields_17 ⟨Nat.le_of_ble_eq_true rfl, Nat.le_of_ble_eq_true rfl⟩ (fun r_4 hr_4 => ?_)
    subst hr_4
    refine lv_icmp_le (tgt := 27) hx hb dX12_isNoFields_20 (by decide) (fun c_5 => ?_) (fun c_5 => ?_)
    · have c_5 : ¬ allF g i < F := Int32.not_lt.mpr c_5
      refine lv_iconst (v := nI 0) hx hb dX12_isNoFields_27 (by decide) ?_
      exact W.zret (v := nI 0) hx hb hr rfl (fun t ht hW => ⟨_, rfl, bI_n0 (by simp only [bFds, decide_eq_false c_1, decide_eq_false c_5, Bool.not_true, Bool.not_false, Bool.and_true, Bool.true_and, Bool.and_false, Bool.false_and, Bool.or_true, Bool.true_or, Bool.or_false, Bool.false_or, Bool.and_self, Bool.or_self]), ht⟩) (fun _ h => nomatch h) dX12_isNoFields_28
    · have c_5 : allF g i < F := Int32.not_le.mp c_5
      refine lv_iconst (v := nI 1) hx hb dX12_isNoFields_23 (by decide) ?_
      refine lv_goto (tgt := 28) hx hb dX12_isNoFields_24 (by decide) ?_
      exact W.zret (v := nI 1) hx hb hr rfl (fun t ht hW => ⟨_, rfl, bI_n1 (by simp only [bFds, decide_eq_false c_1, decide_eq_true c_5, Bool.not_true, Bool.not_false, Bool.and_true, Bool.true_and, Bool.and_false, Bool.false_and, Bool.or_true, Bool.true_or, Bool.or_false, Bool.false_or, Bool.and_self, Bool.or_self]), ht⟩) (fun _ h => nomatch h) dX12_isNoFields_28
