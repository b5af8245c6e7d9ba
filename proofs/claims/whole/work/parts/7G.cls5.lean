set_option maxHeartbeats 4000000 in
set_option maxRecDepth 100000 in
theorem c_X4_hasSet_n (l : Launch) (D : va_G) (ty : Nat → ClassId) (g : Nat → Nat → Int32) (ad : Nat → Nat) (n1 n2 nL n4 n5 : Nat) (hI : dI g n1 n2 nL n4 n5) (x : Int32) (h : x < 0 ∨ nI n1 ≤ x) : Met l yX4_hasSet wsX4_hasSet ({ frames := 0, cells := 0, slots := 0, locals := 0 }) (va_Pc [.ref (ad 1), .int x] (zI D ty g ad)) (vp_Si (fun v => v = bI false)) 0 0 (fun _ => False) := by
  refine zMet (cc := cX4_hasSet) (maxL := 2) (ret := (some .boolean)) (by decide) rfl (Nat.le_of_ble_eq_true rfl) ?_
  intro p e s m below meth c hx hb hr hts hown hlocks hml hB ls hl
  obtain ⟨hP, hK, hN⟩ := hB
  obtain ⟨⟨hn1, hn1b⟩, h78, ⟨hn2, hn2b⟩, h12, ⟨hnL, hnLb⟩, h15, ⟨hn4, hn4b⟩, ⟨hn5, hn5b⟩, hrd5, hd0⟩ := id hI
  have hl : lv_has ls 2 [(0, .ref (ad 1)), (1, .int x)] := hl
  have hk0 := hts (.fieldLink RX4 9 "DatamarketDesk$Shelf" "setCount" "I") (by decide +kernel)
  have hinX4 : ∀ w ∈ wsX40, w ∈ wsX4_hasSet := by decide +kernel
  refine lv_iload_n hx hb dX4_hasSet_0 rfl (lv_at hl 1 rfl) ?_
  refine lv_if_lt (tgt := 16) hx hb dX4_hasSet_1 (by decide) (fun c_1 => ?_) (fun c_1 => ?_)
  · refine lv_iconst (v := nI 0) hx hb dX4_hasSet_16 (by decide) ?_
    exact W.zret (v := nI 0) hx hb hr rfl (fun t ht hW => ⟨_, rfl, rfl, ht⟩) (fun _ h => nomatch h) dX4_hasSet_17
  · refine lv_iload_n hx hb dX4_hasSet_4 rfl (lv_at hl 1 rfl) ?_
    refine lv_aload_n hx hb dX4_hasSet_5 rfl (lv_at hl 0 rfl) ?_
    refine va_get hx hb hts hinX4 hown hK hP 1 rfl rfl 0 (by decide) (hk0) (fun _ h9 => h9) rfl dX4_hasSet_6 ?_
    refine zeq hn1 ?_
    refine lv_icmp_ge (tgt := 16) hx hb dX4_hasSet_9 (by decide) (fun c_2 => ?_) (fun c_2 => ?_)
    · refine lv_iconst (v := nI 0) hx hb dX4_hasSet_16 (by decide) ?_
      exact W.zret (v := nI 0) hx hb hr rfl (fun t ht hW => ⟨_, rfl, rfl, ht⟩) (fun _ h => nomatch h) dX4_hasSet_17
    · exact h.elim (fun q => absurd q c_1) (fun q => absurd q c_2)
set_option maxHeartbeats 4000000 in
set_option maxRecDepth 100000 in
theorem c_X5_needSet_x (l : Launch) (hlt : l.stackTraces = false) (D : va_G) (ty : Nat → ClassId) (g : Nat → Nat → Int32) (ad : Nat → Nat) (n1 n2 nL n4 n5 : Nat) (hI : dI g n1 n2 nL n4 n5) (x : Int32) (h : x < 0 ∨ nI n1 ≤ x) : vx_Met l yX5_needSet wsX5_needSet ({ frames := 6, cells := 1, slots := 6, locals := 90 }) (va_Pc [.ref (ad 0), .int x] (zX D ty g ad)) zno (zXC "java/lang/IndexOutOfBoundsException") 1 6 (fun _ => False) := by
  refine zXMet (cc := cX5_needSet) (maxL := 2) (ret := none) (by decide) rfl (Nat.le_of_ble_eq_true rfl) ?_
  intro p e s m below meth c hx hb hr hts hown hlocks hml hno hB ls hl
  obtain ⟨⟨hP, hK, hN⟩, hQ, hT⟩ := hB
  obtain ⟨⟨hn1, hn1b⟩, h78, ⟨hn2, hn2b⟩, h12, ⟨hnL, hnLb⟩, h15, ⟨hn4, hn4b⟩, ⟨hn5, hn5b⟩, hrd5, hd0⟩ := id hI
  have hl : lv_has ls 2 [(0, .ref (ad 0)), (1, .int x)] := hl
  have hk0 := hts (.fieldLink RX5 12 "DatamarketDesk" "shelf" "LDatamarketDesk$Shelf;") (by decide +kernel)
  have hinX5 : ∀ w ∈ wsX50, w ∈ wsX5_needSet := by decide +kernel
  refine lv_aload_n hx hb dX5_needSet_0 rfl (lv_at hl 0 rfl) ?_
  refine va_get hx hb hts hinX5 hown hK hP 0 rfl rfl 0 (by decide) (hk0) (fun _ h9 => h9) rfl dX5_needSet_1 ?_
  refine lv_iload_n hx hb dX5_needSet_4 rfl (lv_at hl 1 rfl) ?_
  refine zcVi (As := [.int x]) (rest := []) ⟨hx, hb, hml, hown, hts⟩ (c_X4_hasSet_n l D ty g ad n1 n2 nL n4 n5 hI x h) (cwV 1 hts gX5_needSet_X4_hasSet rfl rfl rfl (by decide +kernel) ⟨Nat.le_of_ble_eq_true rfl, Nat.le_of_ble_eq_true rfl⟩) zI_blind (zI_pre hP hK hN) (va_recv hK hP (ci := 5) (q0 := 1) rfl rfl) rfl hl.1 rfl (Nat.le_of_ble_eq_true rfl) dX5_needSet_5 ⟨Nat.le_of_ble_eq_true rfl, Nat.le_of_ble_eq_true rfl⟩ (fun r_1 hr_1 => ?_)
  subst hr_1
  refine lv_if_ne (tgt := 22) hx hb dX5_needSet_8 (by decide) (fun c_2 => ?_) (fun c_2 => ?_)
  · have c_2 := bI_t c_2
    cases c_2
  · have c_2 := bI_f c_2
    exact zthrW (text := "no such set") (E0 := "java/lang/IndexOutOfBoundsException") (own := RX5) hx hb hlt hown hts hno hlocks hml hN hQ hT rfl zfit_B (by decide +kernel) (by decide +kernel) (by decide +kernel) zbad_B zgood_B (by decide +kernel) hl.1 dX5_needSet_11 dX5_needSet_14 dX5_needSet_15 dX5_needSet_18 dX5_needSet_21 (Nat.le_of_ble_eq_true rfl) (Nat.le_of_ble_eq_true rfl) (Nat.le_of_ble_eq_true rfl) (Nat.le_of_ble_eq_true rfl)
set_option maxHeartbeats 4000000 in
set_option maxRecDepth 100000 in
theorem c_X5_needField_x1 (l : Launch) (hlt : l.stackTraces = false) (D : va_G) (ty : Nat → ClassId) (g : Nat → Nat → Int32) (ad : Nat → Nat) (n1 n2 nL n4 n5 : Nat) (hI : dI g n1 n2 nL n4 n5) (x f : Int32) (h : x < 0 ∨ nI n1 ≤ x) : vx_Met l yX5_needField wsX5_needField ({ frames := 7, cells := 1, slots := 6, locals := 111 }) (va_Pc [.ref (ad 0), .int x, .int f] (zX D ty g ad)) zno (zXC "java/lang/IndexOutOfBoundsException") 1 6 (fun _ => False) := by
  refine zXMet (cc := cX5_needField) (maxL := 3) (ret := none) (by decide) rfl (Nat.le_of_ble_eq_true rfl) ?_
  intro p e s m below meth c hx hb hr hts hown hlocks hml hno hB ls hl
  obtain ⟨⟨hP, hK, hN⟩, hQ, hT⟩ := hB
  obtain ⟨⟨hn1, hn1b⟩, h78, ⟨hn2, hn2b⟩, h12, ⟨hnL, hnLb⟩, h15, ⟨hn4, hn4b⟩, ⟨hn5, hn5b⟩, hrd5, hd0⟩ := id hI
  have hl : lv_has ls 3 [(0, .ref (ad 0)), (1, .int x), (2, .int f)] := hl
  refine lv_aload_n hx hb dX5_needField_0 rfl (lv_at hl 0 rfl) ?_
  refine lv_iload_n hx hb dX5_needField_1 rfl (lv_at hl 1 rfl) ?_
  exact zxV (As := [.int x]) (rest := []) ⟨hx, hb, hml, hown, hts⟩ hno hlocks (c_X5_needSet_x l hlt D ty g ad n1 n2 nL n4 n5 hI x h) (cwV 1 hts gX5_needField_X5_needSet rfl rfl rfl (by decide +kernel) ⟨Nat.le_of_ble_eq_true rfl, Nat.le_of_ble_eq_true rfl⟩) zX_blind (zX_pre hP hK hN hQ hT) (va_recv hK hP (ci := 6) (q0 := 0) rfl rfl) rfl hl.1 rfl (Nat.le_of_ble_eq_true rfl) dX5_needField_2 ⟨Nat.le_of_ble_eq_true rfl, Nat.le_of_ble_eq_true rfl⟩
set_option maxHeartbeats 4000000 in
set_option maxRecDepth 100000 in
theorem c_X5_needField_x2 (l : Launch) (hlt : l.stackTraces = false) (D : va_G) (ty : Nat → ClassId) (g : Nat → Nat → Int32) (ad : Nat → Nat) (n1 n2 nL n4 n5 : Nat) (hI : dI g n1 n2 nL n4 n5) (i : Nat) (f : Int32) (hi : i < n1) (h : f < 0 ∨ nI (nF g i) ≤ f) : vx_Met l yX5_needField wsX5_needField ({ frames := 7, cells := 1, slots := 6, locals := 111 }) (va_Pc [.ref (ad 0), .int (nI i), .int f] (zX D ty g ad)) zno (zXC "java/lang/IndexOutOfBoundsException") 1 6 (fun _ => False) := by
  refine zXMet (cc := cX5_needField) (maxL := 3) (ret := none) (by decide) rfl (Nat.le_of_ble_eq_true rfl) ?_
  intro p e s m below meth c hx hb hr hts hown hlocks hml hno hB ls hl
  obtain ⟨⟨hP, hK, hN⟩, hQ, hT⟩ := hB
  obtain ⟨⟨hn1, hn1b⟩, h78, ⟨hn2, hn2b⟩, h12, ⟨hnL, hnLb⟩, h15, ⟨hn4, hn4b⟩, ⟨hn5, hn5b⟩, hrd5, hd0⟩ := id hI
  have hq7 : nF g i < 7 := (h78 i hi).1.2
  have hq8 : nV g i < 7 := (h78 i hi).2.1.2
  have hl : lv_has ls 3 [(0, .ref (ad 0)), (1, .int (nI i)), (2, .int f)] := hl
  have hk0 := hts (.fieldLink RX5 12 "DatamarketDesk" "shelf" "LDatamarketDesk$Shelf;") (by decide +kernel)
  have hinX5 : ∀ w ∈ wsX50, w ∈ wsX5_needField := by decide +kernel
  have hinX4 : ∀ w ∈ wsX40, w ∈ wsX5_needField := by decide +kernel
  refine lv_aload_n hx hb dX5_needField_0 rfl (lv_at hl 0 rfl) ?_
  refine lv_iload_n hx hb dX5_needField_1 rfl (lv_at hl 1 rfl) ?_
  refine zcVv (As := [.int (nI i)]) (rest := []) ⟨hx, hb, hml, hown, hts⟩ (c_X5_needSet l D ty g ad n1 n2 nL n4 n5 hI i (by omega)) (cwV 1 hts gX5_needField_X5_needSet rfl rfl rfl (by decide +kernel) ⟨Nat.le_of_ble_eq_true rfl, Nat.le_of_ble_eq_true rfl⟩) zI_blind (zI_pre hP hK hN) (va_recv hK hP (ci := 6) (q0 := 0) rfl rfl) rfl hl.1 rfl (Nat.le_of_ble_eq_true rfl) dX5_needField_2 ⟨Nat.le_of_ble_eq_true rfl, Nat.le_of_ble_eq_true rfl⟩ (fun _ => ?_)
  refine lv_iload_n hx hb dX5_needField_5 rfl (lv_at hl 2 rfl) ?_
  refine lv_if_lt (tgt := 22) hx hb dX5_needField_6 (by decide) (fun c_2 => ?_) (fun c_2 => ?_)
  · exact zthrW (text := "no such field") (E0 := "java/lang/IndexOutOfBoundsException") (own := RX5) hx hb hlt hown hts hno hlocks hml hN hQ hT rfl zfit_B (by decide +kernel) (by decide +kernel) (by decide +kernel) zbad_B zgood_B (by decide +kernel) hl.1 dX5_needField_22 dX5_needField_25 dX5_needField_26 dX5_needField_29 dX5_needField_32 (Nat.le_of_ble_eq_true rfl) (Nat.le_of_ble_eq_true rfl) (Nat.le_of_ble_eq_true rfl) (Nat.le_of_ble_eq_true rfl)
  · refine lv_iload_n hx hb dX5_needField_9 rfl (lv_at hl 2 rfl) ?_
    refine lv_aload_n hx hb dX5_needField_10 rfl (lv_at hl 0 rfl) ?_
    refine va_get hx hb hts hinX5 hown hK hP 0 rfl rfl 0 (by decide) (hk0) (fun _ h9 => h9) rfl dX5_needField_11 ?_
    refine va_getN hx hb hts hinX4 hown hK hP 1 rfl rfl 1 (by decide) (zN.use hN (List.mem_of_getElem? (i := 2) rfl)) (fun _ h9 => h9) rfl dX5_needField_14 ?_
    refine lv_iload_n hx hb dX5_needField_17 rfl (lv_at hl 1 rfl) ?_
    refine zald hx hb hK hP 7 0 rfl rfl (i := i) (by omega) (by decide) dX5_needField_18 ?_
    have b_3 : nF g i < 7 := (h78 _ (by omega)).1.2
    refine zeq (show g 7 i = nI (nF g i) from (h78 _ (by omega)).1.1) ?_
    refine lv_icmp_lt (tgt := 33) hx hb dX5_needField_19 (by decide) (fun c_4 => ?_) (fun c_4 => ?_)
    · exfalso; rcases h with h | h <;> first | exact absurd h (by assumption) | exact absurd (by assumption) (Int32.not_lt.mpr h)
    · exact zthrW (text := "no such field") (E0 := "java/lang/IndexOutOfBoundsException") (own := RX5) hx hb hlt hown hts hno hlocks hml hN hQ hT rfl zfit_B (by decide +kernel) (by decide +kernel) (by decide +kernel) zbad_B zgood_B (by decide +kernel) hl.1 dX5_needField_22 dX5_needField_25 dX5_needField_26 dX5_needField_29 dX5_needField_32 (Nat.le_of_ble_eq_true rfl) (Nat.le_of_ble_eq_true rfl) (Nat.le_of_ble_eq_true rfl) (Nat.le_of_ble_eq_true rfl)
/-- no such set or field -/
def badF (g : Nat → Nat → Int32) (n1 : Nat) (x f : Int32) : Prop := (x < 0 ∨ nI n1 ≤ x) ∨ ∃ i, i < n1 ∧ x = nI i ∧ (f < 0 ∨ nI (nF g i) ≤ f)
def badP (g : Nat → Nat → Int32) (n1 : Nat) (x v f : Int32) : Prop := badF g n1 x f ∨ ∃ i j, i < n1 ∧ x = nI i ∧ j < nF g i ∧ f = nI j ∧ (v < 0 ∨ nI (nV g i) ≤ v)
theorem c_X5_needField_x (l : Launch) (hlt : l.stackTraces = false) (D : va_G) (ty : Nat → ClassId) (g : Nat → Nat → Int32) (ad : Nat → Nat) (n1 n2 nL n4 n5 : Nat) (hI : dI g n1 n2 nL n4 n5) (x f : Int32) (h : badF g n1 x f) : vx_Met l yX5_needField wsX5_needField ({ frames := 7, cells := 1, slots := 6, locals := 111 }) (va_Pc [.ref (ad 0), .int x, .int f] (zX D ty g ad)) zno (zXC "java/lang/IndexOutOfBoundsException") 1 6 (fun _ => False) := by
  rcases h with h | ⟨i, hi, rfl, h⟩
  · exact c_X5_needField_x1 l hlt D ty g ad n1 n2 nL n4 n5 hI x f h
  · exact c_X5_needField_x2 l hlt D ty g ad n1 n2 nL n4 n5 hI i f hi h
set_option maxHeartbeats 4000000 in
set_option maxRecDepth 100000 in
theorem c_X5_needPlace_x1 (l : Launch) (hlt : l.stackTraces = false) (D : va_G) (ty : Nat → ClassId) (g : Nat → Nat → Int32) (ad : Nat → Nat) (n1 n2 nL n4 n5 : Nat) (hI : dI g n1 n2 nL n4 n5) (x v f : Int32) (h : badF g n1 x f) : vx_Met l yX5_needPlace wsX5_needPlace ({ frames := 8, cells := 1, slots := 6, locals := 133 }) (va_Pc [.ref (ad 0), .int x, .int v, .int f] (zX D ty g ad)) zno (zXC "java/lang/IndexOutOfBoundsException") 1 6 (fun _ => False) := by
  refine zXMet (cc := cX5_needPlace) (maxL := 4) (ret := none) (by decide) rfl (Nat.le_of_ble_eq_true rfl) ?_
  intro p e s m below meth c hx hb hr hts hown hlocks hml hno hB ls hl
  obtain ⟨⟨hP, hK, hN⟩, hQ, hT⟩ := hB
  obtain ⟨⟨hn1, hn1b⟩, h78, ⟨hn2, hn2b⟩, h12, ⟨hnL, hnLb⟩, h15, ⟨hn4, hn4b⟩, ⟨hn5, hn5b⟩, hrd5, hd0⟩ := id hI
  have hl : lv_has ls 4 [(0, .ref (ad 0)), (1, .int x), (2, .int v), (3, .int f)] := hl
  refine lv_aload_n hx hb dX5_needPlace_0 rfl (lv_at hl 0 rfl) ?_
  refine lv_iload_n hx hb dX5_needPlace_1 rfl (lv_at hl 1 rfl) ?_
  refine lv_iload_n hx hb dX5_needPlace_2 rfl (lv_at hl 3 rfl) ?_
  exact zxV (As := [.int x, .int f]) (rest := []) ⟨hx, hb, hml, hown, hts⟩ hno hlocks (c_X5_needField_x l hlt D ty g ad n1 n2 nL n4 n5 hI x f h) (cwV 2 hts gX5_needPlace_X5_needField rfl rfl rfl (by decide +kernel) ⟨Nat.le_of_ble_eq_true rfl, Nat.le_of_ble_eq_true rfl⟩) zX_blind (zX_pre hP hK hN hQ hT) (va_recv hK hP (ci := 6) (q0 := 0) rfl rfl) rfl hl.1 rfl (Nat.le_of_ble_eq_true rfl) dX5_needPlace_3 ⟨Nat.le_of_ble_eq_true rfl, Nat.le_of_ble_eq_true rfl⟩
set_option maxHeartbeats 4000000 in
set_option maxRecDepth 100000 in
theorem c_X5_needPlace_x2 (l : Launch) (hlt : l.stackTraces = false) (D : va_G) (ty : Nat → ClassId) (g : Nat → Nat → Int32) (ad : Nat → Nat) (n1 n2 nL n4 n5 : Nat) (hI : dI g n1 n2 nL n4 n5) (i j : Nat) (v : Int32) (hi : i < n1) (hj : j < nF g i) (h : v < 0 ∨ nI (nV g i) ≤ v) : vx_Met l yX5_needPlace wsX5_needPlace ({ frames := 8, cells := 1, slots := 6, locals := 133 }) (va_Pc [.ref (ad 0), .int (nI i), .int v, .int (nI j)] (zX D ty g ad)) zno (zXC "java/lang/IndexOutOfBoundsException") 1 6 (fun _ => False) := by
  refine zXMet (cc := cX5_needPlace) (maxL := 4) (ret := none) (by decide) rfl (Nat.le_of_ble_eq_true rfl) ?_
  intro p e s m below meth c hx hb hr hts hown hlocks hml hno hB ls hl
  obtain ⟨⟨hP, hK, hN⟩, hQ, hT⟩ := hB
  obtain ⟨⟨hn1, hn1b⟩, h78, ⟨hn2, hn2b⟩, h12, ⟨hnL, hnLb⟩, h15, ⟨hn4, hn4b⟩, ⟨hn5, hn5b⟩, hrd5, hd0⟩ := id hI
  have hq7 : nF g i < 7 := (h78 i hi).1.2
  have hq8 : nV g i < 7 := (h78 i hi).2.1.2
  have hl : lv_has ls 4 [(0, .ref (ad 0)), (1, .int (nI i)), (2, .int v), (3, .int (nI j))] := hl
  have hk0 := hts (.fieldLink RX5 12 "DatamarketDesk" "shelf" "LDatamarketDesk$Shelf;") (by decide +kernel)
  have hinX5 : ∀ w ∈ wsX50, w ∈ wsX5_needPlace := by decide +kernel
  have hinX4 : ∀ w ∈ wsX40, w ∈ wsX5_needPlace := by decide +kernel
  refine lv_aload_n hx hb dX5_needPlace_0 rfl (lv_at hl 0 rfl) ?_
  refine lv_iload_n hx hb dX5_needPlace_1 rfl (lv_at hl 1 rfl) ?_
  refine lv_iload_n hx hb dX5_needPlace_2 rfl (lv_at hl 3 rfl) ?_
  refine zcVv (As := [.int (nI i), .int (nI j)]) (rest := []) ⟨hx, hb, hml, hown, hts⟩ (c_X5_needField l D ty g ad n1 n2 nL n4 n5 hI i j (by omega) (by omega)) (cwV 2 hts gX5_needPlace_X5_needField rfl rfl rfl (by decide +kernel) ⟨Nat.le_of_ble_eq_true rfl, Nat.le_of_ble_eq_true rfl⟩) zI_blind (zI_pre hP hK hN) (va_recv hK hP (ci := 6) (q0 := 0) rfl rfl) rfl hl.1 rfl (Nat.le_of_ble_eq_true rfl) dX5_needPlace_3 ⟨Nat.le_of_ble_eq_true rfl, Nat.le_of_ble_eq_true rfl⟩ (fun _ => ?_)
  refine lv_iload_n hx hb dX5_needPlace_6 rfl (lv_at hl 2 rfl) ?_
  refine lv_if_lt (tgt := 23) hx hb dX5_needPlace_7 (by decide) (fun c_2 => ?_) (fun c_2 => ?_)
  · exact zthrW (text := "no such version") (E0 := "java/lang/IndexOutOfBoundsException") (own := RX5) hx hb hlt hown hts hno hlocks hml hN hQ hT rfl zfit_B (by decide +kernel) (by decide +kernel) (by decide +kernel) zbad_B zgood_B (by decide +kernel) hl.1 dX5_needPlace_23 dX5_needPlace_26 dX5_needPlace_27 dX5_needPlace_30 dX5_needPlace_33 (Nat.le_of_ble_eq_true rfl) (Nat.le_of_ble_eq_true rfl) (Nat.le_of_ble_eq_true rfl) (Nat.le_of_ble_eq_true rfl)
  · refine lv_iload_n hx hb dX5_needPlace_10 rfl (lv_at hl 2 rfl) ?_
    refine lv_aload_n hx hb dX5_needPlace_11 rfl (lv_at hl 0 rfl) ?_
    refine va_get hx hb hts hinX5 hown hK hP 0 rfl rfl 0 (by decide) (hk0) (fun _ h9 => h9) rfl dX5_needPlace_12 ?_
    refine va_getN hx hb hts hinX4 hown hK hP 1 rfl rfl 2 (by decide) (zN.use hN (List.mem_of_getElem? (i := 3) rfl)) (fun _ h9 => h9) rfl dX5_needPlace_15 ?_
    refine lv_iload_n hx hb dX5_needPlace_18 rfl (lv_at hl 1 rfl) ?_
    refine zald hx hb hK hP 8 0 rfl rfl (i := i) (by omega) (by decide) dX5_needPlace_19 ?_
    have b_3 : nV g i < 7 := (h78 _ (by omega)).2.1.2
    refine zeq (show g 8 i = nI (nV g i) from (h78 _ (by omega)).2.1.1) ?_
    refine lv_icmp_lt (tgt := 34) hx hb dX5_needPlace_20 (by decide) (fun c_4 => ?_) (fun c_4 => ?_)
    · exfalso; rcases h with h | h <;> first | exact absurd h (by assumption) | exact absurd (by assumption) (Int32.not_lt.mpr h) | exact absurd h (Int32.not_lt.mpr (by assumption)) | omega
    · exact zthrW (text := "no such version") (E0 := "java/lang/IndexOutOfBoundsException") (own := RX5) hx hb hlt hown hts hno hlocks hml hN hQ hT rfl zfit_B (by decide +kernel) (by decide +kernel) (by decide +kernel) zbad_B zgood_B (by decide +kernel) hl.1 dX5_needPlace_23 dX5_needPlace_26 dX5_needPlace_27 dX5_needPlace_30 dX5_needPlace_33 (Nat.le_of_ble_eq_true rfl) (Nat.le_of_ble_eq_true rfl) (Nat.le_of_ble_eq_true rfl) (Nat.le_of_ble_eq_true rfl)
theorem c_X5_needPlace_x (l : Launch) (hlt : l.stackTraces = false) (D : va_G) (ty : Nat → ClassId) (g : Nat → Nat → Int32) (ad : Nat → Nat) (n1 n2 nL n4 n5 : Nat) (hI : dI g n1 n2 nL n4 n5) (x v f : Int32) (h : badP g n1 x v f) : vx_Met l yX5_needPlace wsX5_needPlace ({ frames := 8, cells := 1, slots := 6, locals := 133 }) (va_Pc [.ref (ad 0), .int x, .int v, .int f] (zX D ty g ad)) zno (zXC "java/lang/IndexOutOfBoundsException") 1 6 (fun _ => False) := by
  rcases h with h | ⟨i, j, hi, rfl, hj, rfl, h⟩
  · exact c_X5_needPlace_x1 l hlt D ty g ad n1 n2 nL n4 n5 hI x v f h
  · exact c_X5_needPlace_x2 l hlt D ty g ad n1 n2 nL n4 n5 hI i j v hi hj h
set_option maxHeartbeats 4000000 in
set_option maxRecDepth 100000 in
theorem c_X5_needFields_x (l : Launch) (hlt : l.stackTraces = false) (D : va_G) (ty : Nat → ClassId) (g : Nat → Nat → Int32) (ad : Nat → Nat) (n1 n2 nL n4 n5 : Nat) (hI : dI g n1 n2 nL n4 n5) (i : Nat) (hi : i < n1) (F : Int32) (h : F < nI 1 ∨ allF g i < F) : vx_Met l yX5_needFields wsX5_needFields ({ frames := 6, cells := 1, slots := 6, locals := 90 }) (va_Pc [.ref (ad 0), .int (nI i), .int F] (zX D ty g ad)) zno (zXC "java/lang/IllegalArgumentException") 1 6 (fun _ => False) := by
  refine zXMet (cc := cX5_needFields) (maxL := 3) (ret := none) (by decide) rfl (Nat.le_of_ble_eq_true rfl) ?_
  intro p e s m below meth c hx hb hr hts hown hlocks hml hno hB ls hl
  obtain ⟨⟨hP, hK, hN⟩, hQ, hT⟩ := hB
  obtain ⟨⟨hn1, hn1b⟩, h78, ⟨hn2, hn2b⟩, h12, ⟨hnL, hnLb⟩, h15, ⟨hn4, hn4b⟩, ⟨hn5, hn5b⟩, hrd5, hd0⟩ := id hI
  have hq7 : nF g i < 7 := (h78 i hi).1.2
  have hq8 : nV g i < 7 := (h78 i hi).2.1.2
  have hl : lv_has ls 3 [(0, .ref (ad 0)), (1, .int (nI i)), (2, .int F)] := hl
  have hk0 := hts (.fieldLink RX5 12 "DatamarketDesk" "shelf" "LDatamarketDesk$Shelf;") (by decide +kernel)
  have hinX5 : ∀ w ∈ wsX50, w ∈ wsX5_needFields := by decide +kernel
  refine lv_iload_n hx hb dX5_needFields_0 rfl (lv_at hl 2 rfl) ?_
  refine lv_iconst (v := nI 1) hx hb dX5_needFields_1 (by decide) ?_
  refine lv_icmp_lt (tgt := 17) hx hb dX5_needFields_2 (by decide) (fun c_1 => ?_) (fun c_1 => ?_)
  · exact zthrW (text := "fields is not a set of fields of the set") (E0 := "java/lang/IllegalArgumentException") (own := RX5) hx hb hlt hown hts hno hlocks hml hN hQ hT rfl zfit_A (by decide +kernel) (by decide +kernel) (by decide +kernel) zbad_A zgood_A (by decide +kernel) hl.1 dX5_needFields_17 dX5_needFields_20 dX5_needFields_21 dX5_needFields_24 dX5_needFields_27 (Nat.le_of_ble_eq_true rfl) (Nat.le_of_ble_eq_true rfl) (Nat.le_of_ble_eq_true rfl) (Nat.le_of_ble_eq_true rfl)
  · refine lv_iload_n hx hb dX5_needFields_5 rfl (lv_at hl 2 rfl) ?_
    refine lv_aload_n hx hb dX5_needFields_6 rfl (lv_at hl 0 rfl) ?_
    refine va_get hx hb hts hinX5 hown hK hP 0 rfl rfl 0 (by decide) (hk0) (fun _ h9 => h9) rfl dX5_needFields_7 ?_
    refine lv_iload_n hx hb dX5_needFields_10 rfl (lv_at hl 1 rfl) ?_
    refine zcVi (As := [.int (nI i)]) (rest := [.int F]) ⟨hx, hb, hml, hown, hts⟩ (c_X4_allFields l D ty g ad n1 n2 nL n4 n5 hI i (by omega)) (cwV 1 hts gX5_needFields_X4_allFields rfl rfl rfl (by decide +kernel) ⟨Nat.le_of_ble_eq_true rfl, Nat.le_of_ble_eq_true rfl⟩) zI_blind (zI_pre hP hK hN) (va_recv hK hP (ci := 5) (q0 := 1) rfl rfl) rfl hl.1 rfl (Nat.le_of_ble_eq_true rfl) dX5_needFields_11 ⟨Nat.le_of_ble_eq_true rfl, Nat.le_of_ble_eq_true rfl⟩ (fun r_2 hr_2 => ?_)
    subst hr_2
    refine lv_icmp_le (tgt := 28) hx hb dX5_needFields_14 (by decide) (fun c_3 => ?_) (fun c_3 => ?_)
    · exfalso; rcases h with h | h <;> first | exact absurd h (by assumption) | exact absurd (by assumption) (Int32.not_lt.mpr h) | exact absurd h (Int32.not_lt.mpr (by assumption)) | omega
    · exact zthrW (text := "fields is not a set of fields of the set") (E0 := "java/lang/IllegalArgumentException") (own := RX5) hx hb hlt hown hts hno hlocks hml hN hQ hT rfl zfit_A (by decide +kernel) (by decide +kernel) (by decide +kernel) zbad_A zgood_A (by decide +kernel) hl.1 dX5_needFields_17 dX5_needFields_20 dX5_needFields_21 dX5_needFields_24 dX5_needFields_27 (Nat.le_of_ble_eq_true rfl) (Nat.le_of_ble_eq_true rfl) (Nat.le_of_ble_eq_true rfl) (Nat.le_of_ble_eq_true rfl)
set_option maxHeartbeats 4000000 in
set_option maxRecDepth 100000 in
theorem c_X5_needHarm_x (l : Launch) (hlt : l.stackTraces = false) (x : Int32) (h : x < nI 1 ∨ nI 100 < x) : vx_Met l yX5_needHarm wsX5_needHarm ({ frames := 6, cells := 1, slots := 6, locals := 90 }) (va_Pc [.int x] (zXB)) zno (zXC "java/lang/IllegalArgumentException") 1 6 (fun _ => False) := by
  refine zXMet (cc := cX5_needHarm) (maxL := 1) (ret := none) (by decide) rfl (Nat.le_of_ble_eq_true rfl) ?_
  intro p e s m below meth c hx hb hr hts hown hlocks hml hno hB ls hl
  obtain ⟨hQ, hT, hN⟩ := hB
  have hl : lv_has ls 1 [(0, .int x)] := hl
  refine lv_iload_n hx hb dX5_needHarm_0 rfl (lv_at hl 0 rfl) ?_
  refine lv_iconst (v := nI 1) hx hb dX5_needHarm_1 (by decide) ?_
  refine lv_icmp_lt (tgt := 11) hx hb dX5_needHarm_2 (by decide) (fun c_1 => ?_) (fun c_1 => ?_)
  · exact zthrW (text := "harm is not 1 to 100") (E0 := "java/lang/IllegalArgumentException") (own := RX5) hx hb hlt hown hts hno hlocks hml hN hQ hT rfl zfit_A (by decide +kernel) (by decide +kernel) (by decide +kernel) zbad_A zgood_A (by decide +kernel) hl.1 dX5_needHarm_11 dX5_needHarm_14 dX5_needHarm_15 dX5_needHarm_18 dX5_needHarm_21 (Nat.le_of_ble_eq_true rfl) (Nat.le_of_ble_eq_true rfl) (Nat.le_of_ble_eq_true rfl) (Nat.le_of_ble_eq_true rfl)
  · refine lv_iload_n hx hb dX5_needHarm_5 rfl (lv_at hl 0 rfl) ?_
    refine lv_bipush (v := nI 100) hx hb dX5_needHarm_6 (by decide) ?_
    refine lv_icmp_le (tgt := 22) hx hb dX5_needHarm_8 (by decide) (fun c_2 => ?_) (fun c_2 => ?_)
    · exfalso; rcases h with h | h <;> first | exact absurd h (by assumption) | exact absurd (by assumption) (Int32.not_lt.mpr h) | exact absurd h (Int32.not_lt.mpr (by assumption)) | omega
    · exact zthrW (text := "harm is not 1 to 100") (E0 := "java/lang/IllegalArgumentException") (own := RX5) hx hb hlt hown hts hno hlocks hml hN hQ hT rfl zfit_A (by decide +kernel) (by decide +kernel) (by decide +kernel) zbad_A zgood_A (by decide +kernel) hl.1 dX5_needHarm_11 dX5_needHarm_14 dX5_needHarm_15 dX5_needHarm_18 dX5_needHarm_21 (Nat.le_of_ble_eq_true rfl) (Nat.le_of_ble_eq_true rfl) (Nat.le_of_ble_eq_true rfl) (Nat.le_of_ble_eq_true rfl)
set_option maxHeartbeats 4000000 in
set_option maxRecDepth 100000 in
theorem c_X5_needReader_x (l : Launch) (hlt : l.stackTraces = false) (x : Int32) (h : x < 0 ∨ nI 6 ≤ x) : vx_Met l yX5_needReader wsX5_needReader ({ frames := 6, cells := 1, slots := 6, locals := 90 }) (va_Pc [.int x] (zXB)) zno (zXC "java/lang/IndexOutOfBoundsException") 1 6 (fun _ => False) := by
  refine zXMet (cc := cX5_needReader) (maxL := 1) (ret := none) (by decide) rfl (Nat.le_of_ble_eq_true rfl) ?_
  intro p e s m below meth c hx hb hr hts hown hlocks hml hno hB ls hl
  obtain ⟨hQ, hT, hN⟩ := hB
  have hl : lv_has ls 1 [(0, .int x)] := hl
  refine lv_iload_n hx hb dX5_needReader_0 rfl (lv_at hl 0 rfl) ?_
  refine lv_if_lt (tgt := 10) hx hb dX5_needReader_1 (by decide) (fun c_1 => ?_) (fun c_1 => ?_)
  · exact zthrW (text := "no such reader") (E0 := "java/lang/IndexOutOfBoundsException") (own := RX5) hx hb hlt hown hts hno hlocks hml hN hQ hT rfl zfit_B (by decide +kernel) (by decide +kernel) (by decide +kernel) zbad_B zgood_B (by decide +kernel) hl.1 dX5_needReader_10 dX5_needReader_13 dX5_needReader_14 dX5_needReader_17 dX5_needReader_20 (Nat.le_of_ble_eq_true rfl) (Nat.le_of_ble_eq_true rfl) (Nat.le_of_ble_eq_true rfl) (Nat.le_of_ble_eq_true rfl)
  · refine lv_iload_n hx hb dX5_needReader_4 rfl (lv_at hl 0 rfl) ?_
    refine lv_bipush (v := nI 6) hx hb dX5_needReader_5 (by decide) ?_
    refine lv_icmp_lt (tgt := 21) hx hb dX5_needReader_7 (by decide) (fun c_2 => ?_) (fun c_2 => ?_)
    · exfalso; rcases h with h | h <;> first | exact absurd h (by assumption) | exact absurd (by assumption) (Int32.not_lt.mpr h) | exact absurd h (Int32.not_lt.mpr (by assumption)) | omega
    · exact zthrW (text := "no such reader") (E0 := "java/lang/IndexOutOfBoundsException") (own := RX5) hx hb hlt hown hts hno hlocks hml hN hQ hT rfl zfit_B (by decide +kernel) (by decide +kernel) (by decide +kernel) zbad_B zgood_B (by decide +kernel) hl.1 dX5_needReader_10 dX5_needReader_13 dX5_needReader_14 dX5_needReader_17 dX5_needReader_20 (Nat.le_of_ble_eq_true rfl) (Nat.le_of_ble_eq_true rfl) (Nat.le_of_ble_eq_true rfl) (Nat.le_of_ble_eq_true rfl)
set_option maxHeartbeats 4000000 in
set_option maxRecDepth 100000 in
theorem c_X5_needPurpose_x (l : Launch) (hlt : l.stackTraces = false) (x : Int32) (h : x < 0 ∨ nI 4 ≤ x) : vx_Met l yX5_needPurpose wsX5_needPurpose ({ frames := 6, cells := 1, slots := 6, locals := 90 }) (va_Pc [.int x] (zXB)) zno (zXC "java/lang/IndexOutOfBoundsException") 1 6 (fun _ => False) := by
  refine zXMet (cc := cX5_needPurpose) (maxL := 1) (ret := none) (by decide) rfl (Nat.le_of_ble_eq_true rfl) ?_
  intro p e s m below meth c hx hb hr hts hown hlocks hml hno hB ls hl
  obtain ⟨hQ, hT, hN⟩ := hB
  have hl : lv_has ls 1 [(0, .int x)] := hl
  refine lv_iload_n hx hb dX5_needPurpose_0 rfl (lv_at hl 0 rfl) ?_
  refine lv_if_lt (tgt := 9) hx hb dX5_needPurpose_1 (by decide) (fun c_1 => ?_) (fun c_1 => ?_)
  · exact zthrW (text := "no such purpose") (E0 := "java/lang/IndexOutOfBoundsException") (own := RX5) hx hb hlt hown hts hno hlocks hml hN hQ hT rfl zfit_B (by decide +kernel) (by decide +kernel) (by decide +kernel) zbad_B zgood_B (by decide +kernel) hl.1 dX5_needPurpose_9 dX5_needPurpose_12 dX5_needPurpose_13 dX5_needPurpose_16 dX5_needPurpose_19 (Nat.le_of_ble_eq_true rfl) (Nat.le_of_ble_eq_true rfl) (Nat.le_of_ble_eq_true rfl) (Nat.le_of_ble_eq_true rfl)
  · refine lv_iload_n hx hb dX5_needPurpose_4 rfl (lv_at hl 0 rfl) ?_
    refine lv_iconst (v := nI 4) hx hb dX5_needPurpose_5 (by decide) ?_
    refine lv_icmp_lt (tgt := 20) hx hb dX5_needPurpose_6 (by decide) (fun c_2 => ?_) (fun c_2 => ?_)
    · exfalso; rcases h with h | h <;> first | exact absurd h (by assumption) | exact absurd (by assumption) (Int32.not_lt.mpr h) | exact absurd h (Int32.not_lt.mpr (by assumption)) | omega
    · exact zthrW (text := "no such purpose") (E0 := "java/lang/IndexOutOfBoundsException") (own := RX5) hx hb hlt hown hts hno hlocks hml hN hQ hT rfl zfit_B (by decide +kernel) (by decide +kernel) (by decide +kernel) zbad_B zgood_B (by decide +kernel) hl.1 dX5_needPurpose_9 dX5_needPurpose_12 dX5_needPurpose_13 dX5_needPurpose_16 dX5_needPurpose_19 (Nat.le_of_ble_eq_true rfl) (Nat.le_of_ble_eq_true rfl) (Nat.le_of_ble_eq_true rfl) (Nat.le_of_ble_eq_true rfl)
set_option maxHeartbeats 4000000 in
set_option maxRecDepth 100000 in
theorem c_X5_needContract_x (l : Launch) (hlt : l.stackTraces = false) (D : va_G) (ty : Nat → ClassId) (g : Nat → Nat → Int32) (ad : Nat → Nat) (n1 n2 nL n4 n5 : Nat) (hI : dI g n1 n2 nL n4 n5) (x : Int32) (h : x < 0 ∨ nI n4 ≤ x) : vx_Met l yX5_needContract wsX5_needContract ({ frames := 6, cells := 1, slots := 6, locals := 90 }) (va_Pc [.ref (ad 0), .int x] (zX D ty g ad)) zno (zXC "java/lang/IndexOutOfBoundsException") 1 6 (fun _ => False) := by
  refine zXMet (cc := cX5_needContract) (maxL := 2) (ret := none) (by decide) rfl (Nat.le_of_ble_eq_true rfl) ?_
  intro p e s m below meth c hx hb hr hts hown hlocks hml hno hB ls hl
  obtain ⟨⟨hP, hK, hN⟩, hQ, hT⟩ := hB
  obtain ⟨⟨hn1, hn1b⟩, h78, ⟨hn2, hn2b⟩, h12, ⟨hnL, hnLb⟩, h15, ⟨hn4, hn4b⟩, ⟨hn5, hn5b⟩, hrd5, hd0⟩ := id hI
  have hl : lv_has ls 2 [(0, .ref (ad 0)), (1, .int x)] := hl
  have hk0 := hts (.fieldLink RX5 33 "DatamarketDesk" "contracts" "LDatamarketDesk$Contracts;") (by decide +kernel)
  have hinX5 : ∀ w ∈ wsX50, w ∈ wsX5_needContract := by decide +kernel
  have hinX0 : ∀ w ∈ wsX00, w ∈ wsX5_needContract := by decide +kernel
  refine lv_iload_n hx hb dX5_needContract_0 rfl (lv_at hl 1 rfl) ?_
  refine lv_if_lt (tgt := 15) hx hb dX5_needContract_1 (by decide) (fun c_1 => ?_) (fun c_1 => ?_)
  · exact zthrW (text := "no such contract") (E0 := "java/lang/IndexOutOfBoundsException") (own := RX5) hx hb hlt hown hts hno hlocks hml hN hQ hT rfl zfit_B (by decide +kernel) (by decide +kernel) (by decide +kernel) zbad_B zgood_B (by decide +kernel) hl.1 dX5_needContract_15 dX5_needContract_18 dX5_needContract_19 dX5_needContract_22 dX5_needContract_25 (Nat.le_of_ble_eq_true rfl) (Nat.le_of_ble_eq_true rfl) (Nat.le_of_ble_eq_true rfl) (Nat.le_of_ble_eq_true rfl)
  · refine lv_iload_n hx hb dX5_needContract_4 rfl (lv_at hl 1 rfl) ?_
    refine lv_aload_n hx hb dX5_needContract_5 rfl (lv_at hl 0 rfl) ?_
    refine va_get hx hb hts hinX5 hown hK hP 0 rfl rfl 3 (by decide) (hk0) (fun _ h9 => h9) rfl dX5_needContract_6 ?_
    refine va_getN hx hb hts hinX0 hown hK hP 4 rfl rfl 0 (by decide) (zN.use hN (List.mem_of_getElem? (i := 13) rfl)) (fun _ h9 => h9) rfl dX5_needContract_9 ?_
    refine zeq hn4 ?_
    refine lv_icmp_lt (tgt := 26) hx hb dX5_needContract_12 (by decide) (fun c_2 => ?_) (fun c_2 => ?_)
    · exfalso; rcases h with h | h <;> first | exact absurd h (by assumption) | exact absurd (by assumption) (Int32.not_lt.mpr h) | exact absurd h (Int32.not_lt.mpr (by assumption)) | omega
    · exact zthrW (text := "no such contract") (E0 := "java/lang/IndexOutOfBoundsException") (own := RX5) hx hb hlt hown hts hno hlocks hml hN hQ hT rfl zfit_B (by decide +kernel) (by decide +kernel) (by decide +kernel) zbad_B zgood_B (by decide +kernel) hl.1 dX5_needContract_15 dX5_needContract_18 dX5_needContract_19 dX5_needContract_22 dX5_needContract_25 (Nat.le_of_ble_eq_true rfl) (Nat.le_of_ble_eq_true rfl) (Nat.le_of_ble_eq_true rfl) (Nat.le_of_ble_eq_true rfl)
set_option maxHeartbeats 4000000 in
set_option maxRecDepth 100000 in
theorem c_X5_set_xA (l : Launch) (hlt : l.stackTraces = false) (D : va_G) (ty : Nat → ClassId) (g : Nat → Nat → Int32) (ad : Nat → Nat) (n1 n2 nL n4 n5 : Nat) (hI : dI g n1 n2 nL n4 n5) (x : Int32) (h : x < nI 1 ∨ nI 6 < x) : vx_Met l yX5_set wsX5_set ({ frames := 6, cells := 1, slots := 6, locals := 90 }) (va_Pc [.ref (ad 0), .int x] (zX D ty g ad)) zno (zXC "java/lang/IllegalArgumentException") 1 6 (fun _ => False) := by
  refine zXMet (cc := cX5_set) (maxL := 2) (ret := (some .int)) (by decide) rfl (Nat.le_of_ble_eq_true rfl) ?_
  intro p e s m below meth c hx hb hr hts hown hlocks hml hno hB ls hl
  obtain ⟨⟨hP, hK, hN⟩, hQ, hT⟩ := hB
  obtain ⟨⟨hn1, hn1b⟩, h78, ⟨hn2, hn2b⟩, h12, ⟨hnL, hnLb⟩, h15, ⟨hn4, hn4b⟩, ⟨hn5, hn5b⟩, hrd5, hd0⟩ := id hI
  have hl : lv_has ls 2 [(0, .ref (ad 0)), (1, .int x)] := hl
  refine lv_iload_n hx hb dX5_set_0 rfl (lv_at hl 1 rfl) ?_
  refine lv_iconst (v := nI 1) hx hb dX5_set_1 (by decide) ?_
  refine lv_icmp_lt (tgt := 11) hx hb dX5_set_2 (by decide) (fun c_1 => ?_) (fun c_1 => ?_)
  · exact zthrS (text := "fields is not 1 to 6") (E0 := "java/lang/IllegalArgumentException") (own := RX5) hx hb hlt hown hts hno hlocks hml hN hQ hT rfl zfit_A (by decide +kernel) (by decide +kernel) (by decide +kernel) zbad_A zgood_A (by decide +kernel) hl.1 dX5_set_11 dX5_set_14 dX5_set_15 dX5_set_17 dX5_set_20 (Nat.le_of_ble_eq_true rfl) (Nat.le_of_ble_eq_true rfl) (Nat.le_of_ble_eq_true rfl) (Nat.le_of_ble_eq_true rfl)
  · refine lv_iload_n hx hb dX5_set_5 rfl (lv_at hl 1 rfl) ?_
    refine lv_bipush (v := nI 6) hx hb dX5_set_6 (by decide) ?_
    refine lv_icmp_le (tgt := 21) hx hb dX5_set_8 (by decide) (fun c_2 => ?_) (fun c_2 => ?_)
    · exfalso; rcases h with h | h <;> first | exact absurd h (by assumption) | exact absurd (by assumption) (Int32.not_lt.mpr h) | exact absurd h (Int32.not_lt.mpr (by assumption)) | omega
    · exact zthrS (text := "fields is not 1 to 6") (E0 := "java/lang/IllegalArgumentException") (own := RX5) hx hb hlt hown hts hno hlocks hml hN hQ hT rfl zfit_A (by decide +kernel) (by decide +kernel) (by decide +kernel) zbad_A zgood_A (by decide +kernel) hl.1 dX5_set_11 dX5_set_14 dX5_set_15 dX5_set_17 dX5_set_20 (Nat.le_of_ble_eq_true rfl) (Nat.le_of_ble_eq_true rfl) (Nat.le_of_ble_eq_true rfl) (Nat.le_of_ble_eq_true rfl)
set_option maxHeartbeats 4000000 in
set_option maxRecDepth 100000 in
theorem c_X5_set_xS (l : Launch) (hlt : l.stackTraces = false) (D : va_G) (ty : Nat → ClassId) (g : Nat → Nat → Int32) (ad : Nat → Nat) (n1 n2 nL n4 n5 : Nat) (hI : dI g n1 n2 nL n4 n5) (k0 : Nat) (hk1 : 1 ≤ k0) (hk6 : k0 ≤ 6) (hn8 : n1 = 8) : vx_Met l yX5_set wsX5_set ({ frames := 6, cells := 1, slots := 6, locals := 90 }) (va_Pc [.ref (ad 0), .int (nI k0)] (zX D ty g ad)) zno (zXC "java/lang/IllegalStateException") 1 6 (fun _ => False) := by
  refine zXMet (cc := cX5_set) (maxL := 2) (ret := (some .int)) (by decide) rfl (Nat.le_of_ble_eq_true rfl) ?_
  intro p e s m below meth c hx hb hr hts hown hlocks hml hno hB ls hl
  obtain ⟨⟨hP, hK, hN⟩, hQ, hT⟩ := hB
  obtain ⟨⟨hn1, hn1b⟩, h78, ⟨hn2, hn2b⟩, h12, ⟨hnL, hnLb⟩, h15, ⟨hn4, hn4b⟩, ⟨hn5, hn5b⟩, hrd5, hd0⟩ := id hI
  have hl : lv_has ls 2 [(0, .ref (ad 0)), (1, .int (nI k0))] := hl
  have hk0 := hts (.fieldLink RX5 12 "DatamarketDesk" "shelf" "LDatamarketDesk$Shelf;") (by decide +kernel)
  have hinX5 : ∀ w ∈ wsX50, w ∈ wsX5_set := by decide +kernel
  have hinX4 : ∀ w ∈ wsX40, w ∈ wsX5_set := by decide +kernel
  refine lv_iload_n hx hb dX5_set_0 rfl (lv_at hl 1 rfl) ?_
  refine lv_iconst (v := nI 1) hx hb dX5_set_1 (by decide) ?_
  refine lv_icmp_lt (tgt := 11) hx hb dX5_set_2 (by decide) (fun c_1 => ?_) (fun c_1 => ?_)
  · have c_1 := zn_ltT (a := k0) (b := 1) (by omega) (by omega) c_1
    omega
  · have c_1 := zn_ltF (a := k0) (b := 1) (by omega) (by omega) c_1
    refine lv_iload_n hx hb dX5_set_5 rfl (lv_at hl 1 rfl) ?_
    refine lv_bipush (v := nI 6) hx hb dX5_set_6 (by decide) ?_
    refine lv_icmp_le (tgt := 21) hx hb dX5_set_8 (by decide) (fun c_2 => ?_) (fun c_2 => ?_)
    · have c_2 := zn_leT (a := k0) (b := 6) (by omega) (by omega) c_2
      refine lv_aload_n hx hb dX5_set_21 rfl (lv_at hl 0 rfl) ?_
      refine va_get hx hb hts hinX5 hown hK hP 0 rfl rfl 0 (by decide) (hk0) (fun _ h9 => h9) rfl dX5_set_22 ?_
      refine va_getN hx hb hts hinX4 hown hK hP 1 rfl rfl 0 (by decide) (zN.use hN (List.mem_of_getElem? (i := 1) rfl)) (fun _ h9 => h9) rfl dX5_set_25 ?_
      refine zeq hn1 ?_
      refine lv_bipush (v := nI 8) hx hb dX5_set_28 (by decide) ?_
      refine lv_icmp_lt (tgt := 43) hx hb dX5_set_30 (by decide) (fun c_3 => ?_) (fun c_3 => ?_)
      · have c_3 := zn_ltT (a := n1) (b := 8) (by omega) (by omega) c_3
        omega
      · have c_3 := zn_ltF (a := n1) (b := 8) (by omega) (by omega) c_3
        exact zthrS (text := "there are 8 sets") (E0 := "java/lang/IllegalStateException") (own := RX5) hx hb hlt hown hts hno hlocks hml hN hQ hT rfl zfit_S (by decide +kernel) (by decide +kernel) (by decide +kernel) zbad_S zgood_S (by decide +kernel) hl.1 dX5_set_33 dX5_set_36 dX5_set_37 dX5_set_39 dX5_set_42 (Nat.le_of_ble_eq_true rfl) (Nat.le_of_ble_eq_true rfl) (Nat.le_of_ble_eq_true rfl) (Nat.le_of_ble_eq_true rfl)
    · have c_2 := zn_leF (a := k0) (b := 6) (by omega) (by omega) c_2
      omega
set_option maxHeartbeats 4000000 in
set_option maxRecDepth 100000 in
theorem c_X5_terms_xB (l : Launch) (hlt : l.stackTraces = false) (D : va_G) (ty : Nat → ClassId) (g : Nat → Nat → Int32) (ad : Nat → Nat) (n1 n2 nL n4 n5 : Nat) (hI : dI g n1 n2 nL n4 n5) (x f pr ru : Int32) (h : badF g n1 x f) : vx_Met l yX5_terms wsX5_terms ({ frames := 8, cells := 1, slots := 6, locals := 133 }) (va_Pc [.ref (ad 0), .int x, .int f, .int pr, .int ru] (zX D ty g ad)) zno (zXC "java/lang/IndexOutOfBoundsException") 1 6 (fun _ => False) := by
  refine zXMet (cc := cX5_terms) (maxL := 7) (ret := (some .int)) (by decide) rfl (Nat.le_of_ble_eq_true rfl) ?_
  intro p e s m below meth c hx hb hr hts hown hlocks hml hno hB ls hl
  obtain ⟨⟨hP, hK, hN⟩, hQ, hT⟩ := hB
  obtain ⟨⟨hn1, hn1b⟩, h78, ⟨hn2, hn2b⟩, h12, ⟨hnL, hnLb⟩, h15, ⟨hn4, hn4b⟩, ⟨hn5, hn5b⟩, hrd5, hd0⟩ := id hI
  have hl : lv_has ls 7 [(0, .ref (ad 0)), (1, .int x), (2, .int f), (3, .int pr), (4, .int ru)] := hl
  refine lv_aload_n hx hb dX5_terms_0 rfl (lv_at hl 0 rfl) ?_
  refine lv_iload_n hx hb dX5_terms_1 rfl (lv_at hl 1 rfl) ?_
  refine lv_iload_n hx hb dX5_terms_2 rfl (lv_at hl 2 rfl) ?_
  exact zxV (As := [.int x, .int f]) (rest := []) ⟨hx, hb, hml, hown, hts⟩ hno hlocks (c_X5_needField_x l hlt D ty g ad n1 n2 nL n4 n5 hI x f h) (cwV 2 hts gX5_terms_X5_needField rfl rfl rfl (by decide +kernel) ⟨Nat.le_of_ble_eq_true rfl, Nat.le_of_ble_eq_true rfl⟩) zX_blind (zX_pre hP hK hN hQ hT) (va_recv hK hP (ci := 6) (q0 := 0) rfl rfl) rfl hl.1 rfl (Nat.le_of_ble_eq_true rfl) dX5_terms_3 ⟨Nat.le_of_ble_eq_true rfl, Nat.le_of_ble_eq_true rfl⟩
set_option maxHeartbeats 4000000 in
set_option maxRecDepth 100000 in
theorem c_X5_terms_xA (l : Launch) (hlt : l.stackTraces = false) (D : va_G) (ty : Nat → ClassId) (g : Nat → Nat → Int32) (ad : Nat → Nat) (n1 n2 nL n4 n5 : Nat) (hI : dI g n1 n2 nL n4 n5) (i f : Nat) (hi : i < n1) (hf : f < nF g i) (pr ru : Int32) (h : pr < nI 1 ∨ nI 99 < pr ∨ ru < 0 ∨ nI 1000 < ru) : vx_Met l yX5_terms wsX5_terms ({ frames := 6, cells := 1, slots := 6, locals := 90 }) (va_Pc [.ref (ad 0), .int (nI i), .int (nI f), .int pr, .int ru] (zX D ty g ad)) zno (zXC "java/lang/IllegalArgumentException") 1 6 (fun _ => False) := by
  refine zXMet (cc := cX5_terms) (maxL := 7) (ret := (some .int)) (by decide) rfl (Nat.le_of_ble_eq_true rfl) ?_
  intro p e s m below meth c hx hb hr hts hown hlocks hml hno hB ls hl
  obtain ⟨⟨hP, hK, hN⟩, hQ, hT⟩ := hB
  obtain ⟨⟨hn1, hn1b⟩, h78, ⟨hn2, hn2b⟩, h12, ⟨hnL, hnLb⟩, h15, ⟨hn4, hn4b⟩, ⟨hn5, hn5b⟩, hrd5, hd0⟩ := id hI
  have hq7 : nF g i < 7 := (h78 i hi).1.2
  have hq8 : nV g i < 7 := (h78 i hi).2.1.2
  have hl : lv_has ls 7 [(0, .ref (ad 0)), (1, .int (nI i)), (2, .int (nI f)), (3, .int pr), (4, .int ru)] := hl
  refine lv_aload_n hx hb dX5_terms_0 rfl (lv_at hl 0 rfl) ?_
  refine lv_iload_n hx hb dX5_terms_1 rfl (lv_at hl 1 rfl) ?_
  refine lv_iload_n hx hb dX5_terms_2 rfl (lv_at hl 2 rfl) ?_
  refine zcVv (As := [.int (nI i), .int (nI f)]) (rest := []) ⟨hx, hb, hml, hown, hts⟩ (c_X5_needField l D ty g ad n1 n2 nL n4 n5 hI i f (by omega) (by omega)) (cwV 2 hts gX5_terms_X5_needField rfl rfl rfl (by decide +kernel) ⟨Nat.le_of_ble_eq_true rfl, Nat.le_of_ble_eq_true rfl⟩) zI_blind (zI_pre hP hK hN) (va_recv hK hP (ci := 6) (q0 := 0) rfl rfl) rfl hl.1 rfl (Nat.le_of_ble_eq_true rfl) dX5_terms_3 ⟨Nat.le_of_ble_eq_true rfl, Nat.le_of_ble_eq_true rfl⟩ (fun _ => ?_)
  refine lv_iload_n hx hb dX5_terms_6 rfl (lv_at hl 3 rfl) ?_
  refine lv_iconst (v := nI 1) hx hb dX5_terms_7 (by decide) ?_
  refine lv_icmp_lt (tgt := 17) hx hb dX5_terms_8 (by decide) (fun c_2 => ?_) (fun c_2 => ?_)
  · exact zthrS (text := "price is not 1 to 99") (E0 := "java/lang/IllegalArgumentException") (own := RX5) hx hb hlt hown hts hno hlocks hml hN hQ hT rfl zfit_A (by decide +kernel) (by decide +kernel) (by decide +kernel) zbad_A zgood_A (by decide +kernel) hl.1 dX5_terms_17 dX5_terms_20 dX5_terms_21 dX5_terms_23 dX5_terms_26 (Nat.le_of_ble_eq_true rfl) (Nat.le_of_ble_eq_true rfl) (Nat.le_of_ble_eq_true rfl) (Nat.le_of_ble_eq_true rfl)
  · refine lv_iload_n hx hb dX5_terms_11 rfl (lv_at hl 3 rfl) ?_
    refine lv_bipush (v := nI 99) hx hb dX5_terms_12 (by decide) ?_
    refine lv_icmp_le (tgt := 27) hx hb dX5_terms_14 (by decide) (fun c_3 => ?_) (fun c_3 => ?_)
    · refine lv_iload hx hb dX5_terms_27 (lv_at hl 4 rfl) ?_
      refine lv_if_lt (tgt := 40) hx hb dX5_terms_29 (by decide) (fun c_4 => ?_) (fun c_4 => ?_)
      · exact zthrS (text := "rule is not 0 to 1000") (E0 := "java/lang/IllegalArgumentException") (own := RX5) hx hb hlt hown hts hno hlocks hml hN hQ hT rfl zfit_A (by decide +kernel) (by decide +kernel) (by decide +kernel) zbad_A zgood_A (by decide +kernel) hl.1 dX5_terms_40 dX5_terms_43 dX5_terms_44 dX5_terms_46 dX5_terms_49 (Nat.le_of_ble_eq_true rfl) (Nat.le_of_ble_eq_true rfl) (Nat.le_of_ble_eq_true rfl) (Nat.le_of_ble_eq_true rfl)
      · refine lv_iload hx hb dX5_terms_32 (lv_at hl 4 rfl) ?_
        refine lv_sipush (v := nI 1000) hx hb dX5_terms_34 (by decide) ?_
        refine lv_icmp_le (tgt := 50) hx hb dX5_terms_37 (by decide) (fun c_5 => ?_) (fun c_5 => ?_)
        · exfalso; rcases h with h | h | h | h <;> first | exact absurd h (by assumption) | exact absurd (by assumption) (Int32.not_lt.mpr h) | exact absurd h (Int32.not_lt.mpr (by assumption)) | omega
        · exact zthrS (text := "rule is not 0 to 1000") (E0 := "java/lang/IllegalArgumentException") (own := RX5) hx hb hlt hown hts hno hlocks hml hN hQ hT rfl zfit_A (by decide +kernel) (by decide +kernel) (by decide +kernel) zbad_A zgood_A (by decide +kernel) hl.1 dX5_terms_40 dX5_terms_43 dX5_terms_44 dX5_terms_46 dX5_terms_49 (Nat.le_of_ble_eq_true rfl) (Nat.le_of_ble_eq_true rfl) (Nat.le_of_ble_eq_true rfl) (Nat.le_of_ble_eq_true rfl)
    · exact zthrS (text := "price is not 1 to 99") (E0 := "java/lang/IllegalArgumentException") (own := RX5) hx hb hlt hown hts hno hlocks hml hN hQ hT rfl zfit_A (by decide +kernel) (by decide +kernel) (by decide +kernel) zbad_A zgood_A (by decide +kernel) hl.1 dX5_terms_17 dX5_terms_20 dX5_terms_21 dX5_terms_23 dX5_terms_26 (Nat.le_of_ble_eq_true rfl) (Nat.le_of_ble_eq_true rfl) (Nat.le_of_ble_eq_true rfl) (Nat.le_of_ble_eq_true rfl)
set_option maxHeartbeats 4000000 in
set_option maxRecDepth 100000 in
theorem c_X5_source_xB1 (l : Launch) (hlt : l.stackTraces = false) (D : va_G) (ty : Nat → ClassId) (g : Nat → Nat → Int32) (ad : Nat → Nat) (n1 n2 nL n4 n5 : Nat) (hI : dI g n1 n2 nL n4 n5) (x f x2 f2 sh : Int32) (h : badF g n1 x f) : vx_Met l yX5_source wsX5_source ({ frames := 8, cells := 1, slots := 6, locals := 133 }) (va_Pc [.ref (ad 0), .int x, .int f, .int x2, .int f2, .int sh] (zX D ty g ad)) zno (zXC "java/lang/IndexOutOfBoundsException") 1 6 (fun _ => False) := by
  refine zXMet (cc := cX5_source) (maxL := 9) (ret := (some .int)) (by decide) rfl (Nat.le_of_ble_eq_true rfl) ?_
  intro p e s m below meth c hx hb hr hts hown hlocks hml hno hB ls hl
  obtain ⟨⟨hP, hK, hN⟩, hQ, hT⟩ := hB
  obtain ⟨⟨hn1, hn1b⟩, h78, ⟨hn2, hn2b⟩, h12, ⟨hnL, hnLb⟩, h15, ⟨hn4, hn4b⟩, ⟨hn5, hn5b⟩, hrd5, hd0⟩ := id hI
  have hl : lv_has ls 9 [(0, .ref (ad 0)), (1, .int x), (2, .int f), (3, .int x2), (4, .int f2), (5, .int sh)] := hl
  refine lv_aload_n hx hb dX5_source_0 rfl (lv_at hl 0 rfl) ?_
  refine lv_iload_n hx hb dX5_source_1 rfl (lv_at hl 1 rfl) ?_
  refine lv_iload_n hx hb dX5_source_2 rfl (lv_at hl 2 rfl) ?_
  exact zxV (As := [.int x, .int f]) (rest := []) ⟨hx, hb, hml, hown, hts⟩ hno hlocks (c_X5_needField_x l hlt D ty g ad n1 n2 nL n4 n5 hI x f h) (cwV 2 hts gX5_source_X5_needField rfl rfl rfl (by decide +kernel) ⟨Nat.le_of_ble_eq_true rfl, Nat.le_of_ble_eq_true rfl⟩) zX_blind (zX_pre hP hK hN hQ hT) (va_recv hK hP (ci := 6) (q0 := 0) rfl rfl) rfl hl.1 rfl (Nat.le_of_ble_eq_true rfl) dX5_source_3 ⟨Nat.le_of_ble_eq_true rfl, Nat.le_of_ble_eq_true rfl⟩
set_option maxHeartbeats 4000000 in
set_option maxRecDepth 100000 in
theorem c_X5_source_xB2 (l : Launch) (hlt : l.stackTraces = false) (D : va_G) (ty : Nat → ClassId) (g : Nat → Nat → Int32) (ad : Nat → Nat) (n1 n2 nL n4 n5 : Nat) (hI : dI g n1 n2 nL n4 n5) (i f : Nat) (hi : i < n1) (hf : f < nF g i) (x2 f2 sh : Int32) (h : badF g n1 x2 f2) : vx_Met l yX5_source wsX5_source ({ frames := 8, cells := 1, slots := 6, locals := 133 }) (va_Pc [.ref (ad 0), .int (nI i), .int (nI f), .int x2, .int f2, .int sh] (zX D ty g ad)) zno (zXC "java/lang/IndexOutOfBoundsException") 1 6 (fun _ => False) := by
  refine zXMet (cc := cX5_source) (maxL := 9) (ret := (some .int)) (by decide) rfl (Nat.le_of_ble_eq_true rfl) ?_
  intro p e s m below meth c hx hb hr hts hown hlocks hml hno hB ls hl
  obtain ⟨⟨hP, hK, hN⟩, hQ, hT⟩ := hB
  obtain ⟨⟨hn1, hn1b⟩, h78, ⟨hn2, hn2b⟩, h12, ⟨hnL, hnLb⟩, h15, ⟨hn4, hn4b⟩, ⟨hn5, hn5b⟩, hrd5, hd0⟩ := id hI
  have hq7 : nF g i < 7 := (h78 i hi).1.2
  have hq8 : nV g i < 7 := (h78 i hi).2.1.2
  have hl : lv_has ls 9 [(0, .ref (ad 0)), (1, .int (nI i)), (2, .int (nI f)), (3, .int x2), (4, .int f2), (5, .int sh)] := hl
  refine lv_aload_n hx hb dX5_source_0 rfl (lv_at hl 0 rfl) ?_
  refine lv_iload_n hx hb dX5_source_1 rfl (lv_at hl 1 rfl) ?_
  refine lv_iload_n hx hb dX5_source_2 rfl (lv_at hl 2 rfl) ?_
  refine zcVv (As := [.int (nI i), .int (nI f)]) (rest := []) ⟨hx, hb, hml, hown, hts⟩ (c_X5_needField l D ty g ad n1 n2 nL n4 n5 hI i f (by omega) (by omega)) (cwV 2 hts gX5_source_X5_needField rfl rfl rfl (by decide +kernel) ⟨Nat.le_of_ble_eq_true rfl, Nat.le_of_ble_eq_true rfl⟩) zI_blind (zI_pre hP hK hN) (va_recv hK hP (ci := 6) (q0 := 0) rfl rfl) rfl hl.1 rfl (Nat.le_of_ble_eq_true rfl) dX5_source_3 ⟨Nat.le_of_ble_eq_true rfl, Nat.le_of_ble_eq_true rfl⟩ (fun _ => ?_)
  refine lv_aload_n hx hb dX5_source_6 rfl (lv_at hl 0 rfl) ?_
  refine lv_iload_n hx hb dX5_source_7 rfl (lv_at hl 3 rfl) ?_
  refine lv_iload hx hb dX5_source_8 (lv_at hl 4 rfl) ?_
  exact zxV (As := [.int x2, .int f2]) (rest := []) ⟨hx, hb, hml, hown, hts⟩ hno hlocks (c_X5_needField_x l hlt D ty g ad n1 n2 nL n4 n5 hI x2 f2 h) (cwV 2 hts gX5_source_X5_needField rfl rfl rfl (by decide +kernel) ⟨Nat.le_of_ble_eq_true rfl, Nat.le_of_ble_eq_true rfl⟩) zX_blind (zX_pre hP hK hN hQ hT) (va_recv hK hP (ci := 6) (q0 := 0) rfl rfl) rfl hl.1 rfl (Nat.le_of_ble_eq_true rfl) dX5_source_10 ⟨Nat.le_of_ble_eq_true rfl, Nat.le_of_ble_eq_true rfl⟩
set_option maxHeartbeats 4000000 in
set_option maxRecDepth 100000 in
theorem c_X5_source_xA (l : Launch) (hlt : l.stackTraces = false) (D : va_G) (ty : Nat → ClassId) (g : Nat → Nat → Int32) (ad : Nat → Nat) (n1 n2 nL n4 n5 : Nat) (hI : dI g n1 n2 nL n4 n5) (i f i2 f2 : Nat) (hi : i < n1) (hf : f < nF g i) (hi2 : i2 < n1) (hf2 : f2 < nF g i2) (sh : Int32) (h : i ≤ i2 ∨ sh < nI 1 ∨ nI 100 < sh) : vx_Met l yX5_source wsX5_source ({ frames := 6, cells := 1, slots := 6, locals := 90 }) (va_Pc [.ref (ad 0), .int (nI i), .int (nI f), .int (nI i2), .int (nI f2), .int sh] (zX D ty g ad)) zno (zXC "java/lang/IllegalArgumentException") 1 6 (fun _ => False) := by
  refine zXMet (cc := cX5_source) (maxL := 9) (ret := (some .int)) (by decide) rfl (Nat.le_of_ble_eq_true rfl) ?_
  intro p e s m below meth c hx hb hr hts hown hlocks hml hno hB ls hl
  obtain ⟨⟨hP, hK, hN⟩, hQ, hT⟩ := hB
  obtain ⟨⟨hn1, hn1b⟩, h78, ⟨hn2, hn2b⟩, h12, ⟨hnL, hnLb⟩, h15, ⟨hn4, hn4b⟩, ⟨hn5, hn5b⟩, hrd5, hd0⟩ := id hI
  have hq7 : nF g i < 7 := (h78 i hi).1.2
  have hq8 : nV g i < 7 := (h78 i hi).2.1.2
  have hq72 : nF g i2 < 7 := (h78 i2 hi2).1.2
  have hl : lv_has ls 9 [(0, .ref (ad 0)), (1, .int (nI i)), (2, .int (nI f)), (3, .int (nI i2)), (4, .int (nI f2)), (5, .int sh)] := hl
  refine lv_aload_n hx hb dX5_source_0 rfl (lv_at hl 0 rfl) ?_
  refine lv_iload_n hx hb dX5_source_1 rfl (lv_at hl 1 rfl) ?_
  refine lv_iload_n hx hb dX5_source_2 rfl (lv_at hl 2 rfl) ?_
  refine zcVv (As := [.int (nI i), .int (nI f)]) (rest := []) ⟨hx, hb, hml, hown, hts⟩ (c_X5_needField l D ty g ad n1 n2 nL n4 n5 hI i f (by omega) (by omega)) (cwV 2 hts gX5_source_X5_needField rfl rfl rfl (by decide +kernel) ⟨Nat.le_of_ble_eq_true rfl, Nat.le_of_ble_eq_true rfl⟩) zI_blind (zI_pre hP hK hN) (va_recv hK hP (ci := 6) (q0 := 0) rfl rfl) rfl hl.1 rfl (Nat.le_of_ble_eq_true rfl) dX5_source_3 ⟨Nat.le_of_ble_eq_true rfl, Nat.le_of_ble_eq_true rfl⟩ (fun _ => ?_)
  refine lv_aload_n hx hb dX5_source_6 rfl (lv_at hl 0 rfl) ?_
  refine lv_iload_n hx hb dX5_source_7 rfl (lv_at hl 3 rfl) ?_
  refine lv_iload hx hb dX5_source_8 (lv_at hl 4 rfl) ?_
  refine zcVv (As := [.int (nI i2), .int (nI f2)]) (rest := []) ⟨hx, hb, hml, hown, hts⟩ (c_X5_needField l D ty g ad n1 n2 nL n4 n5 hI i2 f2 (by omega) (by omega)) (cwV 2 hts gX5_source_X5_needField rfl rfl rfl (by decide +kernel) ⟨Nat.le_of_ble_eq_true rfl, Nat.le_of_ble_eq_true rfl⟩) zI_blind (zI_pre hP hK hN) (va_recv hK hP (ci := 6) (q0 := 0) rfl rfl) rfl hl.1 rfl (Nat.le_of_ble_eq_true rfl) dX5_source_10 ⟨Nat.le_of_ble_eq_true rfl, Nat.le_of_ble_eq_true rfl⟩ (fun _ => ?_)
  refine lv_iload_n hx hb dX5_source_13 rfl (lv_at hl 3 rfl) ?_
  refine lv_iload_n hx hb dX5_source_14 rfl (lv_at hl 1 rfl) ?_
  refine lv_icmp_lt (tgt := 28) hx hb dX5_source_15 (by decide) (fun c_3 => ?_) (fun c_3 => ?_)
  · have c_3 := zn_ltT (a := i2) (b := i) (by omega) (by omega) c_3
    refine lv_iload hx hb dX5_source_28 (lv_at hl 5 rfl) ?_
    refine lv_iconst (v := nI 1) hx hb dX5_source_30 (by decide) ?_
    refine lv_icmp_lt (tgt := 41) hx hb dX5_source_31 (by decide) (fun c_4 => ?_) (fun c_4 => ?_)
    · exact zthrS (text := "share is not 1 to 100") (E0 := "java/lang/IllegalArgumentException") (own := RX5) hx hb hlt hown hts hno hlocks hml hN hQ hT rfl zfit_A (by decide +kernel) (by decide +kernel) (by decide +kernel) zbad_A zgood_A (by decide +kernel) hl.1 dX5_source_41 dX5_source_44 dX5_source_45 dX5_source_47 dX5_source_50 (Nat.le_of_ble_eq_true rfl) (Nat.le_of_ble_eq_true rfl) (Nat.le_of_ble_eq_true rfl) (Nat.le_of_ble_eq_true rfl)
    · refine lv_iload hx hb dX5_source_34 (lv_at hl 5 rfl) ?_
      refine lv_bipush (v := nI 100) hx hb dX5_source_36 (by decide) ?_
      refine lv_icmp_le (tgt := 51) hx hb dX5_source_38 (by decide) (fun c_5 => ?_) (fun c_5 => ?_)
      · exfalso; rcases h with h | h | h <;> first | exact absurd h (by assumption) | exact absurd (by assumption) (Int32.not_lt.mpr h) | exact absurd h (Int32.not_lt.mpr (by assumption)) | omega
      · exact zthrS (text := "share is not 1 to 100") (E0 := "java/lang/IllegalArgumentException") (own := RX5) hx hb hlt hown hts hno hlocks hml hN hQ hT rfl zfit_A (by decide +kernel) (by decide +kernel) (by decide +kernel) zbad_A zgood_A (by decide +kernel) hl.1 dX5_source_41 dX5_source_44 dX5_source_45 dX5_source_47 dX5_source_50 (Nat.le_of_ble_eq_true rfl) (Nat.le_of_ble_eq_true rfl) (Nat.le_of_ble_eq_true rfl) (Nat.le_of_ble_eq_true rfl)
  · have c_3 := zn_ltF (a := i2) (b := i) (by omega) (by omega) c_3
    exact zthrS (text := "from is not below set") (E0 := "java/lang/IllegalArgumentException") (own := RX5) hx hb hlt hown hts hno hlocks hml hN hQ hT rfl zfit_A (by decide +kernel) (by decide +kernel) (by decide +kernel) zbad_A zgood_A (by decide +kernel) hl.1 dX5_source_18 dX5_source_21 dX5_source_22 dX5_source_24 dX5_source_27 (Nat.le_of_ble_eq_true rfl) (Nat.le_of_ble_eq_true rfl) (Nat.le_of_ble_eq_true rfl) (Nat.le_of_ble_eq_true rfl)
set_option maxHeartbeats 4000000 in
set_option maxRecDepth 100000 in
theorem c_X5_source_xS (l : Launch) (hlt : l.stackTraces = false) (D : va_G) (ty : Nat → ClassId) (g : Nat → Nat → Int32) (ad : Nat → Nat) (n1 n2 nL n4 n5 : Nat) (hI : dI g n1 n2 nL n4 n5) (i f i2 f2 : Nat) (hi : i < n1) (hf : f < nF g i) (hii : i2 < i) (hf2 : f2 < nF g i2) (sh : Int32) (hs1 : ¬ sh < nI 1) (hs2 : ¬ nI 100 < sh) (hn20 : n2 = 20) (hj2 : ∀ j, j < n2 → ¬ (g 12 j = nI (i * 6 + f) ∧ g 13 j = nI (i2 * 6 + f2))) : vx_Met l yX5_source wsX5_source ({ frames := 6, cells := 1, slots := 6, locals := 90 }) (va_Pc [.ref (ad 0), .int (nI i), .int (nI f), .int (nI i2), .int (nI f2), .int sh] (zX D ty g ad)) zno (zXC "java/lang/IllegalStateException") 1 6 (fun _ => False) := by
  refine zXMet (cc := cX5_source) (maxL := 9) (ret := (some .int)) (by decide) rfl (Nat.le_of_ble_eq_true rfl) ?_
  intro p e s m below meth c hx hb hr hts hown hlocks hml hno hB ls hl
  obtain ⟨⟨hP, hK, hN⟩, hQ, hT⟩ := hB
  obtain ⟨⟨hn1, hn1b⟩, h78, ⟨hn2, hn2b⟩, h12, ⟨hnL, hnLb⟩, h15, ⟨hn4, hn4b⟩, ⟨hn5, hn5b⟩, hrd5, hd0⟩ := id hI
  have hq7 : nF g i < 7 := (h78 i hi).1.2
  have hq8 : nV g i < 7 := (h78 i hi).2.1.2
  have hi2 : i2 < n1 := by omega
  have hq72 : nF g i2 < 7 := (h78 i2 hi2).1.2
  have hl : lv_has ls 9 [(0, .ref (ad 0)), (1, .int (nI i)), (2, .int (nI f)), (3, .int (nI i2)), (4, .int (nI f2)), (5, .int sh)] := hl
  have hk0 := hts (.fieldLink RX5 19 "DatamarketDesk" "lineage" "LDatamarketDesk$Lineage;") (by decide +kernel)
  have hinX5 : ∀ w ∈ wsX50, w ∈ wsX5_source := by decide +kernel
  have hinX2 : ∀ w ∈ wsX20, w ∈ wsX5_source := by decide +kernel
  refine lv_aload_n hx hb dX5_source_0 rfl (lv_at hl 0 rfl) ?_
  refine lv_iload_n hx hb dX5_source_1 rfl (lv_at hl 1 rfl) ?_
  refine lv_iload_n hx hb dX5_source_2 rfl (lv_at hl 2 rfl) ?_
  refine zcVv (As := [.int (nI i), .int (nI f)]) (rest := []) ⟨hx, hb, hml, hown, hts⟩ (c_X5_needField l D ty g ad n1 n2 nL n4 n5 hI i f (by omega) (by omega)) (cwV 2 hts gX5_source_X5_needField rfl rfl rfl (by decide +kernel) ⟨Nat.le_of_ble_eq_true rfl, Nat.le_of_ble_eq_true rfl⟩) zI_blind (zI_pre hP hK hN) (va_recv hK hP (ci := 6) (q0 := 0) rfl rfl) rfl hl.1 rfl (Nat.le_of_ble_eq_true rfl) dX5_source_3 ⟨Nat.le_of_ble_eq_true rfl, Nat.le_of_ble_eq_true rfl⟩ (fun _ => ?_)
  refine lv_aload_n hx hb dX5_source_6 rfl (lv_at hl 0 rfl) ?_
  refine lv_iload_n hx hb dX5_source_7 rfl (lv_at hl 3 rfl) ?_
  refine lv_iload hx hb dX5_source_8 (lv_at hl 4 rfl) ?_
  refine zcVv (As := [.int (nI i2), .int (nI f2)]) (rest := []) ⟨hx, hb, hml, hown, hts⟩ (c_X5_needField l D ty g ad n1 n2 nL n4 n5 hI i2 f2 (by omega) (by omega)) (cwV 2 hts gX5_source_X5_needField rfl rfl rfl (by decide +kernel) ⟨Nat.le_of_ble_eq_true rfl, Nat.le_of_ble_eq_true rfl⟩) zI_blind (zI_pre hP hK hN) (va_recv hK hP (ci := 6) (q0 := 0) rfl rfl) rfl hl.1 rfl (Nat.le_of_ble_eq_true rfl) dX5_source_10 ⟨Nat.le_of_ble_eq_true rfl, Nat.le_of_ble_eq_true rfl⟩ (fun _ => ?_)
  refine lv_iload_n hx hb dX5_source_13 rfl (lv_at hl 3 rfl) ?_
  refine lv_iload_n hx hb dX5_source_14 rfl (lv_at hl 1 rfl) ?_
  refine lv_icmp_lt (tgt := 28) hx hb dX5_source_15 (by decide) (fun c_3 => ?_) (fun c_3 => ?_)
  · have c_3 := zn_ltT (a := i2) (b := i) (by omega) (by omega) c_3
    refine lv_iload hx hb dX5_source_28 (lv_at hl 5 rfl) ?_
    refine lv_iconst (v := nI 1) hx hb dX5_source_30 (by decide) ?_
    refine lv_icmp_lt (tgt := 41) hx hb dX5_source_31 (by decide) (fun c_4 => ?_) (fun c_4 => ?_)
    · exact absurd c_4 hs1
    · refine lv_iload hx hb dX5_source_34 (lv_at hl 5 rfl) ?_
      refine lv_bipush (v := nI 100) hx hb dX5_source_36 (by decide) ?_
      refine lv_icmp_le (tgt := 51) hx hb dX5_source_38 (by decide) (fun c_5 => ?_) (fun c_5 => ?_)
      · refine lv_iload_n hx hb dX5_source_51 rfl (lv_at hl 1 rfl) ?_
        refine lv_iload_n hx hb dX5_source_52 rfl (lv_at hl 2 rfl) ?_
        refine zcSi (As := [.int (nI i), .int (nI f)]) (rest := []) ⟨hx, hb, hml, hown, hts⟩ (c_X5_fieldAt l _ i f) (cwS 2 hts gX5_source_X5_fieldAt rfl rfl rfl (by decide +kernel) ⟨Nat.le_of_ble_eq_true rfl, Nat.le_of_ble_eq_true rfl⟩) (B := fun _ => True) (fun _ _ _ _ _ => trivial) (fun _ _ _ => trivial) rfl hl.1 rfl (Nat.le_of_ble_eq_true rfl) dX5_source_53 ⟨Nat.le_of_ble_eq_true rfl, Nat.le_of_ble_eq_true rfl⟩ (fun r_6 hr_6 => ?_)
        subst hr_6
        refine lv_istore (lv' := [(6, .int (nI (i * 6 + f))), (0, .ref (ad 0)), (1, .int (nI i)), (2, .int (nI f)), (3, .int (nI i2)), (4, .int (nI f2)), (5, .int sh)]) hx hb dX5_source_56 hl (by decide) rfl (fun ls hl => ?_)
        refine lv_iload_n hx hb dX5_source_58 rfl (lv_at hl 4 rfl) ?_
        refine lv_iload hx hb dX5_source_59 (lv_at hl 5 rfl) ?_
        refine zcSi (As := [.int (nI i2), .int (nI f2)]) (rest := []) ⟨hx, hb, hml, hown, hts⟩ (c_X5_fieldAt l _ i2 f2) (cwS 2 hts gX5_source_X5_fieldAt rfl rfl rfl (by decide +kernel) ⟨Nat.le_of_ble_eq_true rfl, Nat.le_of_ble_eq_true rfl⟩) (B := fun _ => True) (fun _ _ _ _ _ => trivial) (fun _ _ _ => trivial) rfl hl.1 rfl (Nat.le_of_ble_eq_true rfl) dX5_source_61 ⟨Nat.le_of_ble_eq_true rfl, Nat.le_of_ble_eq_true rfl⟩ (fun r_7 hr_7 => ?_)
        subst hr_7
        refine lv_istore (lv' := [(7, .int (nI (i2 * 6 + f2))), (6, .int (nI (i * 6 + f))), (0, .ref (ad 0)), (1, .int (nI i)), (2, .int (nI f)), (3, .int (nI i2)), (4, .int (nI f2)), (5, .int sh)]) hx hb dX5_source_64 hl (by decide) rfl (fun ls hl => ?_)
        refine lv_aload_n hx hb dX5_source_66 rfl (lv_at hl 2 rfl) ?_
        refine va_get hx hb hts hinX5 hown hK hP 0 rfl rfl 1 (by decide) (hk0) (fun _ h9 => h9) rfl dX5_source_67 ?_
        refine lv_iload hx hb dX5_source_70 (lv_at hl 1 rfl) ?_
        refine lv_iload hx hb dX5_source_72 (lv_at hl 0 rfl) ?_
        refine zcVi (As := [.int (nI (i * 6 + f)), .int (nI (i2 * 6 + f2))]) (rest := []) ⟨hx, hb, hml, hown, hts⟩ (c_X2_findSource_n l D ty g ad n1 n2 nL n4 n5 hI (i * 6 + f) (i2 * 6 + f2) (by omega) (by omega) hj2) (cwV 2 hts gX5_source_X2_findSource rfl rfl rfl (by decide +kernel) ⟨Nat.le_of_ble_eq_true rfl, Nat.le_of_ble_eq_true rfl⟩) zI_blind (zI_pre hP hK hN) (va_recv hK hP (ci := 3) (q0 := 2) rfl rfl) rfl hl.1 rfl (Nat.le_of_ble_eq_true rfl) dX5_source_74 ⟨Nat.le_of_ble_eq_true rfl, Nat.le_of_ble_eq_true rfl⟩ (fun r_8 hr_8 => ?_)
        subst hr_8
        refine lv_istore (lv' := [(8, .int (-1)), (7, .int (nI (i2 * 6 + f2))), (6, .int (nI (i * 6 + f))), (0, .ref (ad 0)), (1, .int (nI i)), (2, .int (nI f)), (3, .int (nI i2)), (4, .int (nI f2)), (5, .int sh)]) hx hb dX5_source_77 hl (by decide) rfl (fun ls hl => ?_)
        refine lv_iload hx hb dX5_source_79 (lv_at hl 0 rfl) ?_
        refine lv_iconst (v := -1) hx hb dX5_source_81 (by decide) ?_
        refine lv_icmp_ne (tgt := 107) hx hb dX5_source_82 (by decide) (fun c_9 => ?_) (fun c_9 => ?_)
        · exact absurd rfl c_9
        · refine lv_aload_n hx hb dX5_source_85 rfl (lv_at hl 3 rfl) ?_
          refine va_get hx hb hts hinX5 hown hK hP 0 rfl rfl 1 (by decide) (hk0) (fun _ h9 => h9) rfl dX5_source_86 ?_
          refine va_getN hx hb hts hinX2 hown hK hP 2 rfl rfl 0 (by decide) (zN.use hN (List.mem_of_getElem? (i := 7) rfl)) (fun _ h9 => h9) rfl dX5_source_89 ?_
          refine zeq hn2 ?_
          refine lv_bipush (v := nI 20) hx hb dX5_source_92 (by decide) ?_
          refine lv_icmp_lt (tgt := 107) hx hb dX5_source_94 (by decide) (fun c_10 => ?_) (fun c_10 => ?_)
          · have c_10 := zn_ltT (a := n2) (b := 20) (by omega) (by omega) c_10
            omega
          · have c_10 := zn_ltF (a := n2) (b := 20) (by omega) (by omega) c_10
            exact zthrS (text := "there are 20 sources") (E0 := "java/lang/IllegalStateException") (own := RX5) hx hb hlt hown hts hno hlocks hml hN hQ hT rfl zfit_S (by decide +kernel) (by decide +kernel) (by decide +kernel) zbad_S zgood_S (by decide +kernel) hl.1 dX5_source_97 dX5_source_100 dX5_source_101 dX5_source_103 dX5_source_106 (Nat.le_of_ble_eq_true rfl) (Nat.le_of_ble_eq_true rfl) (Nat.le_of_ble_eq_true rfl) (Nat.le_of_ble_eq_true rfl)
      · exact absurd (Int32.not_le.mp c_5) hs2
  · have c_3 := zn_ltF (a := i2) (b := i) (by omega) (by omega) c_3
    omega
set_option maxHeartbeats 4000000 in
set_option maxRecDepth 100000 in
theorem c_X5_version_xB (l : Launch) (hlt : l.stackTraces = false) (D : va_G) (ty : Nat → ClassId) (g : Nat → Nat → Int32) (ad : Nat → Nat) (n1 n2 nL n4 n5 : Nat) (hI : dI g n1 n2 nL n4 n5) (x rw0 : Int32) (h : x < 0 ∨ nI n1 ≤ x) : vx_Met l yX5_version wsX5_version ({ frames := 7, cells := 1, slots := 6, locals := 111 }) (va_Pc [.ref (ad 0), .int x, .int rw0] (zX D ty g ad)) zno (zXC "java/lang/IndexOutOfBoundsException") 1 6 (fun _ => False) := by
  refine zXMet (cc := cX5_version) (maxL := 4) (ret := (some .int)) (by decide) rfl (Nat.le_of_ble_eq_true rfl) ?_
  intro p e s m below meth c hx hb hr hts hown hlocks hml hno hB ls hl
  obtain ⟨⟨hP, hK, hN⟩, hQ, hT⟩ := hB
  obtain ⟨⟨hn1, hn1b⟩, h78, ⟨hn2, hn2b⟩, h12, ⟨hnL, hnLb⟩, h15, ⟨hn4, hn4b⟩, ⟨hn5, hn5b⟩, hrd5, hd0⟩ := id hI
  have hl : lv_has ls 4 [(0, .ref (ad 0)), (1, .int x), (2, .int rw0)] := hl
  refine lv_aload_n hx hb dX5_version_0 rfl (lv_at hl 0 rfl) ?_
  refine lv_iload_n hx hb dX5_version_1 rfl (lv_at hl 1 rfl) ?_
  exact zxV (As := [.int x]) (rest := []) ⟨hx, hb, hml, hown, hts⟩ hno hlocks (c_X5_needSet_x l hlt D ty g ad n1 n2 nL n4 n5 hI x h) (cwV 1 hts gX5_version_X5_needSet rfl rfl rfl (by decide +kernel) ⟨Nat.le_of_ble_eq_true rfl, Nat.le_of_ble_eq_true rfl⟩) zX_blind (zX_pre hP hK hN hQ hT) (va_recv hK hP (ci := 6) (q0 := 0) rfl rfl) rfl hl.1 rfl (Nat.le_of_ble_eq_true rfl) dX5_version_2 ⟨Nat.le_of_ble_eq_true rfl, Nat.le_of_ble_eq_true rfl⟩
set_option maxHeartbeats 4000000 in
set_option maxRecDepth 100000 in
theorem c_X5_version_xA (l : Launch) (hlt : l.stackTraces = false) (D : va_G) (ty : Nat → ClassId) (g : Nat → Nat → Int32) (ad : Nat → Nat) (n1 n2 nL n4 n5 : Nat) (hI : dI g n1 n2 nL n4 n5) (i : Nat) (hi : i < n1) (x : Int32) (h : x < nI 1 ∨ nI 9999 < x) : vx_Met l yX5_version wsX5_version ({ frames := 6, cells := 1, slots := 6, locals := 90 }) (va_Pc [.ref (ad 0), .int (nI i), .int x] (zX D ty g ad)) zno (zXC "java/lang/IllegalArgumentException") 1 6 (fun _ => False) := by
  refine zXMet (cc := cX5_version) (maxL := 4) (ret := (some .int)) (by decide) rfl (Nat.le_of_ble_eq_true rfl) ?_
  intro p e s m below meth c hx hb hr hts hown hlocks hml hno hB ls hl
  obtain ⟨⟨hP, hK, hN⟩, hQ, hT⟩ := hB
  obtain ⟨⟨hn1, hn1b⟩, h78, ⟨hn2, hn2b⟩, h12, ⟨hnL, hnLb⟩, h15, ⟨hn4, hn4b⟩, ⟨hn5, hn5b⟩, hrd5, hd0⟩ := id hI
  have hq7 : nF g i < 7 := (h78 i hi).1.2
  have hq8 : nV g i < 7 := (h78 i hi).2.1.2
  have hl : lv_has ls 4 [(0, .ref (ad 0)), (1, .int (nI i)), (2, .int x)] := hl
  refine lv_aload_n hx hb dX5_version_0 rfl (lv_at hl 0 rfl) ?_
  refine lv_iload_n hx hb dX5_version_1 rfl (lv_at hl 1 rfl) ?_
  refine zcVv (As := [.int (nI i)]) (rest := []) ⟨hx, hb, hml, hown, hts⟩ (c_X5_needSet l D ty g ad n1 n2 nL n4 n5 hI i (by omega)) (cwV 1 hts gX5_version_X5_needSet rfl rfl rfl (by decide +kernel) ⟨Nat.le_of_ble_eq_true rfl, Nat.le_of_ble_eq_true rfl⟩) zI_blind (zI_pre hP hK hN) (va_recv hK hP (ci := 6) (q0 := 0) rfl rfl) rfl hl.1 rfl (Nat.le_of_ble_eq_true rfl) dX5_version_2 ⟨Nat.le_of_ble_eq_true rfl, Nat.le_of_ble_eq_true rfl⟩ (fun _ => ?_)
  refine lv_iload_n hx hb dX5_version_5 rfl (lv_at hl 2 rfl) ?_
  refine lv_iconst (v := nI 1) hx hb dX5_version_6 (by decide) ?_
  refine lv_icmp_lt (tgt := 17) hx hb dX5_version_7 (by decide) (fun c_2 => ?_) (fun c_2 => ?_)
  · exact zthrS (text := "rows is not 1 to 9999") (E0 := "java/lang/IllegalArgumentException") (own := RX5) hx hb hlt hown hts hno hlocks hml hN hQ hT rfl zfit_A (by decide +kernel) (by decide +kernel) (by decide +kernel) zbad_A zgood_A (by decide +kernel) hl.1 dX5_version_17 dX5_version_20 dX5_version_21 dX5_version_23 dX5_version_26 (Nat.le_of_ble_eq_true rfl) (Nat.le_of_ble_eq_true rfl) (Nat.le_of_ble_eq_true rfl) (Nat.le_of_ble_eq_true rfl)
  · refine lv_iload_n hx hb dX5_version_10 rfl (lv_at hl 2 rfl) ?_
    refine lv_sipush (v := nI 9999) hx hb dX5_version_11 (by decide) ?_
    refine lv_icmp_le (tgt := 27) hx hb dX5_version_14 (by decide) (fun c_3 => ?_) (fun c_3 => ?_)
    · exfalso; rcases h with h | h <;> first | exact absurd h (by assumption) | exact absurd (by assumption) (Int32.not_lt.mpr h) | exact absurd h (Int32.not_lt.mpr (by assumption)) | omega
    · exact zthrS (text := "rows is not 1 to 9999") (E0 := "java/lang/IllegalArgumentException") (own := RX5) hx hb hlt hown hts hno hlocks hml hN hQ hT rfl zfit_A (by decide +kernel) (by decide +kernel) (by decide +kernel) zbad_A zgood_A (by decide +kernel) hl.1 dX5_version_17 dX5_version_20 dX5_version_21 dX5_version_23 dX5_version_26 (Nat.le_of_ble_eq_true rfl) (Nat.le_of_ble_eq_true rfl) (Nat.le_of_ble_eq_true rfl) (Nat.le_of_ble_eq_true rfl)
set_option maxHeartbeats 4000000 in
set_option maxRecDepth 100000 in
theorem c_X5_version_xS (l : Launch) (hlt : l.stackTraces = false) (D : va_G) (ty : Nat → ClassId) (g : Nat → Nat → Int32) (ad : Nat → Nat) (n1 n2 nL n4 n5 : Nat) (hI : dI g n1 n2 nL n4 n5) (i : Nat) (hi : i < n1) (hv6 : nV g i = 6) (x : Int32) (hx1 : ¬ x < nI 1) (hx2 : ¬ nI 9999 < x) : vx_Met l yX5_version wsX5_version ({ frames := 6, cells := 1, slots := 6, locals := 90 }) (va_Pc [.ref (ad 0), .int (nI i), .int x] (zX D ty g ad)) zno (zXC "java/lang/IllegalStateException") 1 6 (fun _ => False) := by
  refine zXMet (cc := cX5_version) (maxL := 4) (ret := (some .int)) (by decide) rfl (Nat.le_of_ble_eq_true rfl) ?_
  intro p e s m below meth c hx hb hr hts hown hlocks hml hno hB ls hl
  obtain ⟨⟨hP, hK, hN⟩, hQ, hT⟩ := hB
  obtain ⟨⟨hn1, hn1b⟩, h78, ⟨hn2, hn2b⟩, h12, ⟨hnL, hnLb⟩, h15, ⟨hn4, hn4b⟩, ⟨hn5, hn5b⟩, hrd5, hd0⟩ := id hI
  have hq7 : nF g i < 7 := (h78 i hi).1.2
  have hq8 : nV g i < 7 := (h78 i hi).2.1.2
  have hl : lv_has ls 4 [(0, .ref (ad 0)), (1, .int (nI i)), (2, .int x)] := hl
  have hk0 := hts (.fieldLink RX5 12 "DatamarketDesk" "shelf" "LDatamarketDesk$Shelf;") (by decide +kernel)
  have hinX5 : ∀ w ∈ wsX50, w ∈ wsX5_version := by decide +kernel
  have hinX4 : ∀ w ∈ wsX40, w ∈ wsX5_version := by decide +kernel
  refine lv_aload_n hx hb dX5_version_0 rfl (lv_at hl 0 rfl) ?_
  refine lv_iload_n hx hb dX5_version_1 rfl (lv_at hl 1 rfl) ?_
  refine zcVv (As := [.int (nI i)]) (rest := []) ⟨hx, hb, hml, hown, hts⟩ (c_X5_needSet l D ty g ad n1 n2 nL n4 n5 hI i (by omega)) (cwV 1 hts gX5_version_X5_needSet rfl rfl rfl (by decide +kernel) ⟨Nat.le_of_ble_eq_true rfl, Nat.le_of_ble_eq_true rfl⟩) zI_blind (zI_pre hP hK hN) (va_recv hK hP (ci := 6) (q0 := 0) rfl rfl) rfl hl.1 rfl (Nat.le_of_ble_eq_true rfl) dX5_version_2 ⟨Nat.le_of_ble_eq_true rfl, Nat.le_of_ble_eq_true rfl⟩ (fun _ => ?_)
  refine lv_iload_n hx hb dX5_version_5 rfl (lv_at hl 2 rfl) ?_
  refine lv_iconst (v := nI 1) hx hb dX5_version_6 (by decide) ?_
  refine lv_icmp_lt (tgt := 17) hx hb dX5_version_7 (by decide) (fun c_2 => ?_) (fun c_2 => ?_)
  · exact absurd c_2 hx1
  · refine lv_iload_n hx hb dX5_version_10 rfl (lv_at hl 2 rfl) ?_
    refine lv_sipush (v := nI 9999) hx hb dX5_version_11 (by decide) ?_
    refine lv_icmp_le (tgt := 27) hx hb dX5_version_14 (by decide) (fun c_3 => ?_) (fun c_3 => ?_)
    · refine lv_aload_n hx hb dX5_version_27 rfl (lv_at hl 0 rfl) ?_
      refine va_get hx hb hts hinX5 hown hK hP 0 rfl rfl 0 (by decide) (hk0) (fun _ h9 => h9) rfl dX5_version_28 ?_
      refine va_getN hx hb hts hinX4 hown hK hP 1 rfl rfl 2 (by decide) (zN.use hN (List.mem_of_getElem? (i := 3) rfl)) (fun _ h9 => h9) rfl dX5_version_31 ?_
      refine lv_iload_n hx hb dX5_version_34 rfl (lv_at hl 1 rfl) ?_
      refine zald hx hb hK hP 8 0 rfl rfl (i := i) (by omega) (by decide) dX5_version_35 ?_
      have b_4 : nV g i < 7 := (h78 _ (by omega)).2.1.2
      refine zeq (show g 8 i = nI (nV g i) from (h78 _ (by omega)).2.1.1) ?_
      refine lv_bipush (v := nI 6) hx hb dX5_version_36 (by decide) ?_
      refine lv_icmp_lt (tgt := 51) hx hb dX5_version_38 (by decide) (fun c_5 => ?_) (fun c_5 => ?_)
      · have c_5 := zn_ltT (a := (nV g i)) (b := 6) (by omega) (by omega) c_5
        omega
      · have c_5 := zn_ltF (a := (nV g i)) (b := 6) (by omega) (by omega) c_5
        exact zthrS (text := "there are 6 versions") (E0 := "java/lang/IllegalStateException") (own := RX5) hx hb hlt hown hts hno hlocks hml hN hQ hT rfl zfit_S (by decide +kernel) (by decide +kernel) (by decide +kernel) zbad_S zgood_S (by decide +kernel) hl.1 dX5_version_41 dX5_version_44 dX5_version_45 dX5_version_47 dX5_version_50 (Nat.le_of_ble_eq_true rfl) (Nat.le_of_ble_eq_true rfl) (Nat.le_of_ble_eq_true rfl) (Nat.le_of_ble_eq_true rfl)
    · exact absurd (Int32.not_le.mp c_3) hx2
set_option maxHeartbeats 4000000 in
set_option maxRecDepth 100000 in
theorem c_X5_missing_xB (l : Launch) (hlt : l.stackTraces = false) (D : va_G) (ty : Nat → ClassId) (g : Nat → Nat → Int32) (ad : Nat → Nat) (n1 n2 nL n4 n5 : Nat) (hI : dI g n1 n2 nL n4 n5) (x f m0 : Int32) (h : badF g n1 x f) : vx_Met l yX5_missing wsX5_missing ({ frames := 8, cells := 1, slots := 6, locals := 133 }) (va_Pc [.ref (ad 0), .int x, .int f, .int m0] (zX D ty g ad)) zno (zXC "java/lang/IndexOutOfBoundsException") 1 6 (fun _ => False) := by
  refine zXMet (cc := cX5_missing) (maxL := 7) (ret := (some .int)) (by decide) rfl (Nat.le_of_ble_eq_true rfl) ?_
  intro p e s m below meth c hx hb hr hts hown hlocks hml hno hB ls hl
  obtain ⟨⟨hP, hK, hN⟩, hQ, hT⟩ := hB
  obtain ⟨⟨hn1, hn1b⟩, h78, ⟨hn2, hn2b⟩, h12, ⟨hnL, hnLb⟩, h15, ⟨hn4, hn4b⟩, ⟨hn5, hn5b⟩, hrd5, hd0⟩ := id hI
  have hl : lv_has ls 7 [(0, .ref (ad 0)), (1, .int x), (2, .int f), (3, .int m0)] := hl
  refine lv_aload_n hx hb dX5_missing_0 rfl (lv_at hl 0 rfl) ?_
  refine lv_iload_n hx hb dX5_missing_1 rfl (lv_at hl 1 rfl) ?_
  refine lv_iload_n hx hb dX5_missing_2 rfl (lv_at hl 2 rfl) ?_
  exact zxV (As := [.int x, .int f]) (rest := []) ⟨hx, hb, hml, hown, hts⟩ hno hlocks (c_X5_needField_x l hlt D ty g ad n1 n2 nL n4 n5 hI x f h) (cwV 2 hts gX5_missing_X5_needField rfl rfl rfl (by decide +kernel) ⟨Nat.le_of_ble_eq_true rfl, Nat.le_of_ble_eq_true rfl⟩) zX_blind (zX_pre hP hK hN hQ hT) (va_recv hK hP (ci := 6) (q0 := 0) rfl rfl) rfl hl.1 rfl (Nat.le_of_ble_eq_true rfl) dX5_missing_3 ⟨Nat.le_of_ble_eq_true rfl, Nat.le_of_ble_eq_true rfl⟩
set_option maxHeartbeats 4000000 in
set_option maxRecDepth 100000 in
theorem c_X5_missing_xA (l : Launch) (hlt : l.stackTraces = false) (D : va_G) (ty : Nat → ClassId) (g : Nat → Nat → Int32) (ad : Nat → Nat) (n1 n2 nL n4 n5 : Nat) (hI : dI g n1 n2 nL n4 n5) (i f : Nat) (hi : i < n1) (hf : f < nF g i) (x : Int32) (h : x < 0 ∨ nI 1000 < x) : vx_Met l yX5_missing wsX5_missing ({ frames := 6, cells := 1, slots := 6, locals := 90 }) (va_Pc [.ref (ad 0), .int (nI i), .int (nI f), .int x] (zX D ty g ad)) zno (zXC "java/lang/IllegalArgumentException") 1 6 (fun _ => False) := by
  refine zXMet (cc := cX5_missing) (maxL := 7) (ret := (some .int)) (by decide) rfl (Nat.le_of_ble_eq_true rfl) ?_
  intro p e s m below meth c hx hb hr hts hown hlocks hml hno hB ls hl
  obtain ⟨⟨hP, hK, hN⟩, hQ, hT⟩ := hB
  obtain ⟨⟨hn1, hn1b⟩, h78, ⟨hn2, hn2b⟩, h12, ⟨hnL, hnLb⟩, h15, ⟨hn4, hn4b⟩, ⟨hn5, hn5b⟩, hrd5, hd0⟩ := id hI
  have hq7 : nF g i < 7 := (h78 i hi).1.2
  have hq8 : nV g i < 7 := (h78 i hi).2.1.2
  have hl : lv_has ls 7 [(0, .ref (ad 0)), (1, .int (nI i)), (2, .int (nI f)), (3, .int x)] := hl
  refine lv_aload_n hx hb dX5_missing_0 rfl (lv_at hl 0 rfl) ?_
  refine lv_iload_n hx hb dX5_missing_1 rfl (lv_at hl 1 rfl) ?_
  refine lv_iload_n hx hb dX5_missing_2 rfl (lv_at hl 2 rfl) ?_
  refine zcVv (As := [.int (nI i), .int (nI f)]) (rest := []) ⟨hx, hb, hml, hown, hts⟩ (c_X5_needField l D ty g ad n1 n2 nL n4 n5 hI i f (by omega) (by omega)) (cwV 2 hts gX5_missing_X5_needField rfl rfl rfl (by decide +kernel) ⟨Nat.le_of_ble_eq_true rfl, Nat.le_of_ble_eq_true rfl⟩) zI_blind (zI_pre hP hK hN) (va_recv hK hP (ci := 6) (q0 := 0) rfl rfl) rfl hl.1 rfl (Nat.le_of_ble_eq_true rfl) dX5_missing_3 ⟨Nat.le_of_ble_eq_true rfl, Nat.le_of_ble_eq_true rfl⟩ (fun _ => ?_)
  refine lv_iload_n hx hb dX5_missing_6 rfl (lv_at hl 3 rfl) ?_
  refine lv_if_lt (tgt := 17) hx hb dX5_missing_7 (by decide) (fun c_2 => ?_) (fun c_2 => ?_)
  · exact zthrS (text := "missing is not 0 to 1000") (E0 := "java/lang/IllegalArgumentException") (own := RX5) hx hb hlt hown hts hno hlocks hml hN hQ hT rfl zfit_A (by decide +kernel) (by decide +kernel) (by decide +kernel) zbad_A zgood_A (by decide +kernel) hl.1 dX5_missing_17 dX5_missing_20 dX5_missing_21 dX5_missing_23 dX5_missing_26 (Nat.le_of_ble_eq_true rfl) (Nat.le_of_ble_eq_true rfl) (Nat.le_of_ble_eq_true rfl) (Nat.le_of_ble_eq_true rfl)
  · refine lv_iload_n hx hb dX5_missing_10 rfl (lv_at hl 3 rfl) ?_
    refine lv_sipush (v := nI 1000) hx hb dX5_missing_11 (by decide) ?_
    refine lv_icmp_le (tgt := 27) hx hb dX5_missing_14 (by decide) (fun c_3 => ?_) (fun c_3 => ?_)
    · exfalso; rcases h with h | h <;> first | exact absurd h (by assumption) | exact absurd (by assumption) (Int32.not_lt.mpr h) | exact absurd h (Int32.not_lt.mpr (by assumption)) | omega
    · exact zthrS (text := "missing is not 0 to 1000") (E0 := "java/lang/IllegalArgumentException") (own := RX5) hx hb hlt hown hts hno hlocks hml hN hQ hT rfl zfit_A (by decide +kernel) (by decide +kernel) (by decide +kernel) zbad_A zgood_A (by decide +kernel) hl.1 dX5_missing_17 dX5_missing_20 dX5_missing_21 dX5_missing_23 dX5_missing_26 (Nat.le_of_ble_eq_true rfl) (Nat.le_of_ble_eq_true rfl) (Nat.le_of_ble_eq_true rfl) (Nat.le_of_ble_eq_true rfl)
set_option maxHeartbeats 4000000 in
set_option maxRecDepth 100000 in
theorem c_X5_missing_xS0 (l : Launch) (hlt : l.stackTraces = false) (D : va_G) (ty : Nat → ClassId) (g : Nat → Nat → Int32) (ad : Nat → Nat) (n1 n2 nL n4 n5 : Nat) (hI : dI g n1 n2 nL n4 n5) (i f : Nat) (hi : i < n1) (hf : f < nF g i) (x : Int32) (hx1 : ¬ x < 0) (hx2 : ¬ nI 1000 < x) (hv0 : nV g i = 0) : vx_Met l yX5_missing wsX5_missing ({ frames := 6, cells := 1, slots := 6, locals := 90 }) (va_Pc [.ref (ad 0), .int (nI i), .int (nI f), .int x] (zX D ty g ad)) zno (zXC "java/lang/IllegalStateException") 1 6 (fun _ => False) := by
  refine zXMet (cc := cX5_missing) (maxL := 7) (ret := (some .int)) (by decide) rfl (Nat.le_of_ble_eq_true rfl) ?_
  intro p e s m below meth c hx hb hr hts hown hlocks hml hno hB ls hl
  obtain ⟨⟨hP, hK, hN⟩, hQ, hT⟩ := hB
  obtain ⟨⟨hn1, hn1b⟩, h78, ⟨hn2, hn2b⟩, h12, ⟨hnL, hnLb⟩, h15, ⟨hn4, hn4b⟩, ⟨hn5, hn5b⟩, hrd5, hd0⟩ := id hI
  have hq7 : nF g i < 7 := (h78 i hi).1.2
  have hq8 : nV g i < 7 := (h78 i hi).2.1.2
  have hl : lv_has ls 7 [(0, .ref (ad 0)), (1, .int (nI i)), (2, .int (nI f)), (3, .int x)] := hl
  have hk0 := hts (.fieldLink RX5 12 "DatamarketDesk" "shelf" "LDatamarketDesk$Shelf;") (by decide +kernel)
  have hinX5 : ∀ w ∈ wsX50, w ∈ wsX5_missing := by decide +kernel
  refine lv_aload_n hx hb dX5_missing_0 rfl (lv_at hl 0 rfl) ?_
  refine lv_iload_n hx hb dX5_missing_1 rfl (lv_at hl 1 rfl) ?_
  refine lv_iload_n hx hb dX5_missing_2 rfl (lv_at hl 2 rfl) ?_
  refine zcVv (As := [.int (nI i), .int (nI f)]) (rest := []) ⟨hx, hb, hml, hown, hts⟩ (c_X5_needField l D ty g ad n1 n2 nL n4 n5 hI i f (by omega) (by omega)) (cwV 2 hts gX5_missing_X5_needField rfl rfl rfl (by decide +kernel) ⟨Nat.le_of_ble_eq_true rfl, Nat.le_of_ble_eq_true rfl⟩) zI_blind (zI_pre hP hK hN) (va_recv hK hP (ci := 6) (q0 := 0) rfl rfl) rfl hl.1 rfl (Nat.le_of_ble_eq_true rfl) dX5_missing_3 ⟨Nat.le_of_ble_eq_true rfl, Nat.le_of_ble_eq_true rfl⟩ (fun _ => ?_)
  refine lv_iload_n hx hb dX5_missing_6 rfl (lv_at hl 3 rfl) ?_
  refine lv_if_lt (tgt := 17) hx hb dX5_missing_7 (by decide) (fun c_2 => ?_) (fun c_2 => ?_)
  · exact absurd c_2 hx1
  · refine lv_iload_n hx hb dX5_missing_10 rfl (lv_at hl 3 rfl) ?_
    refine lv_sipush (v := nI 1000) hx hb dX5_missing_11 (by decide) ?_
    refine lv_icmp_le (tgt := 27) hx hb dX5_missing_14 (by decide) (fun c_3 => ?_) (fun c_3 => ?_)
    · refine lv_aload_n hx hb dX5_missing_27 rfl (lv_at hl 0 rfl) ?_
      refine va_get hx hb hts hinX5 hown hK hP 0 rfl rfl 0 (by decide) (hk0) (fun _ h9 => h9) rfl dX5_missing_28 ?_
      refine lv_iload_n hx hb dX5_missing_31 rfl (lv_at hl 1 rfl) ?_
      refine zcVi (As := [.int (nI i)]) (rest := []) ⟨hx, hb, hml, hown, hts⟩ (c_X4_latestVersion_0 l D ty g ad i (by omega) (h78 _ (by omega)).2.1 hv0) (cwV 1 hts gX5_missing_X4_latestVersion rfl rfl rfl (by decide +kernel) ⟨Nat.le_of_ble_eq_true rfl, Nat.le_of_ble_eq_true rfl⟩) zI_blind (zI_pre hP hK hN) (va_recv hK hP (ci := 5) (q0 := 1) rfl rfl) rfl hl.1 rfl (Nat.le_of_ble_eq_true rfl) dX5_missing_32 ⟨Nat.le_of_ble_eq_true rfl, Nat.le_of_ble_eq_true rfl⟩ (fun r_4 hr_4 => ?_)
      subst hr_4
      refine lv_istore (lv' := [(4, .int (-1)), (0, .ref (ad 0)), (1, .int (nI i)), (2, .int (nI f)), (3, .int x)]) hx hb dX5_missing_35 hl (by decide) rfl (fun ls hl => ?_)
      refine lv_iload hx hb dX5_missing_37 (lv_at hl 0 rfl) ?_
      refine lv_iconst (v := -1) hx hb dX5_missing_39 (by decide) ?_
      refine lv_icmp_ne (tgt := 53) hx hb dX5_missing_40 (by decide) (fun c_5 => ?_) (fun c_5 => ?_)
      · exact absurd rfl c_5
      · exact zthrS (text := "there is no version") (E0 := "java/lang/IllegalStateException") (own := RX5) hx hb hlt hown hts hno hlocks hml hN hQ hT rfl zfit_S (by decide +kernel) (by decide +kernel) (by decide +kernel) zbad_S zgood_S (by decide +kernel) hl.1 dX5_missing_43 dX5_missing_46 dX5_missing_47 dX5_missing_49 dX5_missing_52 (Nat.le_of_ble_eq_true rfl) (Nat.le_of_ble_eq_true rfl) (Nat.le_of_ble_eq_true rfl) (Nat.le_of_ble_eq_true rfl)
    · exact absurd (Int32.not_le.mp c_3) hx2
set_option maxHeartbeats 4000000 in
set_option maxRecDepth 100000 in
theorem c_X5_missing_xS1 (l : Launch) (hlt : l.stackTraces = false) (D : va_G) (ty : Nat → ClassId) (g : Nat → Nat → Int32) (ad : Nat → Nat) (n1 n2 nL n4 n5 : Nat) (hI : dI g n1 n2 nL n4 n5) (i f : Nat) (hi : i < n1) (hf : f < nF g i) (x : Int32) (hx1 : ¬ x < 0) (hx2 : ¬ nI 1000 < x) (hv0 : 0 < nV g i) (ht0 : ¬ g 20 ((i * 6 + (nV g i - 1)) * 6 + f) = 0) : vx_Met l yX5_missing wsX5_missing ({ frames := 6, cells := 1, slots := 6, locals := 90 }) (va_Pc [.ref (ad 0), .int (nI i), .int (nI f), .int x] (zX D ty g ad)) zno (zXC "java/lang/IllegalStateException") 1 6 (fun _ => False) := by
  refine zXMet (cc := cX5_missing) (maxL := 7) (ret := (some .int)) (by decide) rfl (Nat.le_of_ble_eq_true rfl) ?_
  intro p e s m below meth c hx hb hr hts hown hlocks hml hno hB ls hl
  obtain ⟨⟨hP, hK, hN⟩, hQ, hT⟩ := hB
  obtain ⟨⟨hn1, hn1b⟩, h78, ⟨hn2, hn2b⟩, h12, ⟨hnL, hnLb⟩, h15, ⟨hn4, hn4b⟩, ⟨hn5, hn5b⟩, hrd5, hd0⟩ := id hI
  have hq7 : nF g i < 7 := (h78 i hi).1.2
  have hq8 : nV g i < 7 := (h78 i hi).2.1.2
  have hl : lv_has ls 7 [(0, .ref (ad 0)), (1, .int (nI i)), (2, .int (nI f)), (3, .int x)] := hl
  have hk0 := hts (.fieldLink RX5 12 "DatamarketDesk" "shelf" "LDatamarketDesk$Shelf;") (by decide +kernel)
  have hinX5 : ∀ w ∈ wsX50, w ∈ wsX5_missing := by decide +kernel
  have hk2 := hts (.fieldLink RX5 26 "DatamarketDesk" "harms" "LDatamarketDesk$Harms;") (by decide +kernel)
  have hinX1 : ∀ w ∈ wsX10, w ∈ wsX5_missing := by decide +kernel
  refine lv_aload_n hx hb dX5_missing_0 rfl (lv_at hl 0 rfl) ?_
  refine lv_iload_n hx hb dX5_missing_1 rfl (lv_at hl 1 rfl) ?_
  refine lv_iload_n hx hb dX5_missing_2 rfl (lv_at hl 2 rfl) ?_
  refine zcVv (As := [.int (nI i), .int (nI f)]) (rest := []) ⟨hx, hb, hml, hown, hts⟩ (c_X5_needField l D ty g ad n1 n2 nL n4 n5 hI i f (by omega) (by omega)) (cwV 2 hts gX5_missing_X5_needField rfl rfl rfl (by decide +kernel) ⟨Nat.le_of_ble_eq_true rfl, Nat.le_of_ble_eq_true rfl⟩) zI_blind (zI_pre hP hK hN) (va_recv hK hP (ci := 6) (q0 := 0) rfl rfl) rfl hl.1 rfl (Nat.le_of_ble_eq_true rfl) dX5_missing_3 ⟨Nat.le_of_ble_eq_true rfl, Nat.le_of_ble_eq_true rfl⟩ (fun _ => ?_)
  refine lv_iload_n hx hb dX5_missing_6 rfl (lv_at hl 3 rfl) ?_
  refine lv_if_lt (tgt := 17) hx hb dX5_missing_7 (by decide) (fun c_2 => ?_) (fun c_2 => ?_)
  · exact absurd c_2 hx1
  · refine lv_iload_n hx hb dX5_missing_10 rfl (lv_at hl 3 rfl) ?_
    refine lv_sipush (v := nI 1000) hx hb dX5_missing_11 (by decide) ?_
    refine lv_icmp_le (tgt := 27) hx hb dX5_missing_14 (by decide) (fun c_3 => ?_) (fun c_3 => ?_)
    · refine lv_aload_n hx hb dX5_missing_27 rfl (lv_at hl 0 rfl) ?_
      refine va_get hx hb hts hinX5 hown hK hP 0 rfl rfl 0 (by decide) (hk0) (fun _ h9 => h9) rfl dX5_missing_28 ?_
      refine lv_iload_n hx hb dX5_missing_31 rfl (lv_at hl 1 rfl) ?_
      refine zcVi (As := [.int (nI i)]) (rest := []) ⟨hx, hb, hml, hown, hts⟩ (c_X4_latestVersion_p l D ty g ad i (by omega) (h78 _ (by omega)).2.1 hv0) (cwV 1 hts gX5_missing_X4_latestVersion rfl rfl rfl (by decide +kernel) ⟨Nat.le_of_ble_eq_true rfl, Nat.le_of_ble_eq_true rfl⟩) zI_blind (zI_pre hP hK hN) (va_recv hK hP (ci := 5) (q0 := 1) rfl rfl) rfl hl.1 rfl (Nat.le_of_ble_eq_true rfl) dX5_missing_32 ⟨Nat.le_of_ble_eq_true rfl, Nat.le_of_ble_eq_true rfl⟩ (fun r_4 hr_4 => ?_)
      subst hr_4
      refine lv_istore (lv' := [(4, .int (nI (nV g i - 1))), (0, .ref (ad 0)), (1, .int (nI i)), (2, .int (nI f)), (3, .int x)]) hx hb dX5_missing_35 hl (by decide) rfl (fun ls hl => ?_)
      refine lv_iload hx hb dX5_missing_37 (lv_at hl 0 rfl) ?_
      refine lv_iconst (v := -1) hx hb dX5_missing_39 (by decide) ?_
      refine lv_icmp_ne (tgt := 53) hx hb dX5_missing_40 (by decide) (fun c_5 => ?_) (fun c_5 => ?_)
      · refine lv_iload_n hx hb dX5_missing_53 rfl (lv_at hl 2 rfl) ?_
        refine lv_iload hx hb dX5_missing_54 (lv_at hl 0 rfl) ?_
        refine lv_iload_n hx hb dX5_missing_56 rfl (lv_at hl 3 rfl) ?_
        refine zcSi (As := [.int (nI i), .int (nI (nV g i - 1)), .int (nI f)]) (rest := []) ⟨hx, hb, hml, hown, hts⟩ (c_X5_placeAt l _ i (nV g i - 1) f) (cwS 3 hts gX5_missing_X5_placeAt rfl rfl rfl (by decide +kernel) ⟨Nat.le_of_ble_eq_true rfl, Nat.le_of_ble_eq_true rfl⟩) (B := fun _ => True) (fun _ _ _ _ _ => trivial) (fun _ _ _ => trivial) rfl hl.1 rfl (Nat.le_of_ble_eq_true rfl) dX5_missing_57 ⟨Nat.le_of_ble_eq_true rfl, Nat.le_of_ble_eq_true rfl⟩ (fun r_6 hr_6 => ?_)
        subst hr_6
        refine lv_istore (lv' := [(5, .int (nI ((i * 6 + (nV g i - 1)) * 6 + f))), (4, .int (nI (nV g i - 1))), (0, .ref (ad 0)), (1, .int (nI i)), (2, .int (nI f)), (3, .int x)]) hx hb dX5_missing_60 hl (by decide) rfl (fun ls hl => ?_)
        refine lv_aload_n hx hb dX5_missing_62 rfl (lv_at hl 2 rfl) ?_
        refine va_get hx hb hts hinX5 hown hK hP 0 rfl rfl 2 (by decide) (hk2) (fun _ h9 => h9) rfl dX5_missing_63 ?_
        refine va_getN hx hb hts hinX1 hown hK hP 3 rfl rfl 1 (by decide) (zN.use hN (List.mem_of_getElem? (i := 10) rfl)) (fun _ h9 => h9) rfl dX5_missing_66 ?_
        refine lv_iload hx hb dX5_missing_69 (lv_at hl 0 rfl) ?_
        refine zaldz hx hb hK hP 20 1 rfl rfl (i := (i * 6 + (nV g i - 1)) * 6 + f) (by omega) (by decide) dX5_missing_71 ?_
        refine lv_if_eq (tgt := 85) hx hb dX5_missing_72 (by decide) (fun c_7 => ?_) (fun c_7 => ?_)
        · exact absurd c_7 ht0
        · exact zthrS (text := "it was told") (E0 := "java/lang/IllegalStateException") (own := RX5) hx hb hlt hown hts hno hlocks hml hN hQ hT rfl zfit_S (by decide +kernel) (by decide +kernel) (by decide +kernel) zbad_S zgood_S (by decide +kernel) hl.1 dX5_missing_75 dX5_missing_78 dX5_missing_79 dX5_missing_81 dX5_missing_84 (Nat.le_of_ble_eq_true rfl) (Nat.le_of_ble_eq_true rfl) (Nat.le_of_ble_eq_true rfl) (Nat.le_of_ble_eq_true rfl)
      · exact absurd c_5 (nI_ne_m1 (by omega))
    · exact absurd (Int32.not_le.mp c_3) hx2
set_option maxHeartbeats 4000000 in
set_option maxRecDepth 100000 in
theorem c_X5_report_xB (l : Launch) (hlt : l.stackTraces = false) (D : va_G) (ty : Nat → ClassId) (g : Nat → Nat → Int32) (ad : Nat → Nat) (n1 n2 nL n4 n5 : Nat) (hI : dI g n1 n2 nL n4 n5) (x v f h0 : Int32) (h : badP g n1 x v f) : vx_Met l yX5_report wsX5_report ({ frames := 9, cells := 1, slots := 6, locals := 156 }) (va_Pc [.ref (ad 0), .int x, .int v, .int f, .int h0] (zX D ty g ad)) zno (zXC "java/lang/IndexOutOfBoundsException") 1 6 (fun _ => False) := by
  refine zXMet (cc := cX5_report) (maxL := 7) (ret := (some .int)) (by decide) rfl (Nat.le_of_ble_eq_true rfl) ?_
  intro p e s m below meth c hx hb hr hts hown hlocks hml hno hB ls hl
  obtain ⟨⟨hP, hK, hN⟩, hQ, hT⟩ := hB
  obtain ⟨⟨hn1, hn1b⟩, h78, ⟨hn2, hn2b⟩, h12, ⟨hnL, hnLb⟩, h15, ⟨hn4, hn4b⟩, ⟨hn5, hn5b⟩, hrd5, hd0⟩ := id hI
  have hl : lv_has ls 7 [(0, .ref (ad 0)), (1, .int x), (2, .int v), (3, .int f), (4, .int h0)] := hl
  refine lv_aload_n hx hb dX5_report_0 rfl (lv_at hl 0 rfl) ?_
  refine lv_iload_n hx hb dX5_report_1 rfl (lv_at hl 1 rfl) ?_
  refine lv_iload_n hx hb dX5_report_2 rfl (lv_at hl 2 rfl) ?_
  refine lv_iload_n hx hb dX5_report_3 rfl (lv_at hl 3 rfl) ?_
  exact zxV (As := [.int x, .int v, .int f]) (rest := []) ⟨hx, hb, hml, hown, hts⟩ hno hlocks (c_X5_needPlace_x l hlt D ty g ad n1 n2 nL n4 n5 hI x v f h) (cwV 3 hts gX5_report_X5_needPlace rfl rfl rfl (by decide +kernel) ⟨Nat.le_of_ble_eq_true rfl, Nat.le_of_ble_eq_true rfl⟩) zX_blind (zX_pre hP hK hN hQ hT) (va_recv hK hP (ci := 6) (q0 := 0) rfl rfl) rfl hl.1 rfl (Nat.le_of_ble_eq_true rfl) dX5_report_4 ⟨Nat.le_of_ble_eq_true rfl, Nat.le_of_ble_eq_true rfl⟩
set_option maxHeartbeats 4000000 in
set_option maxRecDepth 100000 in
theorem c_X5_report_xA (l : Launch) (hlt : l.stackTraces = false) (D : va_G) (ty : Nat → ClassId) (g : Nat → Nat → Int32) (ad : Nat → Nat) (n1 n2 nL n4 n5 : Nat) (hI : dI g n1 n2 nL n4 n5) (i v f : Nat) (hi : i < n1) (hv : v < nV g i) (hf : f < nF g i) (x : Int32) (h : x < nI 1 ∨ nI 100 < x) : vx_Met l yX5_report wsX5_report ({ frames := 7, cells := 1, slots := 6, locals := 110 }) (va_Pc [.ref (ad 0), .int (nI i), .int (nI v), .int (nI f), .int x] (zX D ty g ad)) zno (zXC "java/lang/IllegalArgumentException") 1 6 (fun _ => False) := by
  refine zXMet (cc := cX5_report) (maxL := 7) (ret := (some .int)) (by decide) rfl (Nat.le_of_ble_eq_true rfl) ?_
  intro p e s m below meth c hx hb hr hts hown hlocks hml hno hB ls hl
  obtain ⟨⟨hP, hK, hN⟩, hQ, hT⟩ := hB
  obtain ⟨⟨hn1, hn1b⟩, h78, ⟨hn2, hn2b⟩, h12, ⟨hnL, hnLb⟩, h15, ⟨hn4, hn4b⟩, ⟨hn5, hn5b⟩, hrd5, hd0⟩ := id hI
  have hq7 : nF g i < 7 := (h78 i hi).1.2
  have hq8 : nV g i < 7 := (h78 i hi).2.1.2
  have hl : lv_has ls 7 [(0, .ref (ad 0)), (1, .int (nI i)), (2, .int (nI v)), (3, .int (nI f)), (4, .int x)] := hl
  refine lv_aload_n hx hb dX5_report_0 rfl (lv_at hl 0 rfl) ?_
  refine lv_iload_n hx hb dX5_report_1 rfl (lv_at hl 1 rfl) ?_
  refine lv_iload_n hx hb dX5_report_2 rfl (lv_at hl 2 rfl) ?_
  refine lv_iload_n hx hb dX5_report_3 rfl (lv_at hl 3 rfl) ?_
  refine zcVv (As := [.int (nI i), .int (nI v), .int (nI f)]) (rest := []) ⟨hx, hb, hml, hown, hts⟩ (c_X5_needPlace l D ty g ad n1 n2 nL n4 n5 hI i v f (by omega) (by omega) (by omega)) (cwV 3 hts gX5_report_X5_needPlace rfl rfl rfl (by decide +kernel) ⟨Nat.le_of_ble_eq_true rfl, Nat.le_of_ble_eq_true rfl⟩) zI_blind (zI_pre hP hK hN) (va_recv hK hP (ci := 6) (q0 := 0) rfl rfl) rfl hl.1 rfl (Nat.le_of_ble_eq_true rfl) dX5_report_4 ⟨Nat.le_of_ble_eq_true rfl, Nat.le_of_ble_eq_true rfl⟩ (fun _ => ?_)
  refine lv_iload hx hb dX5_report_7 (lv_at hl 4 rfl) ?_
  exact zxS (As := [.int x]) (rest := []) ⟨hx, hb, hml, hown, hts⟩ hno hlocks (c_X5_needHarm_x l hlt x h) (cwS 1 hts gX5_report_X5_needHarm rfl rfl rfl (by decide +kernel) ⟨Nat.le_of_ble_eq_true rfl, Nat.le_of_ble_eq_true rfl⟩) zXB_blind (zXB_pre hN hQ hT) rfl hl.1 rfl (Nat.le_of_ble_eq_true rfl) dX5_report_9 ⟨Nat.le_of_ble_eq_true rfl, Nat.le_of_ble_eq_true rfl⟩
set_option maxHeartbeats 4000000 in
set_option maxRecDepth 100000 in
theorem c_X5_creditBy_xB (l : Launch) (hlt : l.stackTraces = false) (D : va_G) (ty : Nat → ClassId) (g : Nat → Nat → Int32) (ad : Nat → Nat) (n1 n2 nL n4 n5 : Nat) (hI : dI g n1 n2 nL n4 n5) (x v f h0 : Int32) (h : badP g n1 x v f) : vx_Met l yX5_creditBy wsX5_creditBy ({ frames := 9, cells := 1, slots := 6, locals := 156 }) (va_Pc [.ref (ad 0), .int x, .int v, .int f, .int h0] (zX D ty g ad)) zno (zXC "java/lang/IndexOutOfBoundsException") 1 6 (fun _ => False) := by
  refine zXMet (cc := cX5_creditBy) (maxL := 5) (ret := (some .int)) (by decide) rfl (Nat.le_of_ble_eq_true rfl) ?_
  intro p e s m below meth c hx hb hr hts hown hlocks hml hno hB ls hl
  obtain ⟨⟨hP, hK, hN⟩, hQ, hT⟩ := hB
  obtain ⟨⟨hn1, hn1b⟩, h78, ⟨hn2, hn2b⟩, h12, ⟨hnL, hnLb⟩, h15, ⟨hn4, hn4b⟩, ⟨hn5, hn5b⟩, hrd5, hd0⟩ := id hI
  have hl : lv_has ls 5 [(0, .ref (ad 0)), (1, .int x), (2, .int v), (3, .int f), (4, .int h0)] := hl
  refine lv_aload_n hx hb dX5_creditBy_0 rfl (lv_at hl 0 rfl) ?_
  refine lv_iload_n hx hb dX5_creditBy_1 rfl (lv_at hl 1 rfl) ?_
  refine lv_iload_n hx hb dX5_creditBy_2 rfl (lv_at hl 2 rfl) ?_
  refine lv_iload_n hx hb dX5_creditBy_3 rfl (lv_at hl 3 rfl) ?_
  exact zxV (As := [.int x, .int v, .int f]) (rest := []) ⟨hx, hb, hml, hown, hts⟩ hno hlocks (c_X5_needPlace_x l hlt D ty g ad n1 n2 nL n4 n5 hI x v f h) (cwV 3 hts gX5_creditBy_X5_needPlace rfl rfl rfl (by decide +kernel) ⟨Nat.le_of_ble_eq_true rfl, Nat.le_of_ble_eq_true rfl⟩) zX_blind (zX_pre hP hK hN hQ hT) (va_recv hK hP (ci := 6) (q0 := 0) rfl rfl) rfl hl.1 rfl (Nat.le_of_ble_eq_true rfl) dX5_creditBy_4 ⟨Nat.le_of_ble_eq_true rfl, Nat.le_of_ble_eq_true rfl⟩
set_option maxHeartbeats 4000000 in
set_option maxRecDepth 100000 in
theorem c_X5_creditBy_xA (l : Launch) (hlt : l.stackTraces = false) (D : va_G) (ty : Nat → ClassId) (g : Nat → Nat → Int32) (ad : Nat → Nat) (n1 n2 nL n4 n5 : Nat) (hI : dI g n1 n2 nL n4 n5) (i v f : Nat) (hi : i < n1) (hv : v < nV g i) (hf : f < nF g i) (x : Int32) (h : x < nI 1 ∨ nI 100 < x) : vx_Met l yX5_creditBy wsX5_creditBy ({ frames := 7, cells := 1, slots := 6, locals := 110 }) (va_Pc [.ref (ad 0), .int (nI i), .int (nI v), .int (nI f), .int x] (zX D ty g ad)) zno (zXC "java/lang/IllegalArgumentException") 1 6 (fun _ => False) := by
  refine zXMet (cc := cX5_creditBy) (maxL := 5) (ret := (some .int)) (by decide) rfl (Nat.le_of_ble_eq_true rfl) ?_
  intro p e s m below meth c hx hb hr hts hown hlocks hml hno hB ls hl
  obtain ⟨⟨hP, hK, hN⟩, hQ, hT⟩ := hB
  obtain ⟨⟨hn1, hn1b⟩, h78, ⟨hn2, hn2b⟩, h12, ⟨hnL, hnLb⟩, h15, ⟨hn4, hn4b⟩, ⟨hn5, hn5b⟩, hrd5, hd0⟩ := id hI
  have hq7 : nF g i < 7 := (h78 i hi).1.2
  have hq8 : nV g i < 7 := (h78 i hi).2.1.2
  have hl : lv_has ls 5 [(0, .ref (ad 0)), (1, .int (nI i)), (2, .int (nI v)), (3, .int (nI f)), (4, .int x)] := hl
  refine lv_aload_n hx hb dX5_creditBy_0 rfl (lv_at hl 0 rfl) ?_
  refine lv_iload_n hx hb dX5_creditBy_1 rfl (lv_at hl 1 rfl) ?_
  refine lv_iload_n hx hb dX5_creditBy_2 rfl (lv_at hl 2 rfl) ?_
  refine lv_iload_n hx hb dX5_creditBy_3 rfl (lv_at hl 3 rfl) ?_
  refine zcVv (As := [.int (nI i), .int (nI v), .int (nI f)]) (rest := []) ⟨hx, hb, hml, hown, hts⟩ (c_X5_needPlace l D ty g ad n1 n2 nL n4 n5 hI i v f (by omega) (by omega) (by omega)) (cwV 3 hts gX5_creditBy_X5_needPlace rfl rfl rfl (by decide +kernel) ⟨Nat.le_of_ble_eq_true rfl, Nat.le_of_ble_eq_true rfl⟩) zI_blind (zI_pre hP hK hN) (va_recv hK hP (ci := 6) (q0 := 0) rfl rfl) rfl hl.1 rfl (Nat.le_of_ble_eq_true rfl) dX5_creditBy_4 ⟨Nat.le_of_ble_eq_true rfl, Nat.le_of_ble_eq_true rfl⟩ (fun _ => ?_)
  refine lv_iload hx hb dX5_creditBy_7 (lv_at hl 4 rfl) ?_
  exact zxS (As := [.int x]) (rest := []) ⟨hx, hb, hml, hown, hts⟩ hno hlocks (c_X5_needHarm_x l hlt x h) (cwS 1 hts gX5_creditBy_X5_needHarm rfl rfl rfl (by decide +kernel) ⟨Nat.le_of_ble_eq_true rfl, Nat.le_of_ble_eq_true rfl⟩) zXB_blind (zXB_pre hN hQ hT) rfl hl.1 rfl (Nat.le_of_ble_eq_true rfl) dX5_creditBy_9 ⟨Nat.le_of_ble_eq_true rfl, Nat.le_of_ble_eq_true rfl⟩
set_option maxHeartbeats 4000000 in
set_option maxRecDepth 100000 in
theorem c_X5_harm_xB (l : Launch) (hlt : l.stackTraces = false) (D : va_G) (ty : Nat → ClassId) (g : Nat → Nat → Int32) (ad : Nat → Nat) (n1 n2 nL n4 n5 : Nat) (hI : dI g n1 n2 nL n4 n5) (x v f : Int32) (h : badP g n1 x v f) : vx_Met l yX5_harm wsX5_harm ({ frames := 9, cells := 1, slots := 6, locals := 156 }) (va_Pc [.ref (ad 0), .int x, .int v, .int f] (zX D ty g ad)) zno (zXC "java/lang/IndexOutOfBoundsException") 1 6 (fun _ => False) := by
  refine zXMet (cc := cX5_harm) (maxL := 4) (ret := (some .int)) (by decide) rfl (Nat.le_of_ble_eq_true rfl) ?_
  intro p e s m below meth c hx hb hr hts hown hlocks hml hno hB ls hl
  obtain ⟨⟨hP, hK, hN⟩, hQ, hT⟩ := hB
  obtain ⟨⟨hn1, hn1b⟩, h78, ⟨hn2, hn2b⟩, h12, ⟨hnL, hnLb⟩, h15, ⟨hn4, hn4b⟩, ⟨hn5, hn5b⟩, hrd5, hd0⟩ := id hI
  have hl : lv_has ls 4 [(0, .ref (ad 0)), (1, .int x), (2, .int v), (3, .int f)] := hl
  refine lv_aload_n hx hb dX5_harm_0 rfl (lv_at hl 0 rfl) ?_
  refine lv_iload_n hx hb dX5_harm_1 rfl (lv_at hl 1 rfl) ?_
  refine lv_iload_n hx hb dX5_harm_2 rfl (lv_at hl 2 rfl) ?_
  refine lv_iload_n hx hb dX5_harm_3 rfl (lv_at hl 3 rfl) ?_
  exact zxV (As := [.int x, .int v, .int f]) (rest := []) ⟨hx, hb, hml, hown, hts⟩ hno hlocks (c_X5_needPlace_x l hlt D ty g ad n1 n2 nL n4 n5 hI x v f h) (cwV 3 hts gX5_harm_X5_needPlace rfl rfl rfl (by decide +kernel) ⟨Nat.le_of_ble_eq_true rfl, Nat.le_of_ble_eq_true rfl⟩) zX_blind (zX_pre hP hK hN hQ hT) (va_recv hK hP (ci := 6) (q0 := 0) rfl rfl) rfl hl.1 rfl (Nat.le_of_ble_eq_true rfl) dX5_harm_4 ⟨Nat.le_of_ble_eq_true rfl, Nat.le_of_ble_eq_true rfl⟩
set_option maxHeartbeats 4000000 in
set_option maxRecDepth 100000 in
theorem c_X5_isMadeOf_xB1 (l : Launch) (hlt : l.stackTraces = false) (D : va_G) (ty : Nat → ClassId) (g : Nat → Nat → Int32) (ad : Nat → Nat) (n1 n2 nL n4 n5 : Nat) (hI : dI g n1 n2 nL n4 n5) (x v f x2 v2 f2 : Int32) (h : badP g n1 x v f) : vx_Met l yX5_isMadeOf wsX5_isMadeOf ({ frames := 9, cells := 1, slots := 6, locals := 156 }) (va_Pc [.ref (ad 0), .int x, .int v, .int f, .int x2, .int v2, .int f2] (zX D ty g ad)) zno (zXC "java/lang/IndexOutOfBoundsException") 1 6 (fun _ => False) := by
  refine zXMet (cc := cX5_isMadeOf) (maxL := 7) (ret := (some .boolean)) (by decide) rfl (Nat.le_of_ble_eq_true rfl) ?_
  intro p e s m below meth c hx hb hr hts hown hlocks hml hno hB ls hl
  obtain ⟨⟨hP, hK, hN⟩, hQ, hT⟩ := hB
  obtain ⟨⟨hn1, hn1b⟩, h78, ⟨hn2, hn2b⟩, h12, ⟨hnL, hnLb⟩, h15, ⟨hn4, hn4b⟩, ⟨hn5, hn5b⟩, hrd5, hd0⟩ := id hI
  have hl : lv_has ls 7 [(0, .ref (ad 0)), (1, .int x), (2, .int v), (3, .int f), (4, .int x2), (5, .int v2), (6, .int f2)] := hl
  refine lv_aload_n hx hb dX5_isMadeOf_0 rfl (lv_at hl 0 rfl) ?_
  refine lv_iload_n hx hb dX5_isMadeOf_1 rfl (lv_at hl 1 rfl) ?_
  refine lv_iload_n hx hb dX5_isMadeOf_2 rfl (lv_at hl 2 rfl) ?_
  refine lv_iload_n hx hb dX5_isMadeOf_3 rfl (lv_at hl 3 rfl) ?_
  exact zxV (As := [.int x, .int v, .int f]) (rest := []) ⟨hx, hb, hml, hown, hts⟩ hno hlocks (c_X5_needPlace_x l hlt D ty g ad n1 n2 nL n4 n5 hI x v f h) (cwV 3 hts gX5_isMadeOf_X5_needPlace rfl rfl rfl (by decide +kernel) ⟨Nat.le_of_ble_eq_true rfl, Nat.le_of_ble_eq_true rfl⟩) zX_blind (zX_pre hP hK hN hQ hT) (va_recv hK hP (ci := 6) (q0 := 0) rfl rfl) rfl hl.1 rfl (Nat.le_of_ble_eq_true rfl) dX5_isMadeOf_4 ⟨Nat.le_of_ble_eq_true rfl, Nat.le_of_ble_eq_true rfl⟩
set_option maxHeartbeats 4000000 in
set_option maxRecDepth 100000 in
theorem c_X5_isMadeOf_xB2 (l : Launch) (hlt : l.stackTraces = false) (D : va_G) (ty : Nat → ClassId) (g : Nat → Nat → Int32) (ad : Nat → Nat) (n1 n2 nL n4 n5 : Nat) (hI : dI g n1 n2 nL n4 n5) (i v f : Nat) (hi : i < n1) (hv : v < nV g i) (hf : f < nF g i) (x2 v2 f2 : Int32) (h : badP g n1 x2 v2 f2) : vx_Met l yX5_isMadeOf wsX5_isMadeOf ({ frames := 9, cells := 1, slots := 6, locals := 156 }) (va_Pc [.ref (ad 0), .int (nI i), .int (nI v), .int (nI f), .int x2, .int v2, .int f2] (zX D ty g ad)) zno (zXC "java/lang/IndexOutOfBoundsException") 1 6 (fun _ => False) := by
  refine zXMet (cc := cX5_isMadeOf) (maxL := 7) (ret := (some .boolean)) (by decide) rfl (Nat.le_of_ble_eq_true rfl) ?_
  intro p e s m below meth c hx hb hr hts hown hlocks hml hno hB ls hl
  obtain ⟨⟨hP, hK, hN⟩, hQ, hT⟩ := hB
  obtain ⟨⟨hn1, hn1b⟩, h78, ⟨hn2, hn2b⟩, h12, ⟨hnL, hnLb⟩, h15, ⟨hn4, hn4b⟩, ⟨hn5, hn5b⟩, hrd5, hd0⟩ := id hI
  have hq7 : nF g i < 7 := (h78 i hi).1.2
  have hq8 : nV g i < 7 := (h78 i hi).2.1.2
  have hl : lv_has ls 7 [(0, .ref (ad 0)), (1, .int (nI i)), (2, .int (nI v)), (3, .int (nI f)), (4, .int x2), (5, .int v2), (6, .int f2)] := hl
  refine lv_aload_n hx hb dX5_isMadeOf_0 rfl (lv_at hl 0 rfl) ?_
  refine lv_iload_n hx hb dX5_isMadeOf_1 rfl (lv_at hl 1 rfl) ?_
  refine lv_iload_n hx hb dX5_isMadeOf_2 rfl (lv_at hl 2 rfl) ?_
  refine lv_iload_n hx hb dX5_isMadeOf_3 rfl (lv_at hl 3 rfl) ?_
  refine zcVv (As := [.int (nI i), .int (nI v), .int (nI f)]) (rest := []) ⟨hx, hb, hml, hown, hts⟩ (c_X5_needPlace l D ty g ad n1 n2 nL n4 n5 hI i v f (by omega) (by omega) (by omega)) (cwV 3 hts gX5_isMadeOf_X5_needPlace rfl rfl rfl (by decide +kernel) ⟨Nat.le_of_ble_eq_true rfl, Nat.le_of_ble_eq_true rfl⟩) zI_blind (zI_pre hP hK hN) (va_recv hK hP (ci := 6) (q0 := 0) rfl rfl) rfl hl.1 rfl (Nat.le_of_ble_eq_true rfl) dX5_isMadeOf_4 ⟨Nat.le_of_ble_eq_true rfl, Nat.le_of_ble_eq_true rfl⟩ (fun _ => ?_)
  refine lv_aload_n hx hb dX5_isMadeOf_7 rfl (lv_at hl 0 rfl) ?_
  refine lv_iload hx hb dX5_isMadeOf_8 (lv_at hl 4 rfl) ?_
  refine lv_iload hx hb dX5_isMadeOf_10 (lv_at hl 5 rfl) ?_
  refine lv_iload hx hb dX5_isMadeOf_12 (lv_at hl 6 rfl) ?_
  exact zxV (As := [.int x2, .int v2, .int f2]) (rest := []) ⟨hx, hb, hml, hown, hts⟩ hno hlocks (c_X5_needPlace_x l hlt D ty g ad n1 n2 nL n4 n5 hI x2 v2 f2 h) (cwV 3 hts gX5_isMadeOf_X5_needPlace rfl rfl rfl (by decide +kernel) ⟨Nat.le_of_ble_eq_true rfl, Nat.le_of_ble_eq_true rfl⟩) zX_blind (zX_pre hP hK hN hQ hT) (va_recv hK hP (ci := 6) (q0 := 0) rfl rfl) rfl hl.1 rfl (Nat.le_of_ble_eq_true rfl) dX5_isMadeOf_14 ⟨Nat.le_of_ble_eq_true rfl, Nat.le_of_ble_eq_true rfl⟩
theorem zsw {x : Int32} (n : Nat) (hn : n < 2 ^ 31) (h : x < 0 ∨ nI n ≤ x) : x.toInt < 0 ∨ (n : Int) ≤ x.toInt := by
  rcases h with h | h
  · exact Or.inl (Int32.lt_iff_toInt_lt.mp h)
  · have q := Int32.le_iff_toInt_le.mp h
    rw [nI_toInt hn] at q
    exact Or.inr q
set_option maxHeartbeats 4000000 in
set_option maxRecDepth 100000 in
theorem c_X5_ofSet_xB (l : Launch) (hlt : l.stackTraces = false) (D : va_G) (ty : Nat → ClassId) (g : Nat → Nat → Int32) (ad : Nat → Nat) (n1 n2 nL n4 n5 : Nat) (hI : dI g n1 n2 nL n4 n5) (x w0 : Int32) (h : x < 0 ∨ nI n1 ≤ x) : vx_Met l yX5_ofSet wsX5_ofSet ({ frames := 7, cells := 1, slots := 6, locals := 111 }) (va_Pc [.ref (ad 0), .int x, .int w0] (zX D ty g ad)) zno (zXC "java/lang/IndexOutOfBoundsException") 1 6 (fun _ => False) := by
  refine zXMet (cc := cX5_ofSet) (maxL := 3) (ret := (some .int)) (by decide) rfl (Nat.le_of_ble_eq_true rfl) ?_
  intro p e s m below meth c hx hb hr hts hown hlocks hml hno hB ls hl
  obtain ⟨⟨hP, hK, hN⟩, hQ, hT⟩ := hB
  obtain ⟨⟨hn1, hn1b⟩, h78, ⟨hn2, hn2b⟩, h12, ⟨hnL, hnLb⟩, h15, ⟨hn4, hn4b⟩, ⟨hn5, hn5b⟩, hrd5, hd0⟩ := id hI
  have hl : lv_has ls 3 [(0, .ref (ad 0)), (1, .int x), (2, .int w0)] := hl
  refine lv_aload_n hx hb dX5_ofSet_0 rfl (lv_at hl 0 rfl) ?_
  refine lv_iload_n hx hb dX5_ofSet_1 rfl (lv_at hl 1 rfl) ?_
  exact zxV (As := [.int x]) (rest := []) ⟨hx, hb, hml, hown, hts⟩ hno hlocks (c_X5_needSet_x l hlt D ty g ad n1 n2 nL n4 n5 hI x h) (cwV 1 hts gX5_ofSet_X5_needSet rfl rfl rfl (by decide +kernel) ⟨Nat.le_of_ble_eq_true rfl, Nat.le_of_ble_eq_true rfl⟩) zX_blind (zX_pre hP hK hN hQ hT) (va_recv hK hP (ci := 6) (q0 := 0) rfl rfl) rfl hl.1 rfl (Nat.le_of_ble_eq_true rfl) dX5_ofSet_2 ⟨Nat.le_of_ble_eq_true rfl, Nat.le_of_ble_eq_true rfl⟩
set_option maxHeartbeats 4000000 in
set_option maxRecDepth 100000 in
theorem c_X5_ofSet_xA (l : Launch) (hlt : l.stackTraces = false) (D : va_G) (ty : Nat → ClassId) (g : Nat → Nat → Int32) (ad : Nat → Nat) (n1 n2 nL n4 n5 : Nat) (hI : dI g n1 n2 nL n4 n5) (i : Nat) (hi : i < n1) (x : Int32) (h : x < 0 ∨ nI 7 ≤ x) : vx_Met l yX5_ofSet wsX5_ofSet ({ frames := 6, cells := 1, slots := 6, locals := 90 }) (va_Pc [.ref (ad 0), .int (nI i), .int x] (zX D ty g ad)) zno (zXC "java/lang/IllegalArgumentException") 1 6 (fun _ => False) := by
  refine zXMet (cc := cX5_ofSet) (maxL := 3) (ret := (some .int)) (by decide) rfl (Nat.le_of_ble_eq_true rfl) ?_
  intro p e s m below meth c hx hb hr hts hown hlocks hml hno hB ls hl
  obtain ⟨⟨hP, hK, hN⟩, hQ, hT⟩ := hB
  obtain ⟨⟨hn1, hn1b⟩, h78, ⟨hn2, hn2b⟩, h12, ⟨hnL, hnLb⟩, h15, ⟨hn4, hn4b⟩, ⟨hn5, hn5b⟩, hrd5, hd0⟩ := id hI
  have hq7 : nF g i < 7 := (h78 i hi).1.2
  have hq8 : nV g i < 7 := (h78 i hi).2.1.2
  have hl : lv_has ls 3 [(0, .ref (ad 0)), (1, .int (nI i)), (2, .int x)] := hl
  refine lv_aload_n hx hb dX5_ofSet_0 rfl (lv_at hl 0 rfl) ?_
  refine lv_iload_n hx hb dX5_ofSet_1 rfl (lv_at hl 1 rfl) ?_
  refine zcVv (As := [.int (nI i)]) (rest := []) ⟨hx, hb, hml, hown, hts⟩ (c_X5_needSet l D ty g ad n1 n2 nL n4 n5 hI i (by omega)) (cwV 1 hts gX5_ofSet_X5_needSet rfl rfl rfl (by decide +kernel) ⟨Nat.le_of_ble_eq_true rfl, Nat.le_of_ble_eq_true rfl⟩) zI_blind (zI_pre hP hK hN) (va_recv hK hP (ci := 6) (q0 := 0) rfl rfl) rfl hl.1 rfl (Nat.le_of_ble_eq_true rfl) dX5_ofSet_2 ⟨Nat.le_of_ble_eq_true rfl, Nat.le_of_ble_eq_true rfl⟩ (fun _ => ?_)
  refine lv_iload_n hx hb dX5_ofSet_5 rfl (lv_at hl 2 rfl) ?_
  refine lv_tableOut (tgt := 120) hx hb dX5_ofSet_6 ((zsw 7 (by decide) h).imp id (fun q => by omega)) (by decide) ?_
  exact zthrS (text := "what is not 0 to 6") (E0 := "java/lang/IllegalArgumentException") (own := RX5) hx hb hlt hown hts hno hlocks hml hN hQ hT rfl zfit_A (by decide +kernel) (by decide +kernel) (by decide +kernel) zbad_A zgood_A (by decide +kernel) hl.1 dX5_ofSet_120 dX5_ofSet_123 dX5_ofSet_124 dX5_ofSet_126 dX5_ofSet_129 (Nat.le_of_ble_eq_true rfl) (Nat.le_of_ble_eq_true rfl) (Nat.le_of_ble_eq_true rfl) (Nat.le_of_ble_eq_true rfl)
set_option maxHeartbeats 4000000 in
set_option maxRecDepth 100000 in
theorem c_X5_ofReader_xB (l : Launch) (hlt : l.stackTraces = false) (D : va_G) (ty : Nat → ClassId) (g : Nat → Nat → Int32) (ad : Nat → Nat) (n1 n2 nL n4 n5 : Nat) (hI : dI g n1 n2 nL n4 n5) (x w0 : Int32) (h : x < 0 ∨ nI 6 ≤ x) : vx_Met l yX5_ofReader wsX5_ofReader ({ frames := 7, cells := 1, slots := 6, locals := 110 }) (va_Pc [.ref (ad 0), .int x, .int w0] (zX D ty g ad)) zno (zXC "java/lang/IndexOutOfBoundsException") 1 6 (fun _ => False) := by
  refine zXMet (cc := cX5_ofReader) (maxL := 3) (ret := (some .int)) (by decide) rfl (Nat.le_of_ble_eq_true rfl) ?_
  intro p e s m below meth c hx hb hr hts hown hlocks hml hno hB ls hl
  obtain ⟨⟨hP, hK, hN⟩, hQ, hT⟩ := hB
  obtain ⟨⟨hn1, hn1b⟩, h78, ⟨hn2, hn2b⟩, h12, ⟨hnL, hnLb⟩, h15, ⟨hn4, hn4b⟩, ⟨hn5, hn5b⟩, hrd5, hd0⟩ := id hI
  have hl : lv_has ls 3 [(0, .ref (ad 0)), (1, .int x), (2, .int w0)] := hl
  refine lv_iload_n hx hb dX5_ofReader_0 rfl (lv_at hl 1 rfl) ?_
  exact zxS (As := [.int x]) (rest := []) ⟨hx, hb, hml, hown, hts⟩ hno hlocks (c_X5_needReader_x l hlt x h) (cwS 1 hts gX5_ofReader_X5_needReader rfl rfl rfl (by decide +kernel) ⟨Nat.le_of_ble_eq_true rfl, Nat.le_of_ble_eq_true rfl⟩) zXB_blind (zXB_pre hN hQ hT) rfl hl.1 rfl (Nat.le_of_ble_eq_true rfl) dX5_ofReader_1 ⟨Nat.le_of_ble_eq_true rfl, Nat.le_of_ble_eq_true rfl⟩
set_option maxHeartbeats 4000000 in
set_option maxRecDepth 100000 in
theorem c_X5_ofReader_xA (l : Launch) (hlt : l.stackTraces = false) (D : va_G) (ty : Nat → ClassId) (g : Nat → Nat → Int32) (ad : Nat → Nat) (n1 n2 nL n4 n5 : Nat) (hI : dI g n1 n2 nL n4 n5) (R : Nat) (hR : R < 6) (x : Int32) (h : x < 0 ∨ nI 7 ≤ x) : vx_Met l yX5_ofReader wsX5_ofReader ({ frames := 6, cells := 1, slots := 6, locals := 90 }) (va_Pc [.ref (ad 0), .int (nI R), .int x] (zX D ty g ad)) zno (zXC "java/lang/IllegalArgumentException") 1 6 (fun _ => False) := by
  refine zXMet (cc := cX5_ofReader) (maxL := 3) (ret := (some .int)) (by decide) rfl (Nat.le_of_ble_eq_true rfl) ?_
  intro p e s m below meth c hx hb hr hts hown hlocks hml hno hB ls hl
  obtain ⟨⟨hP, hK, hN⟩, hQ, hT⟩ := hB
  obtain ⟨⟨hn1, hn1b⟩, h78, ⟨hn2, hn2b⟩, h12, ⟨hnL, hnLb⟩, h15, ⟨hn4, hn4b⟩, ⟨hn5, hn5b⟩, hrd5, hd0⟩ := id hI
  have hl : lv_has ls 3 [(0, .ref (ad 0)), (1, .int (nI R)), (2, .int x)] := hl
  refine lv_iload_n hx hb dX5_ofReader_0 rfl (lv_at hl 1 rfl) ?_
  refine zcSv (As := [.int (nI R)]) (rest := []) ⟨hx, hb, hml, hown, hts⟩ (c_X5_needReader l _ R (by omega)) (cwS 1 hts gX5_ofReader_X5_needReader rfl rfl rfl (by decide +kernel) ⟨Nat.le_of_ble_eq_true rfl, Nat.le_of_ble_eq_true rfl⟩) (B := fun _ => True) (fun _ _ _ _ _ => trivial) (fun _ _ _ => trivial) rfl hl.1 rfl (Nat.le_of_ble_eq_true rfl) dX5_ofReader_1 ⟨Nat.le_of_ble_eq_true rfl, Nat.le_of_ble_eq_true rfl⟩ (fun _ => ?_)
  refine lv_iload_n hx hb dX5_ofReader_4 rfl (lv_at hl 2 rfl) ?_
  refine lv_tableOut (tgt := 136) hx hb dX5_ofReader_5 ((zsw 7 (by decide) h).imp id (fun q => by omega)) (by decide) ?_
  exact zthrS (text := "what is not 0 to 6") (E0 := "java/lang/IllegalArgumentException") (own := RX5) hx hb hlt hown hts hno hlocks hml hN hQ hT rfl zfit_A (by decide +kernel) (by decide +kernel) (by decide +kernel) zbad_A zgood_A (by decide +kernel) hl.1 dX5_ofReader_136 dX5_ofReader_139 dX5_ofReader_140 dX5_ofReader_142 dX5_ofReader_145 (Nat.le_of_ble_eq_true rfl) (Nat.le_of_ble_eq_true rfl) (Nat.le_of_ble_eq_true rfl) (Nat.le_of_ble_eq_true rfl)
set_option maxHeartbeats 4000000 in
set_option maxRecDepth 100000 in
theorem c_X5_many_xA (l : Launch) (hlt : l.stackTraces = false) (D : va_G) (ty : Nat → ClassId) (g : Nat → Nat → Int32) (ad : Nat → Nat) (n1 n2 nL n4 n5 : Nat) (hI : dI g n1 n2 nL n4 n5) (x : Int32) (h : x < 0 ∨ nI 9 ≤ x) : vx_Met l yX5_many wsX5_many ({ frames := 6, cells := 1, slots := 6, locals := 90 }) (va_Pc [.ref (ad 0), .int x] (zX D ty g ad)) zno (zXC "java/lang/IllegalArgumentException") 1 6 (fun _ => False) := by
  refine zXMet (cc := cX5_many) (maxL := 2) (ret := (some .int)) (by decide) rfl (Nat.le_of_ble_eq_true rfl) ?_
  intro p e s m below meth c hx hb hr hts hown hlocks hml hno hB ls hl
  obtain ⟨⟨hP, hK, hN⟩, hQ, hT⟩ := hB
  obtain ⟨⟨hn1, hn1b⟩, h78, ⟨hn2, hn2b⟩, h12, ⟨hnL, hnLb⟩, h15, ⟨hn4, hn4b⟩, ⟨hn5, hn5b⟩, hrd5, hd0⟩ := id hI
  have hl : lv_has ls 2 [(0, .ref (ad 0)), (1, .int x)] := hl
  refine lv_iload_n hx hb dX5_many_0 rfl (lv_at hl 1 rfl) ?_
  refine lv_tableOut (tgt := 133) hx hb dX5_many_1 ((zsw 9 (by decide) h).imp id (fun q => by omega)) (by decide) ?_
  exact zthrW (text := "what is not 0 to 8") (E0 := "java/lang/IllegalArgumentException") (own := RX5) hx hb hlt hown hts hno hlocks hml hN hQ hT rfl zfit_A (by decide +kernel) (by decide +kernel) (by decide +kernel) zbad_A zgood_A (by decide +kernel) hl.1 dX5_many_133 dX5_many_136 dX5_many_137 dX5_many_140 dX5_many_143 (Nat.le_of_ble_eq_true rfl) (Nat.le_of_ble_eq_true rfl) (Nat.le_of_ble_eq_true rfl) (Nat.le_of_ble_eq_true rfl)
set_option maxHeartbeats 4000000 in
set_option maxRecDepth 100000 in
theorem c_X5_ofRead_xB (l : Launch) (hlt : l.stackTraces = false) (D : va_G) (ty : Nat → ClassId) (g : Nat → Nat → Int32) (ad : Nat → Nat) (n1 n2 nL n4 n5 : Nat) (hI : dI g n1 n2 nL n4 n5) (x w0 : Int32) (h : x < 0 ∨ nI n5 ≤ x) : vx_Met l yX5_ofRead wsX5_ofRead ({ frames := 6, cells := 1, slots := 6, locals := 90 }) (va_Pc [.ref (ad 0), .int x, .int w0] (zX D ty g ad)) zno (zXC "java/lang/IndexOutOfBoundsException") 1 6 (fun _ => False) := by
  refine zXMet (cc := cX5_ofRead) (maxL := 3) (ret := (some .int)) (by decide) rfl (Nat.le_of_ble_eq_true rfl) ?_
  intro p e s m below meth c hx hb hr hts hown hlocks hml hno hB ls hl
  obtain ⟨⟨hP, hK, hN⟩, hQ, hT⟩ := hB
  obtain ⟨⟨hn1, hn1b⟩, h78, ⟨hn2, hn2b⟩, h12, ⟨hnL, hnLb⟩, h15, ⟨hn4, hn4b⟩, ⟨hn5, hn5b⟩, hrd5, hd0⟩ := id hI
  have hl : lv_has ls 3 [(0, .ref (ad 0)), (1, .int x), (2, .int w0)] := hl
  have hk0 := hts (.fieldLink RX5 40 "DatamarketDesk" "reads" "LDatamarketDesk$Reads;") (by decide +kernel)
  have hinX5 : ∀ w ∈ wsX50, w ∈ wsX5_ofRead := by decide +kernel
  have hinX3 : ∀ w ∈ wsX30, w ∈ wsX5_ofRead := by decide +kernel
  refine lv_iload_n hx hb dX5_ofRead_0 rfl (lv_at hl 1 rfl) ?_
  refine lv_if_lt (tgt := 15) hx hb dX5_ofRead_1 (by decide) (fun c_1 => ?_) (fun c_1 => ?_)
  · exact zthrW (text := "no such read") (E0 := "java/lang/IndexOutOfBoundsException") (own := RX5) hx hb hlt hown hts hno hlocks hml hN hQ hT rfl zfit_B (by decide +kernel) (by decide +kernel) (by decide +kernel) zbad_B zgood_B (by decide +kernel) hl.1 dX5_ofRead_15 dX5_ofRead_18 dX5_ofRead_19 dX5_ofRead_22 dX5_ofRead_25 (Nat.le_of_ble_eq_true rfl) (Nat.le_of_ble_eq_true rfl) (Nat.le_of_ble_eq_true rfl) (Nat.le_of_ble_eq_true rfl)
  · refine lv_iload_n hx hb dX5_ofRead_4 rfl (lv_at hl 1 rfl) ?_
    refine lv_aload_n hx hb dX5_ofRead_5 rfl (lv_at hl 0 rfl) ?_
    refine va_get hx hb hts hinX5 hown hK hP 0 rfl rfl 4 (by decide) (hk0) (fun _ h9 => h9) rfl dX5_ofRead_6 ?_
    refine va_getN hx hb hts hinX3 hown hK hP 5 rfl rfl 0 (by decide) (zN.use hN (List.mem_of_getElem? (i := 16) rfl)) (fun _ h9 => h9) rfl dX5_ofRead_9 ?_
    refine zeq hn5 ?_
    refine lv_icmp_lt (tgt := 26) hx hb dX5_ofRead_12 (by decide) (fun c_2 => ?_) (fun c_2 => ?_)
    · exfalso; rcases h with h | h <;> first | exact absurd h (by assumption) | exact absurd (by assumption) (Int32.not_lt.mpr h) | exact absurd h (Int32.not_lt.mpr (by assumption)) | omega
    · exact zthrW (text := "no such read") (E0 := "java/lang/IndexOutOfBoundsException") (own := RX5) hx hb hlt hown hts hno hlocks hml hN hQ hT rfl zfit_B (by decide +kernel) (by decide +kernel) (by decide +kernel) zbad_B zgood_B (by decide +kernel) hl.1 dX5_ofRead_15 dX5_ofRead_18 dX5_ofRead_19 dX5_ofRead_22 dX5_ofRead_25 (Nat.le_of_ble_eq_true rfl) (Nat.le_of_ble_eq_true rfl) (Nat.le_of_ble_eq_true rfl) (Nat.le_of_ble_eq_true rfl)
set_option maxHeartbeats 4000000 in
set_option maxRecDepth 100000 in
theorem c_X5_ofRead_xA (l : Launch) (hlt : l.stackTraces = false) (D : va_G) (ty : Nat → ClassId) (g : Nat → Nat → Int32) (ad : Nat → Nat) (n1 n2 nL n4 n5 : Nat) (hI : dI g n1 n2 nL n4 n5) (r0 : Nat) (hr0 : r0 < n5) (x : Int32) (h : x < 0 ∨ nI 12 ≤ x) : vx_Met l yX5_ofRead wsX5_ofRead ({ frames := 6, cells := 1, slots := 6, locals := 90 }) (va_Pc [.ref (ad 0), .int (nI r0), .int x] (zX D ty g ad)) zno (zXC "java/lang/IllegalArgumentException") 1 6 (fun _ => False) := by
  refine zXMet (cc := cX5_ofRead) (maxL := 3) (ret := (some .int)) (by decide) rfl (Nat.le_of_ble_eq_true rfl) ?_
  intro p e s m below meth c hx hb hr hts hown hlocks hml hno hB ls hl
  obtain ⟨⟨hP, hK, hN⟩, hQ, hT⟩ := hB
  obtain ⟨⟨hn1, hn1b⟩, h78, ⟨hn2, hn2b⟩, h12, ⟨hnL, hnLb⟩, h15, ⟨hn4, hn4b⟩, ⟨hn5, hn5b⟩, hrd5, hd0⟩ := id hI
  have hl : lv_has ls 3 [(0, .ref (ad 0)), (1, .int (nI r0)), (2, .int x)] := hl
  have hk0 := hts (.fieldLink RX5 40 "DatamarketDesk" "reads" "LDatamarketDesk$Reads;") (by decide +kernel)
  have hinX5 : ∀ w ∈ wsX50, w ∈ wsX5_ofRead := by decide +kernel
  have hinX3 : ∀ w ∈ wsX30, w ∈ wsX5_ofRead := by decide +kernel
  refine lv_iload_n hx hb dX5_ofRead_0 rfl (lv_at hl 1 rfl) ?_
  refine lv_if_lt (tgt := 15) hx hb dX5_ofRead_1 (by decide) (fun c_1 => ?_) (fun c_1 => ?_)
  · have c_1 := zq_ltT (x := r0) (by omega) c_1
    exact c_1.elim
  · have c_1 := zq_ltF (x := r0) (by omega) c_1
    refine lv_iload_n hx hb dX5_ofRead_4 rfl (lv_at hl 1 rfl) ?_
    refine lv_aload_n hx hb dX5_ofRead_5 rfl (lv_at hl 0 rfl) ?_
    refine va_get hx hb hts hinX5 hown hK hP 0 rfl rfl 4 (by decide) (hk0) (fun _ h9 => h9) rfl dX5_ofRead_6 ?_
    refine va_getN hx hb hts hinX3 hown hK hP 5 rfl rfl 0 (by decide) (zN.use hN (List.mem_of_getElem? (i := 16) rfl)) (fun _ h9 => h9) rfl dX5_ofRead_9 ?_
    refine zeq hn5 ?_
    refine lv_icmp_lt (tgt := 26) hx hb dX5_ofRead_12 (by decide) (fun c_2 => ?_) (fun c_2 => ?_)
    · have c_2 := zn_ltT (a := r0) (b := n5) (by omega) (by omega) c_2
      refine lv_iload_n hx hb dX5_ofRead_26 rfl (lv_at hl 2 rfl) ?_
      refine lv_tableOut (tgt := 212) hx hb dX5_ofRead_27 ((zsw 12 (by decide) h).imp id (fun q => by omega)) (by decide) ?_
      exact zthrW (text := "what is not 0 to 11") (E0 := "java/lang/IllegalArgumentException") (own := RX5) hx hb hlt hown hts hno hlocks hml hN hQ hT rfl zfit_A (by decide +kernel) (by decide +kernel) (by decide +kernel) zbad_A zgood_A (by decide +kernel) hl.1 dX5_ofRead_212 dX5_ofRead_215 dX5_ofRead_216 dX5_ofRead_219 dX5_ofRead_222 (Nat.le_of_ble_eq_true rfl) (Nat.le_of_ble_eq_true rfl) (Nat.le_of_ble_eq_true rfl) (Nat.le_of_ble_eq_true rfl)
    · have c_2 := zn_ltF (a := r0) (b := n5) (by omega) (by omega) c_2
      omega
set_option maxHeartbeats 4000000 in
set_option maxRecDepth 100000 in
theorem c_X5_covered_xB1 (l : Launch) (hlt : l.stackTraces = false) (D : va_G) (ty : Nat → ClassId) (g : Nat → Nat → Int32) (ad : Nat → Nat) (n1 n2 nL n4 n5 : Nat) (hI : dI g n1 n2 nL n4 n5) (x y z d : Int32) (h : x < 0 ∨ nI 6 ≤ x) : vx_Met l yX5_covered wsX5_covered ({ frames := 7, cells := 1, slots := 6, locals := 110 }) (va_Pc [.ref (ad 0), .int x, .int y, .int z, .int d] (zX D ty g ad)) zno (zXC "java/lang/IndexOutOfBoundsException") 1 6 (fun _ => False) := by
  refine zXMet (cc := cX5_covered) (maxL := 5) (ret := (some .int)) (by decide) rfl (Nat.le_of_ble_eq_true rfl) ?_
  intro p e s m below meth c hx hb hr hts hown hlocks hml hno hB ls hl
  obtain ⟨⟨hP, hK, hN⟩, hQ, hT⟩ := hB
  obtain ⟨⟨hn1, hn1b⟩, h78, ⟨hn2, hn2b⟩, h12, ⟨hnL, hnLb⟩, h15, ⟨hn4, hn4b⟩, ⟨hn5, hn5b⟩, hrd5, hd0⟩ := id hI
  have hl : lv_has ls 5 [(0, .ref (ad 0)), (1, .int x), (2, .int y), (3, .int z), (4, .int d)] := hl
  refine lv_iload_n hx hb dX5_covered_0 rfl (lv_at hl 1 rfl) ?_
  exact zxS (As := [.int x]) (rest := []) ⟨hx, hb, hml, hown, hts⟩ hno hlocks (c_X5_needReader_x l hlt x h) (cwS 1 hts gX5_covered_X5_needReader rfl rfl rfl (by decide +kernel) ⟨Nat.le_of_ble_eq_true rfl, Nat.le_of_ble_eq_true rfl⟩) zXB_blind (zXB_pre hN hQ hT) rfl hl.1 rfl (Nat.le_of_ble_eq_true rfl) dX5_covered_1 ⟨Nat.le_of_ble_eq_true rfl, Nat.le_of_ble_eq_true rfl⟩
set_option maxHeartbeats 4000000 in
set_option maxRecDepth 100000 in
theorem c_X5_covered_xB2 (l : Launch) (hlt : l.stackTraces = false) (D : va_G) (ty : Nat → ClassId) (g : Nat → Nat → Int32) (ad : Nat → Nat) (n1 n2 nL n4 n5 : Nat) (hI : dI g n1 n2 nL n4 n5) (R : Nat) (hR : R < 6) (x z d : Int32) (h : x < 0 ∨ nI n1 ≤ x) : vx_Met l yX5_covered wsX5_covered ({ frames := 7, cells := 1, slots := 6, locals := 111 }) (va_Pc [.ref (ad 0), .int (nI R), .int x, .int z, .int d] (zX D ty g ad)) zno (zXC "java/lang/IndexOutOfBoundsException") 1 6 (fun _ => False) := by
  refine zXMet (cc := cX5_covered) (maxL := 5) (ret := (some .int)) (by decide) rfl (Nat.le_of_ble_eq_true rfl) ?_
  intro p e s m below meth c hx hb hr hts hown hlocks hml hno hB ls hl
  obtain ⟨⟨hP, hK, hN⟩, hQ, hT⟩ := hB
  obtain ⟨⟨hn1, hn1b⟩, h78, ⟨hn2, hn2b⟩, h12, ⟨hnL, hnLb⟩, h15, ⟨hn4, hn4b⟩, ⟨hn5, hn5b⟩, hrd5, hd0⟩ := id hI
  have hl : lv_has ls 5 [(0, .ref (ad 0)), (1, .int (nI R)), (2, .int x), (3, .int z), (4, .int d)] := hl
  refine lv_iload_n hx hb dX5_covered_0 rfl (lv_at hl 1 rfl) ?_
  refine zcSv (As := [.int (nI R)]) (rest := []) ⟨hx, hb, hml, hown, hts⟩ (c_X5_needReader l _ R (by omega)) (cwS 1 hts gX5_covered_X5_needReader rfl rfl rfl (by decide +kernel) ⟨Nat.le_of_ble_eq_true rfl, Nat.le_of_ble_eq_true rfl⟩) (B := fun _ => True) (fun _ _ _ _ _ => trivial) (fun _ _ _ => trivial) rfl hl.1 rfl (Nat.le_of_ble_eq_true rfl) dX5_covered_1 ⟨Nat.le_of_ble_eq_true rfl, Nat.le_of_ble_eq_true rfl⟩ (fun _ => ?_)
  refine lv_aload_n hx hb dX5_covered_4 rfl (lv_at hl 0 rfl) ?_
  refine lv_iload_n hx hb dX5_covered_5 rfl (lv_at hl 2 rfl) ?_
  exact zxV (As := [.int x]) (rest := []) ⟨hx, hb, hml, hown, hts⟩ hno hlocks (c_X5_needSet_x l hlt D ty g ad n1 n2 nL n4 n5 hI x h) (cwV 1 hts gX5_covered_X5_needSet rfl rfl rfl (by decide +kernel) ⟨Nat.le_of_ble_eq_true rfl, Nat.le_of_ble_eq_true rfl⟩) zX_blind (zX_pre hP hK hN hQ hT) (va_recv hK hP (ci := 6) (q0 := 0) rfl rfl) rfl hl.1 rfl (Nat.le_of_ble_eq_true rfl) dX5_covered_6 ⟨Nat.le_of_ble_eq_true rfl, Nat.le_of_ble_eq_true rfl⟩
set_option maxHeartbeats 4000000 in
set_option maxRecDepth 100000 in
theorem c_X5_covered_xB3 (l : Launch) (hlt : l.stackTraces = false) (D : va_G) (ty : Nat → ClassId) (g : Nat → Nat → Int32) (ad : Nat → Nat) (n1 n2 nL n4 n5 : Nat) (hI : dI g n1 n2 nL n4 n5) (R i : Nat) (hR : R < 6) (hi : i < n1) (x d : Int32) (h : x < 0 ∨ nI 4 ≤ x) : vx_Met l yX5_covered wsX5_covered ({ frames := 7, cells := 1, slots := 6, locals := 110 }) (va_Pc [.ref (ad 0), .int (nI R), .int (nI i), .int x, .int d] (zX D ty g ad)) zno (zXC "java/lang/IndexOutOfBoundsException") 1 6 (fun _ => False) := by
  refine zXMet (cc := cX5_covered) (maxL := 5) (ret := (some .int)) (by decide) rfl (Nat.le_of_ble_eq_true rfl) ?_
  intro p e s m below meth c hx hb hr hts hown hlocks hml hno hB ls hl
  obtain ⟨⟨hP, hK, hN⟩, hQ, hT⟩ := hB
  obtain ⟨⟨hn1, hn1b⟩, h78, ⟨hn2, hn2b⟩, h12, ⟨hnL, hnLb⟩, h15, ⟨hn4, hn4b⟩, ⟨hn5, hn5b⟩, hrd5, hd0⟩ := id hI
  have hq7 : nF g i < 7 := (h78 i hi).1.2
  have hq8 : nV g i < 7 := (h78 i hi).2.1.2
  have hl : lv_has ls 5 [(0, .ref (ad 0)), (1, .int (nI R)), (2, .int (nI i)), (3, .int x), (4, .int d)] := hl
  refine lv_iload_n hx hb dX5_covered_0 rfl (lv_at hl 1 rfl) ?_
  refine zcSv (As := [.int (nI R)]) (rest := []) ⟨hx, hb, hml, hown, hts⟩ (c_X5_needReader l _ R (by omega)) (cwS 1 hts gX5_covered_X5_needReader rfl rfl rfl (by decide +kernel) ⟨Nat.le_of_ble_eq_true rfl, Nat.le_of_ble_eq_true rfl⟩) (B := fun _ => True) (fun _ _ _ _ _ => trivial) (fun _ _ _ => trivial) rfl hl.1 rfl (Nat.le_of_ble_eq_true rfl) dX5_covered_1 ⟨Nat.le_of_ble_eq_true rfl, Nat.le_of_ble_eq_true rfl⟩ (fun _ => ?_)
  refine lv_aload_n hx hb dX5_covered_4 rfl (lv_at hl 0 rfl) ?_
  refine lv_iload_n hx hb dX5_covered_5 rfl (lv_at hl 2 rfl) ?_
  refine zcVv (As := [.int (nI i)]) (rest := []) ⟨hx, hb, hml, hown, hts⟩ (c_X5_needSet l D ty g ad n1 n2 nL n4 n5 hI i (by omega)) (cwV 1 hts gX5_covered_X5_needSet rfl rfl rfl (by decide +kernel) ⟨Nat.le_of_ble_eq_true rfl, Nat.le_of_ble_eq_true rfl⟩) zI_blind (zI_pre hP hK hN) (va_recv hK hP (ci := 6) (q0 := 0) rfl rfl) rfl hl.1 rfl (Nat.le_of_ble_eq_true rfl) dX5_covered_6 ⟨Nat.le_of_ble_eq_true rfl, Nat.le_of_ble_eq_true rfl⟩ (fun _ => ?_)
  refine lv_iload_n hx hb dX5_covered_9 rfl (lv_at hl 3 rfl) ?_
  exact zxS (As := [.int x]) (rest := []) ⟨hx, hb, hml, hown, hts⟩ hno hlocks (c_X5_needPurpose_x l hlt x h) (cwS 1 hts gX5_covered_X5_needPurpose rfl rfl rfl (by decide +kernel) ⟨Nat.le_of_ble_eq_true rfl, Nat.le_of_ble_eq_true rfl⟩) zXB_blind (zXB_pre hN hQ hT) rfl hl.1 rfl (Nat.le_of_ble_eq_true rfl) dX5_covered_10 ⟨Nat.le_of_ble_eq_true rfl, Nat.le_of_ble_eq_true rfl⟩
set_option maxHeartbeats 4000000 in
set_option maxRecDepth 100000 in
theorem c_X5_covered_xA (l : Launch) (hlt : l.stackTraces = false) (D : va_G) (ty : Nat → ClassId) (g : Nat → Nat → Int32) (ad : Nat → Nat) (n1 n2 nL n4 n5 : Nat) (hI : dI g n1 n2 nL n4 n5) (R i P : Nat) (hR : R < 6) (hi : i < n1) (hPp : P < 4) (d : Int32) (h : d < 0 ∨ nI 359 < d) : vx_Met l yX5_covered wsX5_covered ({ frames := 6, cells := 1, slots := 6, locals := 90 }) (va_Pc [.ref (ad 0), .int (nI R), .int (nI i), .int (nI P), .int d] (zX D ty g ad)) zno (zXC "java/lang/IllegalArgumentException") 1 6 (fun _ => False) := by
  refine zXMet (cc := cX5_covered) (maxL := 5) (ret := (some .int)) (by decide) rfl (Nat.le_of_ble_eq_true rfl) ?_
  intro p e s m below meth c hx hb hr hts hown hlocks hml hno hB ls hl
  obtain ⟨⟨hP, hK, hN⟩, hQ, hT⟩ := hB
  obtain ⟨⟨hn1, hn1b⟩, h78, ⟨hn2, hn2b⟩, h12, ⟨hnL, hnLb⟩, h15, ⟨hn4, hn4b⟩, ⟨hn5, hn5b⟩, hrd5, hd0⟩ := id hI
  have hq7 : nF g i < 7 := (h78 i hi).1.2
  have hq8 : nV g i < 7 := (h78 i hi).2.1.2
  have hl : lv_has ls 5 [(0, .ref (ad 0)), (1, .int (nI R)), (2, .int (nI i)), (3, .int (nI P)), (4, .int d)] := hl
  refine lv_iload_n hx hb dX5_covered_0 rfl (lv_at hl 1 rfl) ?_
  refine zcSv (As := [.int (nI R)]) (rest := []) ⟨hx, hb, hml, hown, hts⟩ (c_X5_needReader l _ R (by omega)) (cwS 1 hts gX5_covered_X5_needReader rfl rfl rfl (by decide +kernel) ⟨Nat.le_of_ble_eq_true rfl, Nat.le_of_ble_eq_true rfl⟩) (B := fun _ => True) (fun _ _ _ _ _ => trivial) (fun _ _ _ => trivial) rfl hl.1 rfl (Nat.le_of_ble_eq_true rfl) dX5_covered_1 ⟨Nat.le_of_ble_eq_true rfl, Nat.le_of_ble_eq_true rfl⟩ (fun _ => ?_)
  refine lv_aload_n hx hb dX5_covered_4 rfl (lv_at hl 0 rfl) ?_
  refine lv_iload_n hx hb dX5_covered_5 rfl (lv_at hl 2 rfl) ?_
  refine zcVv (As := [.int (nI i)]) (rest := []) ⟨hx, hb, hml, hown, hts⟩ (c_X5_needSet l D ty g ad n1 n2 nL n4 n5 hI i (by omega)) (cwV 1 hts gX5_covered_X5_needSet rfl rfl rfl (by decide +kernel) ⟨Nat.le_of_ble_eq_true rfl, Nat.le_of_ble_eq_true rfl⟩) zI_blind (zI_pre hP hK hN) (va_recv hK hP (ci := 6) (q0 := 0) rfl rfl) rfl hl.1 rfl (Nat.le_of_ble_eq_true rfl) dX5_covered_6 ⟨Nat.le_of_ble_eq_true rfl, Nat.le_of_ble_eq_true rfl⟩ (fun _ => ?_)
  refine lv_iload_n hx hb dX5_covered_9 rfl (lv_at hl 3 rfl) ?_
  refine zcSv (As := [.int (nI P)]) (rest := []) ⟨hx, hb, hml, hown, hts⟩ (c_X5_needPurpose l _ P (by omega)) (cwS 1 hts gX5_covered_X5_needPurpose rfl rfl rfl (by decide +kernel) ⟨Nat.le_of_ble_eq_true rfl, Nat.le_of_ble_eq_true rfl⟩) (B := fun _ => True) (fun _ _ _ _ _ => trivial) (fun _ _ _ => trivial) rfl hl.1 rfl (Nat.le_of_ble_eq_true rfl) dX5_covered_10 ⟨Nat.le_of_ble_eq_true rfl, Nat.le_of_ble_eq_true rfl⟩ (fun _ => ?_)
  refine lv_iload hx hb dX5_covered_13 (lv_at hl 4 rfl) ?_
  refine lv_if_lt (tgt := 26) hx hb dX5_covered_15 (by decide) (fun c_4 => ?_) (fun c_4 => ?_)
  · exact zthrS (text := "day is not 0 to 359") (E0 := "java/lang/IllegalArgumentException") (own := RX5) hx hb hlt hown hts hno hlocks hml hN hQ hT rfl zfit_A (by decide +kernel) (by decide +kernel) (by decide +kernel) zbad_A zgood_A (by decide +kernel) hl.1 dX5_covered_26 dX5_covered_29 dX5_covered_30 dX5_covered_32 dX5_covered_35 (Nat.le_of_ble_eq_true rfl) (Nat.le_of_ble_eq_true rfl) (Nat.le_of_ble_eq_true rfl) (Nat.le_of_ble_eq_true rfl)
  · refine lv_iload hx hb dX5_covered_18 (lv_at hl 4 rfl) ?_
    refine lv_sipush (v := nI 359) hx hb dX5_covered_20 (by decide) ?_
    refine lv_icmp_le (tgt := 36) hx hb dX5_covered_23 (by decide) (fun c_5 => ?_) (fun c_5 => ?_)
    · exfalso; rcases h with h | h <;> first | exact absurd h (by assumption) | exact absurd (by assumption) (Int32.not_lt.mpr h) | exact absurd h (Int32.not_lt.mpr (by assumption)) | omega
    · exact zthrS (text := "day is not 0 to 359") (E0 := "java/lang/IllegalArgumentException") (own := RX5) hx hb hlt hown hts hno hlocks hml hN hQ hT rfl zfit_A (by decide +kernel) (by decide +kernel) (by decide +kernel) zbad_A zgood_A (by decide +kernel) hl.1 dX5_covered_26 dX5_covered_29 dX5_covered_30 dX5_covered_32 dX5_covered_35 (Nat.le_of_ble_eq_true rfl) (Nat.le_of_ble_eq_true rfl) (Nat.le_of_ble_eq_true rfl) (Nat.le_of_ble_eq_true rfl)
set_option maxHeartbeats 4000000 in
set_option maxRecDepth 100000 in
theorem c_X5_quote_xB1 (l : Launch) (hlt : l.stackTraces = false) (D : va_G) (ty : Nat → ClassId) (g : Nat → Nat → Int32) (ad : Nat → Nat) (n1 n2 nL n4 n5 : Nat) (hI : dI g n1 n2 nL n4 n5) (x y F z : Int32) (h : x < 0 ∨ nI 6 ≤ x) : vx_Met l yX5_quote wsX5_quote ({ frames := 7, cells := 1, slots := 6, locals := 110 }) (va_Pc [.ref (ad 0), .int x, .int y, .int F, .int z] (zX D ty g ad)) zno (zXC "java/lang/IndexOutOfBoundsException") 1 6 (fun _ => False) := by
  refine zXMet (cc := cX5_quote) (maxL := 8) (ret := (some .int)) (by decide) rfl (Nat.le_of_ble_eq_true rfl) ?_
  intro p e s m below meth c hx hb hr hts hown hlocks hml hno hB ls hl
  obtain ⟨⟨hP, hK, hN⟩, hQ, hT⟩ := hB
  obtain ⟨⟨hn1, hn1b⟩, h78, ⟨hn2, hn2b⟩, h12, ⟨hnL, hnLb⟩, h15, ⟨hn4, hn4b⟩, ⟨hn5, hn5b⟩, hrd5, hd0⟩ := id hI
  have hl : lv_has ls 8 [(0, .ref (ad 0)), (1, .int x), (2, .int y), (3, .int F), (4, .int z)] := hl
  refine lv_iload_n hx hb dX5_quote_0 rfl (lv_at hl 1 rfl) ?_
  exact zxS (As := [.int x]) (rest := []) ⟨hx, hb, hml, hown, hts⟩ hno hlocks (c_X5_needReader_x l hlt x h) (cwS 1 hts gX5_quote_X5_needReader rfl rfl rfl (by decide +kernel) ⟨Nat.le_of_ble_eq_true rfl, Nat.le_of_ble_eq_true rfl⟩) zXB_blind (zXB_pre hN hQ hT) rfl hl.1 rfl (Nat.le_of_ble_eq_true rfl) dX5_quote_1 ⟨Nat.le_of_ble_eq_true rfl, Nat.le_of_ble_eq_true rfl⟩
set_option maxHeartbeats 4000000 in
set_option maxRecDepth 100000 in
theorem c_X5_quote_xB2 (l : Launch) (hlt : l.stackTraces = false) (D : va_G) (ty : Nat → ClassId) (g : Nat → Nat → Int32) (ad : Nat → Nat) (n1 n2 nL n4 n5 : Nat) (hI : dI g n1 n2 nL n4 n5) (R : Nat) (hR : R < 6) (x F z : Int32) (h : x < 0 ∨ nI n1 ≤ x) : vx_Met l yX5_quote wsX5_quote ({ frames := 7, cells := 1, slots := 6, locals := 111 }) (va_Pc [.ref (ad 0), .int (nI R), .int x, .int F, .int z] (zX D ty g ad)) zno (zXC "java/lang/IndexOutOfBoundsException") 1 6 (fun _ => False) := by
  refine zXMet (cc := cX5_quote) (maxL := 8) (ret := (some .int)) (by decide) rfl (Nat.le_of_ble_eq_true rfl) ?_
  intro p e s m below meth c hx hb hr hts hown hlocks hml hno hB ls hl
  obtain ⟨⟨hP, hK, hN⟩, hQ, hT⟩ := hB
  obtain ⟨⟨hn1, hn1b⟩, h78, ⟨hn2, hn2b⟩, h12, ⟨hnL, hnLb⟩, h15, ⟨hn4, hn4b⟩, ⟨hn5, hn5b⟩, hrd5, hd0⟩ := id hI
  have hl : lv_has ls 8 [(0, .ref (ad 0)), (1, .int (nI R)), (2, .int x), (3, .int F), (4, .int z)] := hl
  refine lv_iload_n hx hb dX5_quote_0 rfl (lv_at hl 1 rfl) ?_
  refine zcSv (As := [.int (nI R)]) (rest := []) ⟨hx, hb, hml, hown, hts⟩ (c_X5_needReader l _ R (by omega)) (cwS 1 hts gX5_quote_X5_needReader rfl rfl rfl (by decide +kernel) ⟨Nat.le_of_ble_eq_true rfl, Nat.le_of_ble_eq_true rfl⟩) (B := fun _ => True) (fun _ _ _ _ _ => trivial) (fun _ _ _ => trivial) rfl hl.1 rfl (Nat.le_of_ble_eq_true rfl) dX5_quote_1 ⟨Nat.le_of_ble_eq_true rfl, Nat.le_of_ble_eq_true rfl⟩ (fun _ => ?_)
  refine lv_aload_n hx hb dX5_quote_4 rfl (lv_at hl 0 rfl) ?_
  refine lv_iload_n hx hb dX5_quote_5 rfl (lv_at hl 2 rfl) ?_
  exact zxV (As := [.int x]) (rest := []) ⟨hx, hb, hml, hown, hts⟩ hno hlocks (c_X5_needSet_x l hlt D ty g ad n1 n2 nL n4 n5 hI x h) (cwV 1 hts gX5_quote_X5_needSet rfl rfl rfl (by decide +kernel) ⟨Nat.le_of_ble_eq_true rfl, Nat.le_of_ble_eq_true rfl⟩) zX_blind (zX_pre hP hK hN hQ hT) (va_recv hK hP (ci := 6) (q0 := 0) rfl rfl) rfl hl.1 rfl (Nat.le_of_ble_eq_true rfl) dX5_quote_6 ⟨Nat.le_of_ble_eq_true rfl, Nat.le_of_ble_eq_true rfl⟩
set_option maxHeartbeats 4000000 in
set_option maxRecDepth 100000 in
theorem c_X5_quote_xA1 (l : Launch) (hlt : l.stackTraces = false) (D : va_G) (ty : Nat → ClassId) (g : Nat → Nat → Int32) (ad : Nat → Nat) (n1 n2 nL n4 n5 : Nat) (hI : dI g n1 n2 nL n4 n5) (R i : Nat) (hR : R < 6) (hi : i < n1) (F rw0 : Int32) (h : F < nI 1 ∨ allF g i < F) : vx_Met l yX5_quote wsX5_quote ({ frames := 7, cells := 1, slots := 6, locals := 112 }) (va_Pc [.ref (ad 0), .int (nI R), .int (nI i), .int F, .int rw0] (zX D ty g ad)) zno (zXC "java/lang/IllegalArgumentException") 1 6 (fun _ => False) := by
  refine zXMet (cc := cX5_quote) (maxL := 8) (ret := (some .int)) (by decide) rfl (Nat.le_of_ble_eq_true rfl) ?_
  intro p e s m below meth c hx hb hr hts hown hlocks hml hno hB ls hl
  obtain ⟨⟨hP, hK, hN⟩, hQ, hT⟩ := hB
  obtain ⟨⟨hn1, hn1b⟩, h78, ⟨hn2, hn2b⟩, h12, ⟨hnL, hnLb⟩, h15, ⟨hn4, hn4b⟩, ⟨hn5, hn5b⟩, hrd5, hd0⟩ := id hI
  have hq7 : nF g i < 7 := (h78 i hi).1.2
  have hq8 : nV g i < 7 := (h78 i hi).2.1.2
  have hl : lv_has ls 8 [(0, .ref (ad 0)), (1, .int (nI R)), (2, .int (nI i)), (3, .int F), (4, .int rw0)] := hl
  refine lv_iload_n hx hb dX5_quote_0 rfl (lv_at hl 1 rfl) ?_
  refine zcSv (As := [.int (nI R)]) (rest := []) ⟨hx, hb, hml, hown, hts⟩ (c_X5_needReader l _ R (by omega)) (cwS 1 hts gX5_quote_X5_needReader rfl rfl rfl (by decide +kernel) ⟨Nat.le_of_ble_eq_true rfl, Nat.le_of_ble_eq_true rfl⟩) (B := fun _ => True) (fun _ _ _ _ _ => trivial) (fun _ _ _ => trivial) rfl hl.1 rfl (Nat.le_of_ble_eq_true rfl) dX5_quote_1 ⟨Nat.le_of_ble_eq_true rfl, Nat.le_of_ble_eq_true rfl⟩ (fun _ => ?_)
  refine lv_aload_n hx hb dX5_quote_4 rfl (lv_at hl 0 rfl) ?_
  refine lv_iload_n hx hb dX5_quote_5 rfl (lv_at hl 2 rfl) ?_
  refine zcVv (As := [.int (nI i)]) (rest := []) ⟨hx, hb, hml, hown, hts⟩ (c_X5_needSet l D ty g ad n1 n2 nL n4 n5 hI i (by omega)) (cwV 1 hts gX5_quote_X5_needSet rfl rfl rfl (by decide +kernel) ⟨Nat.le_of_ble_eq_true rfl, Nat.le_of_ble_eq_true rfl⟩) zI_blind (zI_pre hP hK hN) (va_recv hK hP (ci := 6) (q0 := 0) rfl rfl) rfl hl.1 rfl (Nat.le_of_ble_eq_true rfl) dX5_quote_6 ⟨Nat.le_of_ble_eq_true rfl, Nat.le_of_ble_eq_true rfl⟩ (fun _ => ?_)
  refine lv_aload_n hx hb dX5_quote_9 rfl (lv_at hl 0 rfl) ?_
  refine lv_iload_n hx hb dX5_quote_10 rfl (lv_at hl 2 rfl) ?_
  refine lv_iload_n hx hb dX5_quote_11 rfl (lv_at hl 3 rfl) ?_
  exact zxV (As := [.int (nI i), .int F]) (rest := []) ⟨hx, hb, hml, hown, hts⟩ hno hlocks (c_X5_needFields_x l hlt D ty g ad n1 n2 nL n4 n5 hI i (by omega) F h) (cwV 2 hts gX5_quote_X5_needFields rfl rfl rfl (by decide +kernel) ⟨Nat.le_of_ble_eq_true rfl, Nat.le_of_ble_eq_true rfl⟩) zX_blind (zX_pre hP hK hN hQ hT) (va_recv hK hP (ci := 6) (q0 := 0) rfl rfl) rfl hl.1 rfl (Nat.le_of_ble_eq_true rfl) dX5_quote_12 ⟨Nat.le_of_ble_eq_true rfl, Nat.le_of_ble_eq_true rfl⟩
set_option maxHeartbeats 4000000 in
set_option maxRecDepth 100000 in
theorem c_X5_quote_xA2 (l : Launch) (hlt : l.stackTraces = false) (D : va_G) (ty : Nat → ClassId) (g : Nat → Nat → Int32) (ad : Nat → Nat) (n1 n2 nL n4 n5 : Nat) (hI : dI g n1 n2 nL n4 n5) (R i : Nat) (hR : R < 6) (hi : i < n1) (F rw0 : Int32) (hF1 : ¬ F < nI 1) (hF2 : ¬ allF g i < F) (h : rw0 < nI 1 ∨ nI 9999 < rw0) : vx_Met l yX5_quote wsX5_quote ({ frames := 6, cells := 1, slots := 6, locals := 90 }) (va_Pc [.ref (ad 0), .int (nI R), .int (nI i), .int F, .int rw0] (zX D ty g ad)) zno (zXC "java/lang/IllegalArgumentException") 1 6 (fun _ => False) := by
  refine zXMet (cc := cX5_quote) (maxL := 8) (ret := (some .int)) (by decide) rfl (Nat.le_of_ble_eq_true rfl) ?_
  intro p e s m below meth c hx hb hr hts hown hlocks hml hno hB ls hl
  obtain ⟨⟨hP, hK, hN⟩, hQ, hT⟩ := hB
  obtain ⟨⟨hn1, hn1b⟩, h78, ⟨hn2, hn2b⟩, h12, ⟨hnL, hnLb⟩, h15, ⟨hn4, hn4b⟩, ⟨hn5, hn5b⟩, hrd5, hd0⟩ := id hI
  have hq7 : nF g i < 7 := (h78 i hi).1.2
  have hq8 : nV g i < 7 := (h78 i hi).2.1.2
  have hl : lv_has ls 8 [(0, .ref (ad 0)), (1, .int (nI R)), (2, .int (nI i)), (3, .int F), (4, .int rw0)] := hl
  refine lv_iload_n hx hb dX5_quote_0 rfl (lv_at hl 1 rfl) ?_
  refine zcSv (As := [.int (nI R)]) (rest := []) ⟨hx, hb, hml, hown, hts⟩ (c_X5_needReader l _ R (by omega)) (cwS 1 hts gX5_quote_X5_needReader rfl rfl rfl (by decide +kernel) ⟨Nat.le_of_ble_eq_true rfl, Nat.le_of_ble_eq_true rfl⟩) (B := fun _ => True) (fun _ _ _ _ _ => trivial) (fun _ _ _ => trivial) rfl hl.1 rfl (Nat.le_of_ble_eq_true rfl) dX5_quote_1 ⟨Nat.le_of_ble_eq_true rfl, Nat.le_of_ble_eq_true rfl⟩ (fun _ => ?_)
  refine lv_aload_n hx hb dX5_quote_4 rfl (lv_at hl 0 rfl) ?_
  refine lv_iload_n hx hb dX5_quote_5 rfl (lv_at hl 2 rfl) ?_
  refine zcVv (As := [.int (nI i)]) (rest := []) ⟨hx, hb, hml, hown, hts⟩ (c_X5_needSet l D ty g ad n1 n2 nL n4 n5 hI i (by omega)) (cwV 1 hts gX5_quote_X5_needSet rfl rfl rfl (by decide +kernel) ⟨Nat.le_of_ble_eq_true rfl, Nat.le_of_ble_eq_true rfl⟩) zI_blind (zI_pre hP hK hN) (va_recv hK hP (ci := 6) (q0 := 0) rfl rfl) rfl hl.1 rfl (Nat.le_of_ble_eq_true rfl) dX5_quote_6 ⟨Nat.le_of_ble_eq_true rfl, Nat.le_of_ble_eq_true rfl⟩ (fun _ => ?_)
  refine lv_aload_n hx hb dX5_quote_9 rfl (lv_at hl 0 rfl) ?_
  refine lv_iload_n hx hb dX5_quote_10 rfl (lv_at hl 2 rfl) ?_
  refine lv_iload_n hx hb dX5_quote_11 rfl (lv_at hl 3 rfl) ?_
  refine zcVv (As := [.int (nI i), .int F]) (rest := []) ⟨hx, hb, hml, hown, hts⟩ (c_X5_needFields l D ty g ad n1 n2 nL n4 n5 hI i (by omega) F hF1 hF2) (cwV 2 hts gX5_quote_X5_needFields rfl rfl rfl (by decide +kernel) ⟨Nat.le_of_ble_eq_true rfl, Nat.le_of_ble_eq_true rfl⟩) zI_blind (zI_pre hP hK hN) (va_recv hK hP (ci := 6) (q0 := 0) rfl rfl) rfl hl.1 rfl (Nat.le_of_ble_eq_true rfl) dX5_quote_12 ⟨Nat.le_of_ble_eq_true rfl, Nat.le_of_ble_eq_true rfl⟩ (fun _ => ?_)
  refine lv_iload hx hb dX5_quote_15 (lv_at hl 4 rfl) ?_
  refine lv_iconst (v := nI 1) hx hb dX5_quote_17 (by decide) ?_
  refine lv_icmp_lt (tgt := 29) hx hb dX5_quote_18 (by decide) (fun c_4 => ?_) (fun c_4 => ?_)
  · exact zthrS (text := "rows is not 1 to 9999") (E0 := "java/lang/IllegalArgumentException") (own := RX5) hx hb hlt hown hts hno hlocks hml hN hQ hT rfl zfit_A (by decide +kernel) (by decide +kernel) (by decide +kernel) zbad_A zgood_A (by decide +kernel) hl.1 dX5_quote_29 dX5_quote_32 dX5_quote_33 dX5_quote_35 dX5_quote_38 (Nat.le_of_ble_eq_true rfl) (Nat.le_of_ble_eq_true rfl) (Nat.le_of_ble_eq_true rfl) (Nat.le_of_ble_eq_true rfl)
  · refine lv_iload hx hb dX5_quote_21 (lv_at hl 4 rfl) ?_
    refine lv_sipush (v := nI 9999) hx hb dX5_quote_23 (by decide) ?_
    refine lv_icmp_le (tgt := 39) hx hb dX5_quote_26 (by decide) (fun c_5 => ?_) (fun c_5 => ?_)
    · exfalso; rcases h with h | h <;> first | exact absurd h (by assumption) | exact absurd (by assumption) (Int32.not_lt.mpr h) | exact absurd h (Int32.not_lt.mpr (by assumption)) | omega
    · exact zthrS (text := "rows is not 1 to 9999") (E0 := "java/lang/IllegalArgumentException") (own := RX5) hx hb hlt hown hts hno hlocks hml hN hQ hT rfl zfit_A (by decide +kernel) (by decide +kernel) (by decide +kernel) zbad_A zgood_A (by decide +kernel) hl.1 dX5_quote_29 dX5_quote_32 dX5_quote_33 dX5_quote_35 dX5_quote_38 (Nat.le_of_ble_eq_true rfl) (Nat.le_of_ble_eq_true rfl) (Nat.le_of_ble_eq_true rfl) (Nat.le_of_ble_eq_true rfl)
set_option maxHeartbeats 4000000 in
set_option maxRecDepth 100000 in
theorem c_X5_previews_xB1 (l : Launch) (hlt : l.stackTraces = false) (D : va_G) (ty : Nat → ClassId) (g : Nat → Nat → Int32) (ad : Nat → Nat) (n1 n2 nL n4 n5 : Nat) (hI : dI g n1 n2 nL n4 n5) (x y : Int32) (h : x < 0 ∨ nI 6 ≤ x) : vx_Met l yX5_previews wsX5_previews ({ frames := 7, cells := 1, slots := 6, locals := 110 }) (va_Pc [.ref (ad 0), .int x, .int y] (zX D ty g ad)) zno (zXC "java/lang/IndexOutOfBoundsException") 1 6 (fun _ => False) := by
  refine zXMet (cc := cX5_previews) (maxL := 8) (ret := (some .int)) (by decide) rfl (Nat.le_of_ble_eq_true rfl) ?_
  intro p e s m below meth c hx hb hr hts hown hlocks hml hno hB ls hl
  obtain ⟨⟨hP, hK, hN⟩, hQ, hT⟩ := hB
  obtain ⟨⟨hn1, hn1b⟩, h78, ⟨hn2, hn2b⟩, h12, ⟨hnL, hnLb⟩, h15, ⟨hn4, hn4b⟩, ⟨hn5, hn5b⟩, hrd5, hd0⟩ := id hI
  have hl : lv_has ls 8 [(0, .ref (ad 0)), (1, .int x), (2, .int y)] := hl
  refine lv_iload_n hx hb dX5_previews_0 rfl (lv_at hl 1 rfl) ?_
  exact zxS (As := [.int x]) (rest := []) ⟨hx, hb, hml, hown, hts⟩ hno hlocks (c_X5_needReader_x l hlt x h) (cwS 1 hts gX5_previews_X5_needReader rfl rfl rfl (by decide +kernel) ⟨Nat.le_of_ble_eq_true rfl, Nat.le_of_ble_eq_true rfl⟩) zXB_blind (zXB_pre hN hQ hT) rfl hl.1 rfl (Nat.le_of_ble_eq_true rfl) dX5_previews_1 ⟨Nat.le_of_ble_eq_true rfl, Nat.le_of_ble_eq_true rfl⟩
set_option maxHeartbeats 4000000 in
set_option maxRecDepth 100000 in
theorem c_X5_previews_xB2 (l : Launch) (hlt : l.stackTraces = false) (D : va_G) (ty : Nat → ClassId) (g : Nat → Nat → Int32) (ad : Nat → Nat) (n1 n2 nL n4 n5 : Nat) (hI : dI g n1 n2 nL n4 n5) (R : Nat) (hR : R < 6) (x : Int32) (h : x < 0 ∨ nI n1 ≤ x) : vx_Met l yX5_previews wsX5_previews ({ frames := 7, cells := 1, slots := 6, locals := 111 }) (va_Pc [.ref (ad 0), .int (nI R), .int x] (zX D ty g ad)) zno (zXC "java/lang/IndexOutOfBoundsException") 1 6 (fun _ => False) := by
  refine zXMet (cc := cX5_previews) (maxL := 8) (ret := (some .int)) (by decide) rfl (Nat.le_of_ble_eq_true rfl) ?_
  intro p e s m below meth c hx hb hr hts hown hlocks hml hno hB ls hl
  obtain ⟨⟨hP, hK, hN⟩, hQ, hT⟩ := hB
  obtain ⟨⟨hn1, hn1b⟩, h78, ⟨hn2, hn2b⟩, h12, ⟨hnL, hnLb⟩, h15, ⟨hn4, hn4b⟩, ⟨hn5, hn5b⟩, hrd5, hd0⟩ := id hI
  have hl : lv_has ls 8 [(0, .ref (ad 0)), (1, .int (nI R)), (2, .int x)] := hl
  refine lv_iload_n hx hb dX5_previews_0 rfl (lv_at hl 1 rfl) ?_
  refine zcSv (As := [.int (nI R)]) (rest := []) ⟨hx, hb, hml, hown, hts⟩ (c_X5_needReader l _ R (by omega)) (cwS 1 hts gX5_previews_X5_needReader rfl rfl rfl (by decide +kernel) ⟨Nat.le_of_ble_eq_true rfl, Nat.le_of_ble_eq_true rfl⟩) (B := fun _ => True) (fun _ _ _ _ _ => trivial) (fun _ _ _ => trivial) rfl hl.1 rfl (Nat.le_of_ble_eq_true rfl) dX5_previews_1 ⟨Nat.le_of_ble_eq_true rfl, Nat.le_of_ble_eq_true rfl⟩ (fun _ => ?_)
  refine lv_aload_n hx hb dX5_previews_4 rfl (lv_at hl 0 rfl) ?_
  refine lv_iload_n hx hb dX5_previews_5 rfl (lv_at hl 2 rfl) ?_
  exact zxV (As := [.int x]) (rest := []) ⟨hx, hb, hml, hown, hts⟩ hno hlocks (c_X5_needSet_x l hlt D ty g ad n1 n2 nL n4 n5 hI x h) (cwV 1 hts gX5_previews_X5_needSet rfl rfl rfl (by decide +kernel) ⟨Nat.le_of_ble_eq_true rfl, Nat.le_of_ble_eq_true rfl⟩) zX_blind (zX_pre hP hK hN hQ hT) (va_recv hK hP (ci := 6) (q0 := 0) rfl rfl) rfl hl.1 rfl (Nat.le_of_ble_eq_true rfl) dX5_previews_6 ⟨Nat.le_of_ble_eq_true rfl, Nat.le_of_ble_eq_true rfl⟩
set_option maxHeartbeats 4000000 in
set_option maxRecDepth 100000 in
theorem c_X5_preview_xB1 (l : Launch) (hlt : l.stackTraces = false) (D : va_G) (ty : Nat → ClassId) (g : Nat → Nat → Int32) (ad : Nat → Nat) (n1 n2 nL n4 n5 : Nat) (hI : dI g n1 n2 nL n4 n5) (x y F : Int32) (h : x < 0 ∨ nI 6 ≤ x) : vx_Met l yX5_preview wsX5_preview ({ frames := 7, cells := 1, slots := 6, locals := 110 }) (va_Pc [.ref (ad 0), .int x, .int y, .int F] (zX D ty g ad)) zno (zXC "java/lang/IndexOutOfBoundsException") 1 6 (fun _ => False) := by
  refine zXMet (cc := cX5_preview) (maxL := 6) (ret := (some .int)) (by decide) rfl (Nat.le_of_ble_eq_true rfl) ?_
  intro p e s m below meth c hx hb hr hts hown hlocks hml hno hB ls hl
  obtain ⟨⟨hP, hK, hN⟩, hQ, hT⟩ := hB
  obtain ⟨⟨hn1, hn1b⟩, h78, ⟨hn2, hn2b⟩, h12, ⟨hnL, hnLb⟩, h15, ⟨hn4, hn4b⟩, ⟨hn5, hn5b⟩, hrd5, hd0⟩ := id hI
  have hl : lv_has ls 6 [(0, .ref (ad 0)), (1, .int x), (2, .int y), (3, .int F)] := hl
  refine lv_iload_n hx hb dX5_preview_0 rfl (lv_at hl 1 rfl) ?_
  exact zxS (As := [.int x]) (rest := []) ⟨hx, hb, hml, hown, hts⟩ hno hlocks (c_X5_needReader_x l hlt x h) (cwS 1 hts gX5_preview_X5_needReader rfl rfl rfl (by decide +kernel) ⟨Nat.le_of_ble_eq_true rfl, Nat.le_of_ble_eq_true rfl⟩) zXB_blind (zXB_pre hN hQ hT) rfl hl.1 rfl (Nat.le_of_ble_eq_true rfl) dX5_preview_1 ⟨Nat.le_of_ble_eq_true rfl, Nat.le_of_ble_eq_true rfl⟩
set_option maxHeartbeats 4000000 in
set_option maxRecDepth 100000 in
theorem c_X5_preview_xB2 (l : Launch) (hlt : l.stackTraces = false) (D : va_G) (ty : Nat → ClassId) (g : Nat → Nat → Int32) (ad : Nat → Nat) (n1 n2 nL n4 n5 : Nat) (hI : dI g n1 n2 nL n4 n5) (R : Nat) (hR : R < 6) (x F : Int32) (h : x < 0 ∨ nI n1 ≤ x) : vx_Met l yX5_preview wsX5_preview ({ frames := 7, cells := 1, slots := 6, locals := 111 }) (va_Pc [.ref (ad 0), .int (nI R), .int x, .int F] (zX D ty g ad)) zno (zXC "java/lang/IndexOutOfBoundsException") 1 6 (fun _ => False) := by
  refine zXMet (cc := cX5_preview) (maxL := 6) (ret := (some .int)) (by decide) rfl (Nat.le_of_ble_eq_true rfl) ?_
  intro p e s m below meth c hx hb hr hts hown hlocks hml hno hB ls hl
  obtain ⟨⟨hP, hK, hN⟩, hQ, hT⟩ := hB
  obtain ⟨⟨hn1, hn1b⟩, h78, ⟨hn2, hn2b⟩, h12, ⟨hnL, hnLb⟩, h15, ⟨hn4, hn4b⟩, ⟨hn5, hn5b⟩, hrd5, hd0⟩ := id hI
  have hl : lv_has ls 6 [(0, .ref (ad 0)), (1, .int (nI R)), (2, .int x), (3, .int F)] := hl
  refine lv_iload_n hx hb dX5_preview_0 rfl (lv_at hl 1 rfl) ?_
  refine zcSv (As := [.int (nI R)]) (rest := []) ⟨hx, hb, hml, hown, hts⟩ (c_X5_needReader l _ R (by omega)) (cwS 1 hts gX5_preview_X5_needReader rfl rfl rfl (by decide +kernel) ⟨Nat.le_of_ble_eq_true rfl, Nat.le_of_ble_eq_true rfl⟩) (B := fun _ => True) (fun _ _ _ _ _ => trivial) (fun _ _ _ => trivial) rfl hl.1 rfl (Nat.le_of_ble_eq_true rfl) dX5_preview_1 ⟨Nat.le_of_ble_eq_true rfl, Nat.le_of_ble_eq_true rfl⟩ (fun _ => ?_)
  refine lv_aload_n hx hb dX5_preview_4 rfl (lv_at hl 0 rfl) ?_
  refine lv_iload_n hx hb dX5_preview_5 rfl (lv_at hl 2 rfl) ?_
  exact zxV (As := [.int x]) (rest := []) ⟨hx, hb, hml, hown, hts⟩ hno hlocks (c_X5_needSet_x l hlt D ty g ad n1 n2 nL n4 n5 hI x h) (cwV 1 hts gX5_preview_X5_needSet rfl rfl rfl (by decide +kernel) ⟨Nat.le_of_ble_eq_true rfl, Nat.le_of_ble_eq_true rfl⟩) zX_blind (zX_pre hP hK hN hQ hT) (va_recv hK hP (ci := 6) (q0 := 0) rfl rfl) rfl hl.1 rfl (Nat.le_of_ble_eq_true rfl) dX5_preview_6 ⟨Nat.le_of_ble_eq_true rfl, Nat.le_of_ble_eq_true rfl⟩
set_option maxHeartbeats 4000000 in
set_option maxRecDepth 100000 in
theorem c_X5_preview_xA1 (l : Launch) (hlt : l.stackTraces = false) (D : va_G) (ty : Nat → ClassId) (g : Nat → Nat → Int32) (ad : Nat → Nat) (n1 n2 nL n4 n5 : Nat) (hI : dI g n1 n2 nL n4 n5) (R i : Nat) (hR : R < 6) (hi : i < n1) (F : Int32) (h : F < nI 1 ∨ allF g i < F) : vx_Met l yX5_preview wsX5_preview ({ frames := 7, cells := 1, slots := 6, locals := 112 }) (va_Pc [.ref (ad 0), .int (nI R), .int (nI i), .int F] (zX D ty g ad)) zno (zXC "java/lang/IllegalArgumentException") 1 6 (fun _ => False) := by
  refine zXMet (cc := cX5_preview) (maxL := 6) (ret := (some .int)) (by decide) rfl (Nat.le_of_ble_eq_true rfl) ?_
  intro p e s m below meth c hx hb hr hts hown hlocks hml hno hB ls hl
  obtain ⟨⟨hP, hK, hN⟩, hQ, hT⟩ := hB
  obtain ⟨⟨hn1, hn1b⟩, h78, ⟨hn2, hn2b⟩, h12, ⟨hnL, hnLb⟩, h15, ⟨hn4, hn4b⟩, ⟨hn5, hn5b⟩, hrd5, hd0⟩ := id hI
  have hq7 : nF g i < 7 := (h78 i hi).1.2
  have hq8 : nV g i < 7 := (h78 i hi).2.1.2
  have hl : lv_has ls 6 [(0, .ref (ad 0)), (1, .int (nI R)), (2, .int (nI i)), (3, .int F)] := hl
  refine lv_iload_n hx hb dX5_preview_0 rfl (lv_at hl 1 rfl) ?_
  refine zcSv (As := [.int (nI R)]) (rest := []) ⟨hx, hb, hml, hown, hts⟩ (c_X5_needReader l _ R (by omega)) (cwS 1 hts gX5_preview_X5_needReader rfl rfl rfl (by decide +kernel) ⟨Nat.le_of_ble_eq_true rfl, Nat.le_of_ble_eq_true rfl⟩) (B := fun _ => True) (fun _ _ _ _ _ => trivial) (fun _ _ _ => trivial) rfl hl.1 rfl (Nat.le_of_ble_eq_true rfl) dX5_preview_1 ⟨Nat.le_of_ble_eq_true rfl, Nat.le_of_ble_eq_true rfl⟩ (fun _ => ?_)
  refine lv_aload_n hx hb dX5_preview_4 rfl (lv_at hl 0 rfl) ?_
  refine lv_iload_n hx hb dX5_preview_5 rfl (lv_at hl 2 rfl) ?_
  refine zcVv (As := [.int (nI i)]) (rest := []) ⟨hx, hb, hml, hown, hts⟩ (c_X5_needSet l D ty g ad n1 n2 nL n4 n5 hI i (by omega)) (cwV 1 hts gX5_preview_X5_needSet rfl rfl rfl (by decide +kernel) ⟨Nat.le_of_ble_eq_true rfl, Nat.le_of_ble_eq_true rfl⟩) zI_blind (zI_pre hP hK hN) (va_recv hK hP (ci := 6) (q0 := 0) rfl rfl) rfl hl.1 rfl (Nat.le_of_ble_eq_true rfl) dX5_preview_6 ⟨Nat.le_of_ble_eq_true rfl, Nat.le_of_ble_eq_true rfl⟩ (fun _ => ?_)
  refine lv_aload_n hx hb dX5_preview_9 rfl (lv_at hl 0 rfl) ?_
  refine lv_iload_n hx hb dX5_preview_10 rfl (lv_at hl 2 rfl) ?_
  refine lv_iload_n hx hb dX5_preview_11 rfl (lv_at hl 3 rfl) ?_
  exact zxV (As := [.int (nI i), .int F]) (rest := []) ⟨hx, hb, hml, hown, hts⟩ hno hlocks (c_X5_needFields_x l hlt D ty g ad n1 n2 nL n4 n5 hI i (by omega) F h) (cwV 2 hts gX5_preview_X5_needFields rfl rfl rfl (by decide +kernel) ⟨Nat.le_of_ble_eq_true rfl, Nat.le_of_ble_eq_true rfl⟩) zX_blind (zX_pre hP hK hN hQ hT) (va_recv hK hP (ci := 6) (q0 := 0) rfl rfl) rfl hl.1 rfl (Nat.le_of_ble_eq_true rfl) dX5_preview_12 ⟨Nat.le_of_ble_eq_true rfl, Nat.le_of_ble_eq_true rfl⟩
set_option maxHeartbeats 4000000 in
set_option maxRecDepth 100000 in
theorem c_X5_preview_xA2 (l : Launch) (hlt : l.stackTraces = false) (D : va_G) (ty : Nat → ClassId) (g : Nat → Nat → Int32) (ad : Nat → Nat) (n1 n2 nL n4 n5 : Nat) (hI : dI g n1 n2 nL n4 n5) (R i : Nat) (hR : R < 6) (hi : i < n1) (F : Int32) (hF1 : ¬ F < nI 1) (hF2 : ¬ allF g i < F) (hb2 : nI 2 < bc F) : vx_Met l yX5_preview wsX5_preview ({ frames := 6, cells := 1, slots := 6, locals := 90 }) (va_Pc [.ref (ad 0), .int (nI R), .int (nI i), .int F] (zX D ty g ad)) zno (zXC "java/lang/IllegalArgumentException") 1 6 (fun _ => False) := by
  refine zXMet (cc := cX5_preview) (maxL := 6) (ret := (some .int)) (by decide) rfl (Nat.le_of_ble_eq_true rfl) ?_
  intro p e s m below meth c hx hb hr hts hown hlocks hml hno hB ls hl
  obtain ⟨⟨hP, hK, hN⟩, hQ, hT⟩ := hB
  obtain ⟨⟨hn1, hn1b⟩, h78, ⟨hn2, hn2b⟩, h12, ⟨hnL, hnLb⟩, h15, ⟨hn4, hn4b⟩, ⟨hn5, hn5b⟩, hrd5, hd0⟩ := id hI
  have hq7 : nF g i < 7 := (h78 i hi).1.2
  have hq8 : nV g i < 7 := (h78 i hi).2.1.2
  have hl : lv_has ls 6 [(0, .ref (ad 0)), (1, .int (nI R)), (2, .int (nI i)), (3, .int F)] := hl
  refine lv_iload_n hx hb dX5_preview_0 rfl (lv_at hl 1 rfl) ?_
  refine zcSv (As := [.int (nI R)]) (rest := []) ⟨hx, hb, hml, hown, hts⟩ (c_X5_needReader l _ R (by omega)) (cwS 1 hts gX5_preview_X5_needReader rfl rfl rfl (by decide +kernel) ⟨Nat.le_of_ble_eq_true rfl, Nat.le_of_ble_eq_true rfl⟩) (B := fun _ => True) (fun _ _ _ _ _ => trivial) (fun _ _ _ => trivial) rfl hl.1 rfl (Nat.le_of_ble_eq_true rfl) dX5_preview_1 ⟨Nat.le_of_ble_eq_true rfl, Nat.le_of_ble_eq_true rfl⟩ (fun _ => ?_)
  refine lv_aload_n hx hb dX5_preview_4 rfl (lv_at hl 0 rfl) ?_
  refine lv_iload_n hx hb dX5_preview_5 rfl (lv_at hl 2 rfl) ?_
  refine zcVv (As := [.int (nI i)]) (rest := []) ⟨hx, hb, hml, hown, hts⟩ (c_X5_needSet l D ty g ad n1 n2 nL n4 n5 hI i (by omega)) (cwV 1 hts gX5_preview_X5_needSet rfl rfl rfl (by decide +kernel) ⟨Nat.le_of_ble_eq_true rfl, Nat.le_of_ble_eq_true rfl⟩) zI_blind (zI_pre hP hK hN) (va_recv hK hP (ci := 6) (q0 := 0) rfl rfl) rfl hl.1 rfl (Nat.le_of_ble_eq_true rfl) dX5_preview_6 ⟨Nat.le_of_ble_eq_true rfl, Nat.le_of_ble_eq_true rfl⟩ (fun _ => ?_)
  refine lv_aload_n hx hb dX5_preview_9 rfl (lv_at hl 0 rfl) ?_
  refine lv_iload_n hx hb dX5_preview_10 rfl (lv_at hl 2 rfl) ?_
  refine lv_iload_n hx hb dX5_preview_11 rfl (lv_at hl 3 rfl) ?_
  refine zcVv (As := [.int (nI i), .int F]) (rest := []) ⟨hx, hb, hml, hown, hts⟩ (c_X5_needFields l D ty g ad n1 n2 nL n4 n5 hI i (by omega) F hF1 hF2) (cwV 2 hts gX5_preview_X5_needFields rfl rfl rfl (by decide +kernel) ⟨Nat.le_of_ble_eq_true rfl, Nat.le_of_ble_eq_true rfl⟩) zI_blind (zI_pre hP hK hN) (va_recv hK hP (ci := 6) (q0 := 0) rfl rfl) rfl hl.1 rfl (Nat.le_of_ble_eq_true rfl) dX5_preview_12 ⟨Nat.le_of_ble_eq_true rfl, Nat.le_of_ble_eq_true rfl⟩ (fun _ => ?_)
  refine lv_iload_n hx hb dX5_preview_15 rfl (lv_at hl 3 rfl) ?_
  refine zcSi (As := [.int F]) (rest := []) ⟨hx, hb, hml, hown, hts⟩ (c_J6_bitCount l _ F) (va_cwS 1 hts gX5_preview_J6_bitCount_0f7a4 rfl rfl rfl (by decide +kernel) ⟨Nat.le_of_ble_eq_true rfl, Nat.le_of_ble_eq_true rfl⟩) (B := fun _ => True) (fun _ _ _ _ _ => trivial) (fun _ _ _ => trivial) rfl hl.1 rfl (Nat.le_of_ble_eq_true rfl) dX5_preview_16 ⟨Nat.le_of_ble_eq_true rfl, Nat.le_of_ble_eq_true rfl⟩ (fun r_4 hr_4 => ?_)
  subst hr_4
  refine lv_iconst (v := nI 2) hx hb dX5_preview_19 (by decide) ?_
  refine lv_icmp_le (tgt := 33) hx hb dX5_preview_20 (by decide) (fun c_5 => ?_) (fun c_5 => ?_)
  · exact absurd hb2 (Int32.not_lt.mpr c_5)
  · exact zthrS (text := "fields are more than 2") (E0 := "java/lang/IllegalArgumentException") (own := RX5) hx hb hlt hown hts hno hlocks hml hN hQ hT rfl zfit_A (by decide +kernel) (by decide +kernel) (by decide +kernel) zbad_A zgood_A (by decide +kernel) hl.1 dX5_preview_23 dX5_preview_26 dX5_preview_27 dX5_preview_29 dX5_preview_32 (Nat.le_of_ble_eq_true rfl) (Nat.le_of_ble_eq_true rfl) (Nat.le_of_ble_eq_true rfl) (Nat.le_of_ble_eq_true rfl)
set_option maxHeartbeats 4000000 in
set_option maxRecDepth 100000 in
theorem c_X5_preview_xS1 (l : Launch) (hlt : l.stackTraces = false) (D : va_G) (ty : Nat → ClassId) (g : Nat → Nat → Int32) (ad : Nat → Nat) (n1 n2 nL n4 n5 : Nat) (hI : dI g n1 n2 nL n4 n5) (R i : Nat) (hR : R < 6) (hi : i < n1) (F : Int32) (hF1 : ¬ F < nI 1) (hF2 : ¬ allF g i < F) (hb2 : ¬ nI 2 < bc F) (hv0 : nV g i = 0) : vx_Met l yX5_preview wsX5_preview ({ frames := 6, cells := 1, slots := 6, locals := 90 }) (va_Pc [.ref (ad 0), .int (nI R), .int (nI i), .int F] (zX D ty g ad)) zno (zXC "java/lang/IllegalStateException") 1 6 (fun _ => False) := by
  refine zXMet (cc := cX5_preview) (maxL := 6) (ret := (some .int)) (by decide) rfl (Nat.le_of_ble_eq_true rfl) ?_
  intro p e s m below meth c hx hb hr hts hown hlocks hml hno hB ls hl
  obtain ⟨⟨hP, hK, hN⟩, hQ, hT⟩ := hB
  obtain ⟨⟨hn1, hn1b⟩, h78, ⟨hn2, hn2b⟩, h12, ⟨hnL, hnLb⟩, h15, ⟨hn4, hn4b⟩, ⟨hn5, hn5b⟩, hrd5, hd0⟩ := id hI
  have hq7 : nF g i < 7 := (h78 i hi).1.2
  have hq8 : nV g i < 7 := (h78 i hi).2.1.2
  have hl : lv_has ls 6 [(0, .ref (ad 0)), (1, .int (nI R)), (2, .int (nI i)), (3, .int F)] := hl
  have hk0 := hts (.fieldLink RX5 12 "DatamarketDesk" "shelf" "LDatamarketDesk$Shelf;") (by decide +kernel)
  have hinX5 : ∀ w ∈ wsX50, w ∈ wsX5_preview := by decide +kernel
  have hinX4 : ∀ w ∈ wsX40, w ∈ wsX5_preview := by decide +kernel
  refine lv_iload_n hx hb dX5_preview_0 rfl (lv_at hl 1 rfl) ?_
  refine zcSv (As := [.int (nI R)]) (rest := []) ⟨hx, hb, hml, hown, hts⟩ (c_X5_needReader l _ R (by omega)) (cwS 1 hts gX5_preview_X5_needReader rfl rfl rfl (by decide +kernel) ⟨Nat.le_of_ble_eq_true rfl, Nat.le_of_ble_eq_true rfl⟩) (B := fun _ => True) (fun _ _ _ _ _ => trivial) (fun _ _ _ => trivial) rfl hl.1 rfl (Nat.le_of_ble_eq_true rfl) dX5_preview_1 ⟨Nat.le_of_ble_eq_true rfl, Nat.le_of_ble_eq_true rfl⟩ (fun _ => ?_)
  refine lv_aload_n hx hb dX5_preview_4 rfl (lv_at hl 0 rfl) ?_
  refine lv_iload_n hx hb dX5_preview_5 rfl (lv_at hl 2 rfl) ?_
  refine zcVv (As := [.int (nI i)]) (rest := []) ⟨hx, hb, hml, hown, hts⟩ (c_X5_needSet l D ty g ad n1 n2 nL n4 n5 hI i (by omega)) (cwV 1 hts gX5_preview_X5_needSet rfl rfl rfl (by decide +kernel) ⟨Nat.le_of_ble_eq_true rfl, Nat.le_of_ble_eq_true rfl⟩) zI_blind (zI_pre hP hK hN) (va_recv hK hP (ci := 6) (q0 := 0) rfl rfl) rfl hl.1 rfl (Nat.le_of_ble_eq_true rfl) dX5_preview_6 ⟨Nat.le_of_ble_eq_true rfl, Nat.le_of_ble_eq_true rfl⟩ (fun _ => ?_)
  refine lv_aload_n hx hb dX5_preview_9 rfl (lv_at hl 0 rfl) ?_
  refine lv_iload_n hx hb dX5_preview_10 rfl (lv_at hl 2 rfl) ?_
  refine lv_iload_n hx hb dX5_preview_11 rfl (lv_at hl 3 rfl) ?_
  refine zcVv (As := [.int (nI i), .int F]) (rest := []) ⟨hx, hb, hml, hown, hts⟩ (c_X5_needFields l D ty g ad n1 n2 nL n4 n5 hI i (by omega) F hF1 hF2) (cwV 2 hts gX5_preview_X5_needFields rfl rfl rfl (by decide +kernel) ⟨Nat.le_of_ble_eq_true rfl, Nat.le_of_ble_eq_true rfl⟩) zI_blind (zI_pre hP hK hN) (va_recv hK hP (ci := 6) (q0 := 0) rfl rfl) rfl hl.1 rfl (Nat.le_of_ble_eq_true rfl) dX5_preview_12 ⟨Nat.le_of_ble_eq_true rfl, Nat.le_of_ble_eq_true rfl⟩ (fun _ => ?_)
  refine lv_iload_n hx hb dX5_preview_15 rfl (lv_at hl 3 rfl) ?_
  refine zcSi (As := [.int F]) (rest := []) ⟨hx, hb, hml, hown, hts⟩ (c_J6_bitCount l _ F) (va_cwS 1 hts gX5_preview_J6_bitCount_0f7a4 rfl rfl rfl (by decide +kernel) ⟨Nat.le_of_ble_eq_true rfl, Nat.le_of_ble_eq_true rfl⟩) (B := fun _ => True) (fun _ _ _ _ _ => trivial) (fun _ _ _ => trivial) rfl hl.1 rfl (Nat.le_of_ble_eq_true rfl) dX5_preview_16 ⟨Nat.le_of_ble_eq_true rfl, Nat.le_of_ble_eq_true rfl⟩ (fun r_4 hr_4 => ?_)
  subst hr_4
  refine lv_iconst (v := nI 2) hx hb dX5_preview_19 (by decide) ?_
  refine lv_icmp_le (tgt := 33) hx hb dX5_preview_20 (by decide) (fun c_5 => ?_) (fun c_5 => ?_)
  · refine lv_aload_n hx hb dX5_preview_33 rfl (lv_at hl 0 rfl) ?_
    refine va_get hx hb hts hinX5 hown hK hP 0 rfl rfl 0 (by decide) (hk0) (fun _ h9 => h9) rfl dX5_preview_34 ?_
    refine va_getN hx hb hts hinX4 hown hK hP 1 rfl rfl 2 (by decide) (zN.use hN (List.mem_of_getElem? (i := 3) rfl)) (fun _ h9 => h9) rfl dX5_preview_37 ?_
    refine lv_iload_n hx hb dX5_preview_40 rfl (lv_at hl 2 rfl) ?_
    refine zald hx hb hK hP 8 0 rfl rfl (i := i) (by omega) (by decide) dX5_preview_41 ?_
    have b_6 : nV g i < 7 := (h78 _ (by omega)).2.1.2
    refine zeq (show g 8 i = nI (nV g i) from (h78 _ (by omega)).2.1.1) ?_
    refine lv_if_ne (tgt := 55) hx hb dX5_preview_42 (by decide) (fun c_7 => ?_) (fun c_7 => ?_)
    · have c_7 := zq_neT (x := (nV g i)) (by omega) c_7
      omega
    · have c_7 := zq_neF (x := (nV g i)) (by omega) c_7
      exact zthrS (text := "the set has no version") (E0 := "java/lang/IllegalStateException") (own := RX5) hx hb hlt hown hts hno hlocks hml hN hQ hT rfl zfit_S (by decide +kernel) (by decide +kernel) (by decide +kernel) zbad_S zgood_S (by decide +kernel) hl.1 dX5_preview_45 dX5_preview_48 dX5_preview_49 dX5_preview_51 dX5_preview_54 (Nat.le_of_ble_eq_true rfl) (Nat.le_of_ble_eq_true rfl) (Nat.le_of_ble_eq_true rfl) (Nat.le_of_ble_eq_true rfl)
  · exact absurd (Int32.not_le.mp c_5) hb2
set_option maxHeartbeats 4000000 in
set_option maxRecDepth 100000 in
theorem c_X5_preview_xS2 (l : Launch) (hlt : l.stackTraces = false) (D : va_G) (ty : Nat → ClassId) (g : Nat → Nat → Int32) (ad : Nat → Nat) (n1 n2 nL n4 n5 : Nat) (hI : dI g n1 n2 nL n4 n5) (R i : Nat) (hR : R < 6) (hi : i < n1) (F : Int32) (hF1 : ¬ F < nI 1) (hF2 : ¬ allF g i < F) (hb2 : ¬ nI 2 < bc F) (hv0 : 0 < nV g i) (hmb : mayB g i (g 6 (R * 8 + i) ||| F) (openT g n4 (nI R) (nI i)) = false) : vx_Met l yX5_preview wsX5_preview ({ frames := 6, cells := 1, slots := 6, locals := 96 }) (va_Pc [.ref (ad 0), .int (nI R), .int (nI i), .int F] (zX D ty g ad)) zno (zXC "java/lang/IllegalStateException") 1 6 (fun _ => False) := by
  refine zXMet (cc := cX5_preview) (maxL := 6) (ret := (some .int)) (by decide) rfl (Nat.le_of_ble_eq_true rfl) ?_
  intro p e s m below meth c hx hb hr hts hown hlocks hml hno hB ls hl
  obtain ⟨⟨hP, hK, hN⟩, hQ, hT⟩ := hB
  obtain ⟨⟨hn1, hn1b⟩, h78, ⟨hn2, hn2b⟩, h12, ⟨hnL, hnLb⟩, h15, ⟨hn4, hn4b⟩, ⟨hn5, hn5b⟩, hrd5, hd0⟩ := id hI
  have hq7 : nF g i < 7 := (h78 i hi).1.2
  have hq8 : nV g i < 7 := (h78 i hi).2.1.2
  have hl : lv_has ls 6 [(0, .ref (ad 0)), (1, .int (nI R)), (2, .int (nI i)), (3, .int F)] := hl
  have hk0 := hts (.fieldLink RX5 12 "DatamarketDesk" "shelf" "LDatamarketDesk$Shelf;") (by decide +kernel)
  have hinX5 : ∀ w ∈ wsX50, w ∈ wsX5_preview := by decide +kernel
  have hinX4 : ∀ w ∈ wsX40, w ∈ wsX5_preview := by decide +kernel
  have hk3 := hts (.fieldLink RX5 44 "DatamarketDesk" "previewed" "[I") (by decide +kernel)
  refine lv_iload_n hx hb dX5_preview_0 rfl (lv_at hl 1 rfl) ?_
  refine zcSv (As := [.int (nI R)]) (rest := []) ⟨hx, hb, hml, hown, hts⟩ (c_X5_needReader l _ R (by omega)) (cwS 1 hts gX5_preview_X5_needReader rfl rfl rfl (by decide +kernel) ⟨Nat.le_of_ble_eq_true rfl, Nat.le_of_ble_eq_true rfl⟩) (B := fun _ => True) (fun _ _ _ _ _ => trivial) (fun _ _ _ => trivial) rfl hl.1 rfl (Nat.le_of_ble_eq_true rfl) dX5_preview_1 ⟨Nat.le_of_ble_eq_true rfl, Nat.le_of_ble_eq_true rfl⟩ (fun _ => ?_)
  refine lv_aload_n hx hb dX5_preview_4 rfl (lv_at hl 0 rfl) ?_
  refine lv_iload_n hx hb dX5_preview_5 rfl (lv_at hl 2 rfl) ?_
  refine zcVv (As := [.int (nI i)]) (rest := []) ⟨hx, hb, hml, hown, hts⟩ (c_X5_needSet l D ty g ad n1 n2 nL n4 n5 hI i (by omega)) (cwV 1 hts gX5_preview_X5_needSet rfl rfl rfl (by decide +kernel) ⟨Nat.le_of_ble_eq_true rfl, Nat.le_of_ble_eq_true rfl⟩) zI_blind (zI_pre hP hK hN) (va_recv hK hP (ci := 6) (q0 := 0) rfl rfl) rfl hl.1 rfl (Nat.le_of_ble_eq_true rfl) dX5_preview_6 ⟨Nat.le_of_ble_eq_true rfl, Nat.le_of_ble_eq_true rfl⟩ (fun _ => ?_)
  refine lv_aload_n hx hb dX5_preview_9 rfl (lv_at hl 0 rfl) ?_
  refine lv_iload_n hx hb dX5_preview_10 rfl (lv_at hl 2 rfl) ?_
  refine lv_iload_n hx hb dX5_preview_11 rfl (lv_at hl 3 rfl) ?_
  refine zcVv (As := [.int (nI i), .int F]) (rest := []) ⟨hx, hb, hml, hown, hts⟩ (c_X5_needFields l D ty g ad n1 n2 nL n4 n5 hI i (by omega) F hF1 hF2) (cwV 2 hts gX5_preview_X5_needFields rfl rfl rfl (by decide +kernel) ⟨Nat.le_of_ble_eq_true rfl, Nat.le_of_ble_eq_true rfl⟩) zI_blind (zI_pre hP hK hN) (va_recv hK hP (ci := 6) (q0 := 0) rfl rfl) rfl hl.1 rfl (Nat.le_of_ble_eq_true rfl) dX5_preview_12 ⟨Nat.le_of_ble_eq_true rfl, Nat.le_of_ble_eq_true rfl⟩ (fun _ => ?_)
  refine lv_iload_n hx hb dX5_preview_15 rfl (lv_at hl 3 rfl) ?_
  refine zcSi (As := [.int F]) (rest := []) ⟨hx, hb, hml, hown, hts⟩ (c_J6_bitCount l _ F) (va_cwS 1 hts gX5_preview_J6_bitCount_0f7a4 rfl rfl rfl (by decide +kernel) ⟨Nat.le_of_ble_eq_true rfl, Nat.le_of_ble_eq_true rfl⟩) (B := fun _ => True) (fun _ _ _ _ _ => trivial) (fun _ _ _ => trivial) rfl hl.1 rfl (Nat.le_of_ble_eq_true rfl) dX5_preview_16 ⟨Nat.le_of_ble_eq_true rfl, Nat.le_of_ble_eq_true rfl⟩ (fun r_4 hr_4 => ?_)
  subst hr_4
  refine lv_iconst (v := nI 2) hx hb dX5_preview_19 (by decide) ?_
  refine lv_icmp_le (tgt := 33) hx hb dX5_preview_20 (by decide) (fun c_5 => ?_) (fun c_5 => ?_)
  · refine lv_aload_n hx hb dX5_preview_33 rfl (lv_at hl 0 rfl) ?_
    refine va_get hx hb hts hinX5 hown hK hP 0 rfl rfl 0 (by decide) (hk0) (fun _ h9 => h9) rfl dX5_preview_34 ?_
    refine va_getN hx hb hts hinX4 hown hK hP 1 rfl rfl 2 (by decide) (zN.use hN (List.mem_of_getElem? (i := 3) rfl)) (fun _ h9 => h9) rfl dX5_preview_37 ?_
    refine lv_iload_n hx hb dX5_preview_40 rfl (lv_at hl 2 rfl) ?_
    refine zald hx hb hK hP 8 0 rfl rfl (i := i) (by omega) (by decide) dX5_preview_41 ?_
    have b_6 : nV g i < 7 := (h78 _ (by omega)).2.1.2
    refine zeq (show g 8 i = nI (nV g i) from (h78 _ (by omega)).2.1.1) ?_
    refine lv_if_ne (tgt := 55) hx hb dX5_preview_42 (by decide) (fun c_7 => ?_) (fun c_7 => ?_)
    · have c_7 := zq_neT (x := (nV g i)) (by omega) c_7
      refine lv_iload_n hx hb dX5_preview_55 rfl (lv_at hl 1 rfl) ?_
      refine lv_iload_n hx hb dX5_preview_56 rfl (lv_at hl 2 rfl) ?_
      refine zcSi (As := [.int (nI R), .int (nI i)]) (rest := []) ⟨hx, hb, hml, hown, hts⟩ (c_X5_previewAt l _ R i) (cwS 2 hts gX5_preview_X5_previewAt rfl rfl rfl (by decide +kernel) ⟨Nat.le_of_ble_eq_true rfl, Nat.le_of_ble_eq_true rfl⟩) (B := fun _ => True) (fun _ _ _ _ _ => trivial) (fun _ _ _ => trivial) rfl hl.1 rfl (Nat.le_of_ble_eq_true rfl) dX5_preview_57 ⟨Nat.le_of_ble_eq_true rfl, Nat.le_of_ble_eq_true rfl⟩ (fun r_8 hr_8 => ?_)
      subst hr_8
      refine lv_istore (lv' := [(4, .int (nI (R * 8 + i))), (0, .ref (ad 0)), (1, .int (nI R)), (2, .int (nI i)), (3, .int F)]) hx hb dX5_preview_60 hl (by decide) rfl (fun ls hl => ?_)
      refine lv_aload_n hx hb dX5_preview_62 rfl (lv_at hl 1 rfl) ?_
      refine va_get hx hb hts hinX5 hown hK hP 0 rfl rfl 5 (by decide) (hk3) (fun _ h9 => h9) rfl dX5_preview_63 ?_
      refine lv_iload hx hb dX5_preview_66 (lv_at hl 0 rfl) ?_
      refine zald hx hb hK hP 6 0 rfl rfl (i := R * 8 + i) (by omega) (by decide) dX5_preview_68 ?_
      refine lv_iload_n hx hb dX5_preview_69 rfl (lv_at hl 4 rfl) ?_
      refine lv_ior hx hb dX5_preview_70 ?_
      refine lv_istore (lv' := [(5, .int ((g 6 (R * 8 + i)) ||| F)), (4, .int (nI (R * 8 + i))), (0, .ref (ad 0)), (1, .int (nI R)), (2, .int (nI i)), (3, .int F)]) hx hb dX5_preview_71 hl (by decide) rfl (fun ls hl => ?_)
      refine lv_aload_n hx hb dX5_preview_73 rfl (lv_at hl 2 rfl) ?_
      refine lv_iload_n hx hb dX5_preview_74 rfl (lv_at hl 4 rfl) ?_
      refine lv_iload hx hb dX5_preview_75 (lv_at hl 0 rfl) ?_
      refine lv_aload_n hx hb dX5_preview_77 rfl (lv_at hl 2 rfl) ?_
      refine lv_iload_n hx hb dX5_preview_78 rfl (lv_at hl 3 rfl) ?_
      refine lv_iload_n hx hb dX5_preview_79 rfl (lv_at hl 4 rfl) ?_
      refine zcVi (As := [.int (nI R), .int (nI i)]) (rest := [.int ((g 6 (R * 8 + i)) ||| F), .int (nI i), .ref (ad 0)]) ⟨hx, hb, hml, hown, hts⟩ (c_X5_openToday l D ty g ad n1 n2 nL n4 n5 hI (nI R) (nI i)) (cwV 2 hts gX5_preview_X5_openToday rfl rfl rfl (by decide +kernel) ⟨Nat.le_of_ble_eq_true rfl, Nat.le_of_ble_eq_true rfl⟩) zI_blind (zI_pre hP hK hN) (va_recv hK hP (ci := 6) (q0 := 0) rfl rfl) rfl hl.1 rfl (Nat.le_of_ble_eq_true rfl) dX5_preview_80 ⟨Nat.le_of_ble_eq_true rfl, Nat.le_of_ble_eq_true rfl⟩ (fun r_9 hr_9 => ?_)
      subst hr_9
      refine zcVi (As := [.int (nI i), .int ((g 6 (R * 8 + i)) ||| F), .int (openT g n4 (nI R) (nI i))]) (rest := []) ⟨hx, hb, hml, hown, hts⟩ (c_X5_mayBeSeen l D ty g ad n1 n2 nL n4 n5 hI i (by omega) ((g 6 (R * 8 + i)) ||| F) (openT g n4 (nI R) (nI i))) (cwV 3 hts gX5_preview_X5_mayBeSeen rfl rfl rfl (by decide +kernel) ⟨Nat.le_of_ble_eq_true rfl, Nat.le_of_ble_eq_true rfl⟩) zI_blind (zI_pre hP hK hN) (va_recv hK hP (ci := 6) (q0 := 0) rfl rfl) rfl hl.1 rfl (Nat.le_of_ble_eq_true rfl) dX5_preview_83 ⟨Nat.le_of_ble_eq_true rfl, Nat.le_of_ble_eq_true rfl⟩ (fun r_10 hr_10 => ?_)
      subst hr_10
      refine lv_if_ne (tgt := 99) hx hb dX5_preview_86 (by decide) (fun c_11 => ?_) (fun c_11 => ?_)
      · have c_11 := bI_t c_11
        rw [hmb] at c_11; cases c_11
      · have c_11 := bI_f c_11
        exact zthrS (text := "too much would be seen") (E0 := "java/lang/IllegalStateException") (own := RX5) hx hb hlt hown hts hno hlocks hml hN hQ hT rfl zfit_S (by decide +kernel) (by decide +kernel) (by decide +kernel) zbad_S zgood_S (by decide +kernel) hl.1 dX5_preview_89 dX5_preview_92 dX5_preview_93 dX5_preview_95 dX5_preview_98 (Nat.le_of_ble_eq_true rfl) (Nat.le_of_ble_eq_true rfl) (Nat.le_of_ble_eq_true rfl) (Nat.le_of_ble_eq_true rfl)
    · have c_7 := zq_neF (x := (nV g i)) (by omega) c_7
      omega
  · exact absurd (Int32.not_le.mp c_5) hb2
set_option maxHeartbeats 4000000 in
set_option maxRecDepth 100000 in
theorem c_X5_read_xB1 (l : Launch) (hlt : l.stackTraces = false) (D : va_G) (ty : Nat → ClassId) (g : Nat → Nat → Int32) (ad : Nat → Nat) (n1 n2 nL n4 n5 : Nat) (hI : dI g n1 n2 nL n4 n5) (x y F z w0 : Int32) (h : x < 0 ∨ nI 6 ≤ x) : vx_Met l yX5_read wsX5_read ({ frames := 7, cells := 1, slots := 6, locals := 110 }) (va_Pc [.ref (ad 0), .int x, .int y, .int F, .int z, .int w0] (zX D ty g ad)) zno (zXC "java/lang/IndexOutOfBoundsException") 1 6 (fun _ => False) := by
  refine zXMet (cc := cX5_read) (maxL := 6) (ret := (some .int)) (by decide) rfl (Nat.le_of_ble_eq_true rfl) ?_
  intro p e s m below meth c hx hb hr hts hown hlocks hml hno hB ls hl
  obtain ⟨⟨hP, hK, hN⟩, hQ, hT⟩ := hB
  obtain ⟨⟨hn1, hn1b⟩, h78, ⟨hn2, hn2b⟩, h12, ⟨hnL, hnLb⟩, h15, ⟨hn4, hn4b⟩, ⟨hn5, hn5b⟩, hrd5, hd0⟩ := id hI
  have hl : lv_has ls 6 [(0, .ref (ad 0)), (1, .int x), (2, .int y), (3, .int F), (4, .int z), (5, .int w0)] := hl
  refine lv_iload_n hx hb dX5_read_0 rfl (lv_at hl 1 rfl) ?_
  exact zxS (As := [.int x]) (rest := []) ⟨hx, hb, hml, hown, hts⟩ hno hlocks (c_X5_needReader_x l hlt x h) (cwS 1 hts gX5_read_X5_needReader rfl rfl rfl (by decide +kernel) ⟨Nat.le_of_ble_eq_true rfl, Nat.le_of_ble_eq_true rfl⟩) zXB_blind (zXB_pre hN hQ hT) rfl hl.1 rfl (Nat.le_of_ble_eq_true rfl) dX5_read_1 ⟨Nat.le_of_ble_eq_true rfl, Nat.le_of_ble_eq_true rfl⟩
set_option maxHeartbeats 4000000 in
set_option maxRecDepth 100000 in
theorem c_X5_read_xB2 (l : Launch) (hlt : l.stackTraces = false) (D : va_G) (ty : Nat → ClassId) (g : Nat → Nat → Int32) (ad : Nat → Nat) (n1 n2 nL n4 n5 : Nat) (hI : dI g n1 n2 nL n4 n5) (R : Nat) (hR : R < 6) (x F z w0 : Int32) (h : x < 0 ∨ nI n1 ≤ x) : vx_Met l yX5_read wsX5_read ({ frames := 7, cells := 1, slots := 6, locals := 111 }) (va_Pc [.ref (ad 0), .int (nI R), .int x, .int F, .int z, .int w0] (zX D ty g ad)) zno (zXC "java/lang/IndexOutOfBoundsException") 1 6 (fun _ => False) := by
  refine zXMet (cc := cX5_read) (maxL := 6) (ret := (some .int)) (by decide) rfl (Nat.le_of_ble_eq_true rfl) ?_
  intro p e s m below meth c hx hb hr hts hown hlocks hml hno hB ls hl
  obtain ⟨⟨hP, hK, hN⟩, hQ, hT⟩ := hB
  obtain ⟨⟨hn1, hn1b⟩, h78, ⟨hn2, hn2b⟩, h12, ⟨hnL, hnLb⟩, h15, ⟨hn4, hn4b⟩, ⟨hn5, hn5b⟩, hrd5, hd0⟩ := id hI
  have hl : lv_has ls 6 [(0, .ref (ad 0)), (1, .int (nI R)), (2, .int x), (3, .int F), (4, .int z), (5, .int w0)] := hl
  refine lv_iload_n hx hb dX5_read_0 rfl (lv_at hl 1 rfl) ?_
  refine zcSv (As := [.int (nI R)]) (rest := []) ⟨hx, hb, hml, hown, hts⟩ (c_X5_needReader l _ R (by omega)) (cwS 1 hts gX5_read_X5_needReader rfl rfl rfl (by decide +kernel) ⟨Nat.le_of_ble_eq_true rfl, Nat.le_of_ble_eq_true rfl⟩) (B := fun _ => True) (fun _ _ _ _ _ => trivial) (fun _ _ _ => trivial) rfl hl.1 rfl (Nat.le_of_ble_eq_true rfl) dX5_read_1 ⟨Nat.le_of_ble_eq_true rfl, Nat.le_of_ble_eq_true rfl⟩ (fun _ => ?_)
  refine lv_aload_n hx hb dX5_read_4 rfl (lv_at hl 0 rfl) ?_
  refine lv_iload_n hx hb dX5_read_5 rfl (lv_at hl 2 rfl) ?_
  exact zxV (As := [.int x]) (rest := []) ⟨hx, hb, hml, hown, hts⟩ hno hlocks (c_X5_needSet_x l hlt D ty g ad n1 n2 nL n4 n5 hI x h) (cwV 1 hts gX5_read_X5_needSet rfl rfl rfl (by decide +kernel) ⟨Nat.le_of_ble_eq_true rfl, Nat.le_of_ble_eq_true rfl⟩) zX_blind (zX_pre hP hK hN hQ hT) (va_recv hK hP (ci := 6) (q0 := 0) rfl rfl) rfl hl.1 rfl (Nat.le_of_ble_eq_true rfl) dX5_read_6 ⟨Nat.le_of_ble_eq_true rfl, Nat.le_of_ble_eq_true rfl⟩
set_option maxHeartbeats 4000000 in
set_option maxRecDepth 100000 in
theorem c_X5_read_xB3 (l : Launch) (hlt : l.stackTraces = false) (D : va_G) (ty : Nat → ClassId) (g : Nat → Nat → Int32) (ad : Nat → Nat) (n1 n2 nL n4 n5 : Nat) (hI : dI g n1 n2 nL n4 n5) (R i : Nat) (hR : R < 6) (hi : i < n1) (F rw0 x : Int32) (h : x < 0 ∨ nI 4 ≤ x) : vx_Met l yX5_read wsX5_read ({ frames := 7, cells := 1, slots := 6, locals := 110 }) (va_Pc [.ref (ad 0), .int (nI R), .int (nI i), .int F, .int rw0, .int x] (zX D ty g ad)) zno (zXC "java/lang/IndexOutOfBoundsException") 1 6 (fun _ => False) := by
  refine zXMet (cc := cX5_read) (maxL := 6) (ret := (some .int)) (by decide) rfl (Nat.le_of_ble_eq_true rfl) ?_
  intro p e s m below meth c hx hb hr hts hown hlocks hml hno hB ls hl
  obtain ⟨⟨hP, hK, hN⟩, hQ, hT⟩ := hB
  obtain ⟨⟨hn1, hn1b⟩, h78, ⟨hn2, hn2b⟩, h12, ⟨hnL, hnLb⟩, h15, ⟨hn4, hn4b⟩, ⟨hn5, hn5b⟩, hrd5, hd0⟩ := id hI
  have hq7 : nF g i < 7 := (h78 i hi).1.2
  have hq8 : nV g i < 7 := (h78 i hi).2.1.2
  have hl : lv_has ls 6 [(0, .ref (ad 0)), (1, .int (nI R)), (2, .int (nI i)), (3, .int F), (4, .int rw0), (5, .int x)] := hl
  refine lv_iload_n hx hb dX5_read_0 rfl (lv_at hl 1 rfl) ?_
  refine zcSv (As := [.int (nI R)]) (rest := []) ⟨hx, hb, hml, hown, hts⟩ (c_X5_needReader l _ R (by omega)) (cwS 1 hts gX5_read_X5_needReader rfl rfl rfl (by decide +kernel) ⟨Nat.le_of_ble_eq_true rfl, Nat.le_of_ble_eq_true rfl⟩) (B := fun _ => True) (fun _ _ _ _ _ => trivial) (fun _ _ _ => trivial) rfl hl.1 rfl (Nat.le_of_ble_eq_true rfl) dX5_read_1 ⟨Nat.le_of_ble_eq_true rfl, Nat.le_of_ble_eq_true rfl⟩ (fun _ => ?_)
  refine lv_aload_n hx hb dX5_read_4 rfl (lv_at hl 0 rfl) ?_
  refine lv_iload_n hx hb dX5_read_5 rfl (lv_at hl 2 rfl) ?_
  refine zcVv (As := [.int (nI i)]) (rest := []) ⟨hx, hb, hml, hown, hts⟩ (c_X5_needSet l D ty g ad n1 n2 nL n4 n5 hI i (by omega)) (cwV 1 hts gX5_read_X5_needSet rfl rfl rfl (by decide +kernel) ⟨Nat.le_of_ble_eq_true rfl, Nat.le_of_ble_eq_true rfl⟩) zI_blind (zI_pre hP hK hN) (va_recv hK hP (ci := 6) (q0 := 0) rfl rfl) rfl hl.1 rfl (Nat.le_of_ble_eq_true rfl) dX5_read_6 ⟨Nat.le_of_ble_eq_true rfl, Nat.le_of_ble_eq_true rfl⟩ (fun _ => ?_)
  refine lv_iload hx hb dX5_read_9 (lv_at hl 5 rfl) ?_
  exact zxS (As := [.int x]) (rest := []) ⟨hx, hb, hml, hown, hts⟩ hno hlocks (c_X5_needPurpose_x l hlt x h) (cwS 1 hts gX5_read_X5_needPurpose rfl rfl rfl (by decide +kernel) ⟨Nat.le_of_ble_eq_true rfl, Nat.le_of_ble_eq_true rfl⟩) zXB_blind (zXB_pre hN hQ hT) rfl hl.1 rfl (Nat.le_of_ble_eq_true rfl) dX5_read_11 ⟨Nat.le_of_ble_eq_true rfl, Nat.le_of_ble_eq_true rfl⟩
set_option maxHeartbeats 4000000 in
set_option maxRecDepth 100000 in
theorem c_X5_read_xA1 (l : Launch) (hlt : l.stackTraces = false) (D : va_G) (ty : Nat → ClassId) (g : Nat → Nat → Int32) (ad : Nat → Nat) (n1 n2 nL n4 n5 : Nat) (hI : dI g n1 n2 nL n4 n5) (R i P : Nat) (hR : R < 6) (hi : i < n1) (hPp : P < 4) (F rw0 : Int32) (h : F < nI 1 ∨ allF g i < F) : vx_Met l yX5_read wsX5_read ({ frames := 7, cells := 1, slots := 6, locals := 112 }) (va_Pc [.ref (ad 0), .int (nI R), .int (nI i), .int F, .int rw0, .int (nI P)] (zX D ty g ad)) zno (zXC "java/lang/IllegalArgumentException") 1 6 (fun _ => False) := by
  refine zXMet (cc := cX5_read) (maxL := 6) (ret := (some .int)) (by decide) rfl (Nat.le_of_ble_eq_true rfl) ?_
  intro p e s m below meth c hx hb hr hts hown hlocks hml hno hB ls hl
  obtain ⟨⟨hP, hK, hN⟩, hQ, hT⟩ := hB
  obtain ⟨⟨hn1, hn1b⟩, h78, ⟨hn2, hn2b⟩, h12, ⟨hnL, hnLb⟩, h15, ⟨hn4, hn4b⟩, ⟨hn5, hn5b⟩, hrd5, hd0⟩ := id hI
  have hq7 : nF g i < 7 := (h78 i hi).1.2
  have hq8 : nV g i < 7 := (h78 i hi).2.1.2
  have hl : lv_has ls 6 [(0, .ref (ad 0)), (1, .int (nI R)), (2, .int (nI i)), (3, .int F), (4, .int rw0), (5, .int (nI P))] := hl
  refine lv_iload_n hx hb dX5_read_0 rfl (lv_at hl 1 rfl) ?_
  refine zcSv (As := [.int (nI R)]) (rest := []) ⟨hx, hb, hml, hown, hts⟩ (c_X5_needReader l _ R (by omega)) (cwS 1 hts gX5_read_X5_needReader rfl rfl rfl (by decide +kernel) ⟨Nat.le_of_ble_eq_true rfl, Nat.le_of_ble_eq_true rfl⟩) (B := fun _ => True) (fun _ _ _ _ _ => trivial) (fun _ _ _ => trivial) rfl hl.1 rfl (Nat.le_of_ble_eq_true rfl) dX5_read_1 ⟨Nat.le_of_ble_eq_true rfl, Nat.le_of_ble_eq_true rfl⟩ (fun _ => ?_)
  refine lv_aload_n hx hb dX5_read_4 rfl (lv_at hl 0 rfl) ?_
  refine lv_iload_n hx hb dX5_read_5 rfl (lv_at hl 2 rfl) ?_
  refine zcVv (As := [.int (nI i)]) (rest := []) ⟨hx, hb, hml, hown, hts⟩ (c_X5_needSet l D ty g ad n1 n2 nL n4 n5 hI i (by omega)) (cwV 1 hts gX5_read_X5_needSet rfl rfl rfl (by decide +kernel) ⟨Nat.le_of_ble_eq_true rfl, Nat.le_of_ble_eq_true rfl⟩) zI_blind (zI_pre hP hK hN) (va_recv hK hP (ci := 6) (q0 := 0) rfl rfl) rfl hl.1 rfl (Nat.le_of_ble_eq_true rfl) dX5_read_6 ⟨Nat.le_of_ble_eq_true rfl, Nat.le_of_ble_eq_true rfl⟩ (fun _ => ?_)
  refine lv_iload hx hb dX5_read_9 (lv_at hl 5 rfl) ?_
  refine zcSv (As := [.int (nI P)]) (rest := []) ⟨hx, hb, hml, hown, hts⟩ (c_X5_needPurpose l _ P (by omega)) (cwS 1 hts gX5_read_X5_needPurpose rfl rfl rfl (by decide +kernel) ⟨Nat.le_of_ble_eq_true rfl, Nat.le_of_ble_eq_true rfl⟩) (B := fun _ => True) (fun _ _ _ _ _ => trivial) (fun _ _ _ => trivial) rfl hl.1 rfl (Nat.le_of_ble_eq_true rfl) dX5_read_11 ⟨Nat.le_of_ble_eq_true rfl, Nat.le_of_ble_eq_true rfl⟩ (fun _ => ?_)
  refine lv_aload_n hx hb dX5_read_14 rfl (lv_at hl 0 rfl) ?_
  refine lv_iload_n hx hb dX5_read_15 rfl (lv_at hl 2 rfl) ?_
  refine lv_iload_n hx hb dX5_read_16 rfl (lv_at hl 3 rfl) ?_
  exact zxV (As := [.int (nI i), .int F]) (rest := []) ⟨hx, hb, hml, hown, hts⟩ hno hlocks (c_X5_needFields_x l hlt D ty g ad n1 n2 nL n4 n5 hI i (by omega) F h) (cwV 2 hts gX5_read_X5_needFields rfl rfl rfl (by decide +kernel) ⟨Nat.le_of_ble_eq_true rfl, Nat.le_of_ble_eq_true rfl⟩) zX_blind (zX_pre hP hK hN hQ hT) (va_recv hK hP (ci := 6) (q0 := 0) rfl rfl) rfl hl.1 rfl (Nat.le_of_ble_eq_true rfl) dX5_read_17 ⟨Nat.le_of_ble_eq_true rfl, Nat.le_of_ble_eq_true rfl⟩
set_option maxHeartbeats 4000000 in
set_option maxRecDepth 100000 in
theorem c_X5_read_xA2 (l : Launch) (hlt : l.stackTraces = false) (D : va_G) (ty : Nat → ClassId) (g : Nat → Nat → Int32) (ad : Nat → Nat) (n1 n2 nL n4 n5 : Nat) (hI : dI g n1 n2 nL n4 n5) (R i P : Nat) (hR : R < 6) (hi : i < n1) (hPp : P < 4) (F rw0 : Int32) (hF1 : ¬ F < nI 1) (hF2 : ¬ allF g i < F) (hr1 : rw0 < nI 1) : vx_Met l yX5_read wsX5_read ({ frames := 6, cells := 1, slots := 6, locals := 90 }) (va_Pc [.ref (ad 0), .int (nI R), .int (nI i), .int F, .int rw0, .int (nI P)] (zX D ty g ad)) zno (zXC "java/lang/IllegalArgumentException") 1 6 (fun _ => False) := by
  refine zXMet (cc := cX5_read) (maxL := 6) (ret := (some .int)) (by decide) rfl (Nat.le_of_ble_eq_true rfl) ?_
  intro p e s m below meth c hx hb hr hts hown hlocks hml hno hB ls hl
  obtain ⟨⟨hP, hK, hN⟩, hQ, hT⟩ := hB
  obtain ⟨⟨hn1, hn1b⟩, h78, ⟨hn2, hn2b⟩, h12, ⟨hnL, hnLb⟩, h15, ⟨hn4, hn4b⟩, ⟨hn5, hn5b⟩, hrd5, hd0⟩ := id hI
  have hq7 : nF g i < 7 := (h78 i hi).1.2
  have hq8 : nV g i < 7 := (h78 i hi).2.1.2
  have hl : lv_has ls 6 [(0, .ref (ad 0)), (1, .int (nI R)), (2, .int (nI i)), (3, .int F), (4, .int rw0), (5, .int (nI P))] := hl
  refine lv_iload_n hx hb dX5_read_0 rfl (lv_at hl 1 rfl) ?_
  refine zcSv (As := [.int (nI R)]) (rest := []) ⟨hx, hb, hml, hown, hts⟩ (c_X5_needReader l _ R (by omega)) (cwS 1 hts gX5_read_X5_needReader rfl rfl rfl (by decide +kernel) ⟨Nat.le_of_ble_eq_true rfl, Nat.le_of_ble_eq_true rfl⟩) (B := fun _ => True) (fun _ _ _ _ _ => trivial) (fun _ _ _ => trivial) rfl hl.1 rfl (Nat.le_of_ble_eq_true rfl) dX5_read_1 ⟨Nat.le_of_ble_eq_true rfl, Nat.le_of_ble_eq_true rfl⟩ (fun _ => ?_)
  refine lv_aload_n hx hb dX5_read_4 rfl (lv_at hl 0 rfl) ?_
  refine lv_iload_n hx hb dX5_read_5 rfl (lv_at hl 2 rfl) ?_
  refine zcVv (As := [.int (nI i)]) (rest := []) ⟨hx, hb, hml, hown, hts⟩ (c_X5_needSet l D ty g ad n1 n2 nL n4 n5 hI i (by omega)) (cwV 1 hts gX5_read_X5_needSet rfl rfl rfl (by decide +kernel) ⟨Nat.le_of_ble_eq_true rfl, Nat.le_of_ble_eq_true rfl⟩) zI_blind (zI_pre hP hK hN) (va_recv hK hP (ci := 6) (q0 := 0) rfl rfl) rfl hl.1 rfl (Nat.le_of_ble_eq_true rfl) dX5_read_6 ⟨Nat.le_of_ble_eq_true rfl, Nat.le_of_ble_eq_true rfl⟩ (fun _ => ?_)
  refine lv_iload hx hb dX5_read_9 (lv_at hl 5 rfl) ?_
  refine zcSv (As := [.int (nI P)]) (rest := []) ⟨hx, hb, hml, hown, hts⟩ (c_X5_needPurpose l _ P (by omega)) (cwS 1 hts gX5_read_X5_needPurpose rfl rfl rfl (by decide +kernel) ⟨Nat.le_of_ble_eq_true rfl, Nat.le_of_ble_eq_true rfl⟩) (B := fun _ => True) (fun _ _ _ _ _ => trivial) (fun _ _ _ => trivial) rfl hl.1 rfl (Nat.le_of_ble_eq_true rfl) dX5_read_11 ⟨Nat.le_of_ble_eq_true rfl, Nat.le_of_ble_eq_true rfl⟩ (fun _ => ?_)
  refine lv_aload_n hx hb dX5_read_14 rfl (lv_at hl 0 rfl) ?_
  refine lv_iload_n hx hb dX5_read_15 rfl (lv_at hl 2 rfl) ?_
  refine lv_iload_n hx hb dX5_read_16 rfl (lv_at hl 3 rfl) ?_
  refine zcVv (As := [.int (nI i), .int F]) (rest := []) ⟨hx, hb, hml, hown, hts⟩ (c_X5_needFields l D ty g ad n1 n2 nL n4 n5 hI i (by omega) F hF1 hF2) (cwV 2 hts gX5_read_X5_needFields rfl rfl rfl (by decide +kernel) ⟨Nat.le_of_ble_eq_true rfl, Nat.le_of_ble_eq_true rfl⟩) zI_blind (zI_pre hP hK hN) (va_recv hK hP (ci := 6) (q0 := 0) rfl rfl) rfl hl.1 rfl (Nat.le_of_ble_eq_true rfl) dX5_read_17 ⟨Nat.le_of_ble_eq_true rfl, Nat.le_of_ble_eq_true rfl⟩ (fun _ => ?_)
  refine lv_iload hx hb dX5_read_20 (lv_at hl 4 rfl) ?_
  refine lv_iconst (v := nI 1) hx hb dX5_read_22 (by decide) ?_
  refine lv_icmp_ge (tgt := 36) hx hb dX5_read_23 (by decide) (fun c_5 => ?_) (fun c_5 => ?_)
  · exact absurd hr1 (Int32.not_lt.mpr c_5)
  · exact zthrS (text := "rows is below 1") (E0 := "java/lang/IllegalArgumentException") (own := RX5) hx hb hlt hown hts hno hlocks hml hN hQ hT rfl zfit_A (by decide +kernel) (by decide +kernel) (by decide +kernel) zbad_A zgood_A (by decide +kernel) hl.1 dX5_read_26 dX5_read_29 dX5_read_30 dX5_read_32 dX5_read_35 (Nat.le_of_ble_eq_true rfl) (Nat.le_of_ble_eq_true rfl) (Nat.le_of_ble_eq_true rfl) (Nat.le_of_ble_eq_true rfl)
set_option maxHeartbeats 4000000 in
set_option maxRecDepth 100000 in
theorem c_X5_read_xS1 (l : Launch) (hlt : l.stackTraces = false) (D : va_G) (ty : Nat → ClassId) (g : Nat → Nat → Int32) (ad : Nat → Nat) (n1 n2 nL n4 n5 : Nat) (hI : dI g n1 n2 nL n4 n5) (R i P : Nat) (hR : R < 6) (hi : i < n1) (hPp : P < 4) (F rw0 : Int32) (hF1 : ¬ F < nI 1) (hF2 : ¬ allF g i < F) (hr1 : ¬ rw0 < nI 1) (hn40 : n5 = 40) : vx_Met l yX5_read wsX5_read ({ frames := 6, cells := 1, slots := 6, locals := 90 }) (va_Pc [.ref (ad 0), .int (nI R), .int (nI i), .int F, .int rw0, .int (nI P)] (zX D ty g ad)) zno (zXC "java/lang/IllegalStateException") 1 6 (fun _ => False) := by
  refine zXMet (cc := cX5_read) (maxL := 6) (ret := (some .int)) (by decide) rfl (Nat.le_of_ble_eq_true rfl) ?_
  intro p e s m below meth c hx hb hr hts hown hlocks hml hno hB ls hl
  obtain ⟨⟨hP, hK, hN⟩, hQ, hT⟩ := hB
  obtain ⟨⟨hn1, hn1b⟩, h78, ⟨hn2, hn2b⟩, h12, ⟨hnL, hnLb⟩, h15, ⟨hn4, hn4b⟩, ⟨hn5, hn5b⟩, hrd5, hd0⟩ := id hI
  have hq7 : nF g i < 7 := (h78 i hi).1.2
  have hq8 : nV g i < 7 := (h78 i hi).2.1.2
  have hl : lv_has ls 6 [(0, .ref (ad 0)), (1, .int (nI R)), (2, .int (nI i)), (3, .int F), (4, .int rw0), (5, .int (nI P))] := hl
  have hk0 := hts (.fieldLink RX5 40 "DatamarketDesk" "reads" "LDatamarketDesk$Reads;") (by decide +kernel)
  have hinX5 : ∀ w ∈ wsX50, w ∈ wsX5_read := by decide +kernel
  have hinX3 : ∀ w ∈ wsX30, w ∈ wsX5_read := by decide +kernel
  refine lv_iload_n hx hb dX5_read_0 rfl (lv_at hl 1 rfl) ?_
  refine zcSv (As := [.int (nI R)]) (rest := []) ⟨hx, hb, hml, hown, hts⟩ (c_X5_needReader l _ R (by omega)) (cwS 1 hts gX5_read_X5_needReader rfl rfl rfl (by decide +kernel) ⟨Nat.le_of_ble_eq_true rfl, Nat.le_of_ble_eq_true rfl⟩) (B := fun _ => True) (fun _ _ _ _ _ => trivial) (fun _ _ _ => trivial) rfl hl.1 rfl (Nat.le_of_ble_eq_true rfl) dX5_read_1 ⟨Nat.le_of_ble_eq_true rfl, Nat.le_of_ble_eq_true rfl⟩ (fun _ => ?_)
  refine lv_aload_n hx hb dX5_read_4 rfl (lv_at hl 0 rfl) ?_
  refine lv_iload_n hx hb dX5_read_5 rfl (lv_at hl 2 rfl) ?_
  refine zcVv (As := [.int (nI i)]) (rest := []) ⟨hx, hb, hml, hown, hts⟩ (c_X5_needSet l D ty g ad n1 n2 nL n4 n5 hI i (by omega)) (cwV 1 hts gX5_read_X5_needSet rfl rfl rfl (by decide +kernel) ⟨Nat.le_of_ble_eq_true rfl, Nat.le_of_ble_eq_true rfl⟩) zI_blind (zI_pre hP hK hN) (va_recv hK hP (ci := 6) (q0 := 0) rfl rfl) rfl hl.1 rfl (Nat.le_of_ble_eq_true rfl) dX5_read_6 ⟨Nat.le_of_ble_eq_true rfl, Nat.le_of_ble_eq_true rfl⟩ (fun _ => ?_)
  refine lv_iload hx hb dX5_read_9 (lv_at hl 5 rfl) ?_
  refine zcSv (As := [.int (nI P)]) (rest := []) ⟨hx, hb, hml, hown, hts⟩ (c_X5_needPurpose l _ P (by omega)) (cwS 1 hts gX5_read_X5_needPurpose rfl rfl rfl (by decide +kernel) ⟨Nat.le_of_ble_eq_true rfl, Nat.le_of_ble_eq_true rfl⟩) (B := fun _ => True) (fun _ _ _ _ _ => trivial) (fun _ _ _ => trivial) rfl hl.1 rfl (Nat.le_of_ble_eq_true rfl) dX5_read_11 ⟨Nat.le_of_ble_eq_true rfl, Nat.le_of_ble_eq_true rfl⟩ (fun _ => ?_)
  refine lv_aload_n hx hb dX5_read_14 rfl (lv_at hl 0 rfl) ?_
  refine lv_iload_n hx hb dX5_read_15 rfl (lv_at hl 2 rfl) ?_
  refine lv_iload_n hx hb dX5_read_16 rfl (lv_at hl 3 rfl) ?_
  refine zcVv (As := [.int (nI i), .int F]) (rest := []) ⟨hx, hb, hml, hown, hts⟩ (c_X5_needFields l D ty g ad n1 n2 nL n4 n5 hI i (by omega) F hF1 hF2) (cwV 2 hts gX5_read_X5_needFields rfl rfl rfl (by decide +kernel) ⟨Nat.le_of_ble_eq_true rfl, Nat.le_of_ble_eq_true rfl⟩) zI_blind (zI_pre hP hK hN) (va_recv hK hP (ci := 6) (q0 := 0) rfl rfl) rfl hl.1 rfl (Nat.le_of_ble_eq_true rfl) dX5_read_17 ⟨Nat.le_of_ble_eq_true rfl, Nat.le_of_ble_eq_true rfl⟩ (fun _ => ?_)
  refine lv_iload hx hb dX5_read_20 (lv_at hl 4 rfl) ?_
  refine lv_iconst (v := nI 1) hx hb dX5_read_22 (by decide) ?_
  refine lv_icmp_ge (tgt := 36) hx hb dX5_read_23 (by decide) (fun c_5 => ?_) (fun c_5 => ?_)
  · refine lv_aload_n hx hb dX5_read_36 rfl (lv_at hl 0 rfl) ?_
    refine va_get hx hb hts hinX5 hown hK hP 0 rfl rfl 4 (by decide) (hk0) (fun _ h9 => h9) rfl dX5_read_37 ?_
    refine va_getN hx hb hts hinX3 hown hK hP 5 rfl rfl 0 (by decide) (zN.use hN (List.mem_of_getElem? (i := 16) rfl)) (fun _ h9 => h9) rfl dX5_read_40 ?_
    refine zeq hn5 ?_
    refine lv_bipush (v := nI 40) hx hb dX5_read_43 (by decide) ?_
    refine lv_icmp_lt (tgt := 58) hx hb dX5_read_45 (by decide) (fun c_6 => ?_) (fun c_6 => ?_)
    · have c_6 := zn_ltT (a := n5) (b := 40) (by omega) (by omega) c_6
      omega
    · have c_6 := zn_ltF (a := n5) (b := 40) (by omega) (by omega) c_6
      exact zthrS (text := "there are 40 reads") (E0 := "java/lang/IllegalStateException") (own := RX5) hx hb hlt hown hts hno hlocks hml hN hQ hT rfl zfit_S (by decide +kernel) (by decide +kernel) (by decide +kernel) zbad_S zgood_S (by decide +kernel) hl.1 dX5_read_48 dX5_read_51 dX5_read_52 dX5_read_54 dX5_read_57 (Nat.le_of_ble_eq_true rfl) (Nat.le_of_ble_eq_true rfl) (Nat.le_of_ble_eq_true rfl) (Nat.le_of_ble_eq_true rfl)
  · exact absurd (Int32.not_le.mp c_5) hr1
set_option maxHeartbeats 4000000 in
set_option maxRecDepth 100000 in
theorem c_X5_read_xS2 (l : Launch) (hlt : l.stackTraces = false) (D : va_G) (ty : Nat → ClassId) (g : Nat → Nat → Int32) (ad : Nat → Nat) (n1 n2 nL n4 n5 : Nat) (hI : dI g n1 n2 nL n4 n5) (R i P : Nat) (hR : R < 6) (hi : i < n1) (hPp : P < 4) (F rw0 : Int32) (hF1 : ¬ F < nI 1) (hF2 : ¬ allF g i < F) (hr1 : ¬ rw0 < nI 1) (hn40 : n5 < 40) (hr2 : rowsL g i < rw0) : vx_Met l yX5_read wsX5_read ({ frames := 6, cells := 1, slots := 6, locals := 90 }) (va_Pc [.ref (ad 0), .int (nI R), .int (nI i), .int F, .int rw0, .int (nI P)] (zX D ty g ad)) zno (zXC "java/lang/IllegalStateException") 1 6 (fun _ => False) := by
  refine zXMet (cc := cX5_read) (maxL := 6) (ret := (some .int)) (by decide) rfl (Nat.le_of_ble_eq_true rfl) ?_
  intro p e s m below meth c hx hb hr hts hown hlocks hml hno hB ls hl
  obtain ⟨⟨hP, hK, hN⟩, hQ, hT⟩ := hB
  obtain ⟨⟨hn1, hn1b⟩, h78, ⟨hn2, hn2b⟩, h12, ⟨hnL, hnLb⟩, h15, ⟨hn4, hn4b⟩, ⟨hn5, hn5b⟩, hrd5, hd0⟩ := id hI
  have hq7 : nF g i < 7 := (h78 i hi).1.2
  have hq8 : nV g i < 7 := (h78 i hi).2.1.2
  have hl : lv_has ls 6 [(0, .ref (ad 0)), (1, .int (nI R)), (2, .int (nI i)), (3, .int F), (4, .int rw0), (5, .int (nI P))] := hl
  have hk0 := hts (.fieldLink RX5 40 "DatamarketDesk" "reads" "LDatamarketDesk$Reads;") (by decide +kernel)
  have hinX5 : ∀ w ∈ wsX50, w ∈ wsX5_read := by decide +kernel
  have hinX3 : ∀ w ∈ wsX30, w ∈ wsX5_read := by decide +kernel
  have hk3 := hts (.fieldLink RX5 12 "DatamarketDesk" "shelf" "LDatamarketDesk$Shelf;") (by decide +kernel)
  refine lv_iload_n hx hb dX5_read_0 rfl (lv_at hl 1 rfl) ?_
  refine zcSv (As := [.int (nI R)]) (rest := []) ⟨hx, hb, hml, hown, hts⟩ (c_X5_needReader l _ R (by omega)) (cwS 1 hts gX5_read_X5_needReader rfl rfl rfl (by decide +kernel) ⟨Nat.le_of_ble_eq_true rfl, Nat.le_of_ble_eq_true rfl⟩) (B := fun _ => True) (fun _ _ _ _ _ => trivial) (fun _ _ _ => trivial) rfl hl.1 rfl (Nat.le_of_ble_eq_true rfl) dX5_read_1 ⟨Nat.le_of_ble_eq_true rfl, Nat.le_of_ble_eq_true rfl⟩ (fun _ => ?_)
  refine lv_aload_n hx hb dX5_read_4 rfl (lv_at hl 0 rfl) ?_
  refine lv_iload_n hx hb dX5_read_5 rfl (lv_at hl 2 rfl) ?_
  refine zcVv (As := [.int (nI i)]) (rest := []) ⟨hx, hb, hml, hown, hts⟩ (c_X5_needSet l D ty g ad n1 n2 nL n4 n5 hI i (by omega)) (cwV 1 hts gX5_read_X5_needSet rfl rfl rfl (by decide +kernel) ⟨Nat.le_of_ble_eq_true rfl, Nat.le_of_ble_eq_true rfl⟩) zI_blind (zI_pre hP hK hN) (va_recv hK hP (ci := 6) (q0 := 0) rfl rfl) rfl hl.1 rfl (Nat.le_of_ble_eq_true rfl) dX5_read_6 ⟨Nat.le_of_ble_eq_true rfl, Nat.le_of_ble_eq_true rfl⟩ (fun _ => ?_)
  refine lv_iload hx hb dX5_read_9 (lv_at hl 5 rfl) ?_
  refine zcSv (As := [.int (nI P)]) (rest := []) ⟨hx, hb, hml, hown, hts⟩ (c_X5_needPurpose l _ P (by omega)) (cwS 1 hts gX5_read_X5_needPurpose rfl rfl rfl (by decide +kernel) ⟨Nat.le_of_ble_eq_true rfl, Nat.le_of_ble_eq_true rfl⟩) (B := fun _ => True) (fun _ _ _ _ _ => trivial) (fun _ _ _ => trivial) rfl hl.1 rfl (Nat.le_of_ble_eq_true rfl) dX5_read_11 ⟨Nat.le_of_ble_eq_true rfl, Nat.le_of_ble_eq_true rfl⟩ (fun _ => ?_)
  refine lv_aload_n hx hb dX5_read_14 rfl (lv_at hl 0 rfl) ?_
  refine lv_iload_n hx hb dX5_read_15 rfl (lv_at hl 2 rfl) ?_
  refine lv_iload_n hx hb dX5_read_16 rfl (lv_at hl 3 rfl) ?_
  refine zcVv (As := [.int (nI i), .int F]) (rest := []) ⟨hx, hb, hml, hown, hts⟩ (c_X5_needFields l D ty g ad n1 n2 nL n4 n5 hI i (by omega) F hF1 hF2) (cwV 2 hts gX5_read_X5_needFields rfl rfl rfl (by decide +kernel) ⟨Nat.le_of_ble_eq_true rfl, Nat.le_of_ble_eq_true rfl⟩) zI_blind (zI_pre hP hK hN) (va_recv hK hP (ci := 6) (q0 := 0) rfl rfl) rfl hl.1 rfl (Nat.le_of_ble_eq_true rfl) dX5_read_17 ⟨Nat.le_of_ble_eq_true rfl, Nat.le_of_ble_eq_true rfl⟩ (fun _ => ?_)
  refine lv_iload hx hb dX5_read_20 (lv_at hl 4 rfl) ?_
  refine lv_iconst (v := nI 1) hx hb dX5_read_22 (by decide) ?_
  refine lv_icmp_ge (tgt := 36) hx hb dX5_read_23 (by decide) (fun c_5 => ?_) (fun c_5 => ?_)
  · refine lv_aload_n hx hb dX5_read_36 rfl (lv_at hl 0 rfl) ?_
    refine va_get hx hb hts hinX5 hown hK hP 0 rfl rfl 4 (by decide) (hk0) (fun _ h9 => h9) rfl dX5_read_37 ?_
    refine va_getN hx hb hts hinX3 hown hK hP 5 rfl rfl 0 (by decide) (zN.use hN (List.mem_of_getElem? (i := 16) rfl)) (fun _ h9 => h9) rfl dX5_read_40 ?_
    refine zeq hn5 ?_
    refine lv_bipush (v := nI 40) hx hb dX5_read_43 (by decide) ?_
    refine lv_icmp_lt (tgt := 58) hx hb dX5_read_45 (by decide) (fun c_6 => ?_) (fun c_6 => ?_)
    · have c_6 := zn_ltT (a := n5) (b := 40) (by omega) (by omega) c_6
      refine lv_iload hx hb dX5_read_58 (lv_at hl 4 rfl) ?_
      refine lv_aload_n hx hb dX5_read_60 rfl (lv_at hl 0 rfl) ?_
      refine va_get hx hb hts hinX5 hown hK hP 0 rfl rfl 0 (by decide) (hk3) (fun _ h9 => h9) rfl dX5_read_61 ?_
      refine lv_iload_n hx hb dX5_read_64 rfl (lv_at hl 2 rfl) ?_
      refine zcVi (As := [.int (nI i)]) (rest := [.int rw0]) ⟨hx, hb, hml, hown, hts⟩ (c_X4_latestRows l D ty g ad n1 n2 nL n4 n5 hI i (by omega)) (cwV 1 hts gX5_read_X4_latestRows rfl rfl rfl (by decide +kernel) ⟨Nat.le_of_ble_eq_true rfl, Nat.le_of_ble_eq_true rfl⟩) zI_blind (zI_pre hP hK hN) (va_recv hK hP (ci := 5) (q0 := 1) rfl rfl) rfl hl.1 rfl (Nat.le_of_ble_eq_true rfl) dX5_read_65 ⟨Nat.le_of_ble_eq_true rfl, Nat.le_of_ble_eq_true rfl⟩ (fun r_7 hr_7 => ?_)
      subst hr_7
      refine lv_icmp_le (tgt := 81) hx hb dX5_read_68 (by decide) (fun c_8 => ?_) (fun c_8 => ?_)
      · exact absurd hr2 (Int32.not_lt.mpr c_8)
      · exact zthrS (text := "the latest version has fewer rows") (E0 := "java/lang/IllegalStateException") (own := RX5) hx hb hlt hown hts hno hlocks hml hN hQ hT rfl zfit_S (by decide +kernel) (by decide +kernel) (by decide +kernel) zbad_S zgood_S (by decide +kernel) hl.1 dX5_read_71 dX5_read_74 dX5_read_75 dX5_read_77 dX5_read_80 (Nat.le_of_ble_eq_true rfl) (Nat.le_of_ble_eq_true rfl) (Nat.le_of_ble_eq_true rfl) (Nat.le_of_ble_eq_true rfl)
    · have c_6 := zn_ltF (a := n5) (b := 40) (by omega) (by omega) c_6
      omega
  · exact absurd (Int32.not_le.mp c_5) hr1
set_option maxHeartbeats 4000000 in
set_option maxRecDepth 100000 in
theorem c_X5_read_xS3 (l : Launch) (hlt : l.stackTraces = false) (D : va_G) (ty : Nat → ClassId) (g : Nat → Nat → Int32) (ad : Nat → Nat) (n1 n2 nL n4 n5 : Nat) (hI : dI g n1 n2 nL n4 n5) (R i P : Nat) (hR : R < 6) (hi : i < n1) (hPp : P < 4) (F rw0 : Int32) (hF1 : ¬ F < nI 1) (hF2 : ¬ allF g i < F) (hr1 : ¬ rw0 < nI 1) (hn40 : n5 < 40) (hr2 : ¬ rowsL g i < rw0) (hcv : ¬ F &&& (orN (fOpen g (nI R) (nI i) (nI 1 <<< (nI P &&& 31)) (g 0 0) (-1)) n4 ^^^ (-1)) = 0) : vx_Met l yX5_read wsX5_read ({ frames := 6, cells := 1, slots := 6, locals := 90 }) (va_Pc [.ref (ad 0), .int (nI R), .int (nI i), .int F, .int rw0, .int (nI P)] (zX D ty g ad)) zno (zXC "java/lang/IllegalStateException") 1 6 (fun _ => False) := by
  refine zXMet (cc := cX5_read) (maxL := 6) (ret := (some .int)) (by decide) rfl (Nat.le_of_ble_eq_true rfl) ?_
  intro p e s m below meth c hx hb hr hts hown hlocks hml hno hB ls hl
  obtain ⟨⟨hP, hK, hN⟩, hQ, hT⟩ := hB
  obtain ⟨⟨hn1, hn1b⟩, h78, ⟨hn2, hn2b⟩, h12, ⟨hnL, hnLb⟩, h15, ⟨hn4, hn4b⟩, ⟨hn5, hn5b⟩, hrd5, hd0⟩ := id hI
  have hq7 : nF g i < 7 := (h78 i hi).1.2
  have hq8 : nV g i < 7 := (h78 i hi).2.1.2
  have hl : lv_has ls 6 [(0, .ref (ad 0)), (1, .int (nI R)), (2, .int (nI i)), (3, .int F), (4, .int rw0), (5, .int (nI P))] := hl
  have hk0 := hts (.fieldLink RX5 40 "DatamarketDesk" "reads" "LDatamarketDesk$Reads;") (by decide +kernel)
  have hinX5 : ∀ w ∈ wsX50, w ∈ wsX5_read := by decide +kernel
  have hinX3 : ∀ w ∈ wsX30, w ∈ wsX5_read := by decide +kernel
  have hk3 := hts (.fieldLink RX5 12 "DatamarketDesk" "shelf" "LDatamarketDesk$Shelf;") (by decide +kernel)
  have hk4 := hts (.fieldLink RX5 33 "DatamarketDesk" "contracts" "LDatamarketDesk$Contracts;") (by decide +kernel)
  have hk5 := hts (.fieldLink RX5 48 "DatamarketDesk" "today" "I") (by decide +kernel)
  refine lv_iload_n hx hb dX5_read_0 rfl (lv_at hl 1 rfl) ?_
  refine zcSv (As := [.int (nI R)]) (rest := []) ⟨hx, hb, hml, hown, hts⟩ (c_X5_needReader l _ R (by omega)) (cwS 1 hts gX5_read_X5_needReader rfl rfl rfl (by decide +kernel) ⟨Nat.le_of_ble_eq_true rfl, Nat.le_of_ble_eq_true rfl⟩) (B := fun _ => True) (fun _ _ _ _ _ => trivial) (fun _ _ _ => trivial) rfl hl.1 rfl (Nat.le_of_ble_eq_true rfl) dX5_read_1 ⟨Nat.le_of_ble_eq_true rfl, Nat.le_of_ble_eq_true rfl⟩ (fun _ => ?_)
  refine lv_aload_n hx hb dX5_read_4 rfl (lv_at hl 0 rfl) ?_
  refine lv_iload_n hx hb dX5_read_5 rfl (lv_at hl 2 rfl) ?_
  refine zcVv (As := [.int (nI i)]) (rest := []) ⟨hx, hb, hml, hown, hts⟩ (c_X5_needSet l D ty g ad n1 n2 nL n4 n5 hI i (by omega)) (cwV 1 hts gX5_read_X5_needSet rfl rfl rfl (by decide +kernel) ⟨Nat.le_of_ble_eq_true rfl, Nat.le_of_ble_eq_true rfl⟩) zI_blind (zI_pre hP hK hN) (va_recv hK hP (ci := 6) (q0 := 0) rfl rfl) rfl hl.1 rfl (Nat.le_of_ble_eq_true rfl) dX5_read_6 ⟨Nat.le_of_ble_eq_true rfl, Nat.le_of_ble_eq_true rfl⟩ (fun _ => ?_)
  refine lv_iload hx hb dX5_read_9 (lv_at hl 5 rfl) ?_
  refine zcSv (As := [.int (nI P)]) (rest := []) ⟨hx, hb, hml, hown, hts⟩ (c_X5_needPurpose l _ P (by omega)) (cwS 1 hts gX5_read_X5_needPurpose rfl rfl rfl (by decide +kernel) ⟨Nat.le_of_ble_eq_true rfl, Nat.le_of_ble_eq_true rfl⟩) (B := fun _ => True) (fun _ _ _ _ _ => trivial) (fun _ _ _ => trivial) rfl hl.1 rfl (Nat.le_of_ble_eq_true rfl) dX5_read_11 ⟨Nat.le_of_ble_eq_true rfl, Nat.le_of_ble_eq_true rfl⟩ (fun _ => ?_)
  refine lv_aload_n hx hb dX5_read_14 rfl (lv_at hl 0 rfl) ?_
  refine lv_iload_n hx hb dX5_read_15 rfl (lv_at hl 2 rfl) ?_
  refine lv_iload_n hx hb dX5_read_16 rfl (lv_at hl 3 rfl) ?_
  refine zcVv (As := [.int (nI i), .int F]) (rest := []) ⟨hx, hb, hml, hown, hts⟩ (c_X5_needFields l D ty g ad n1 n2 nL n4 n5 hI i (by omega) F hF1 hF2) (cwV 2 hts gX5_read_X5_needFields rfl rfl rfl (by decide +kernel) ⟨Nat.le_of_ble_eq_true rfl, Nat.le_of_ble_eq_true rfl⟩) zI_blind (zI_pre hP hK hN) (va_recv hK hP (ci := 6) (q0 := 0) rfl rfl) rfl hl.1 rfl (Nat.le_of_ble_eq_true rfl) dX5_read_17 ⟨Nat.le_of_ble_eq_true rfl, Nat.le_of_ble_eq_true rfl⟩ (fun _ => ?_)
  refine lv_iload hx hb dX5_read_20 (lv_at hl 4 rfl) ?_
  refine lv_iconst (v := nI 1) hx hb dX5_read_22 (by decide) ?_
  refine lv_icmp_ge (tgt := 36) hx hb dX5_read_23 (by decide) (fun c_5 => ?_) (fun c_5 => ?_)
  · refine lv_aload_n hx hb dX5_read_36 rfl (lv_at hl 0 rfl) ?_
    refine va_get hx hb hts hinX5 hown hK hP 0 rfl rfl 4 (by decide) (hk0) (fun _ h9 => h9) rfl dX5_read_37 ?_
    refine va_getN hx hb hts hinX3 hown hK hP 5 rfl rfl 0 (by decide) (zN.use hN (List.mem_of_getElem? (i := 16) rfl)) (fun _ h9 => h9) rfl dX5_read_40 ?_
    refine zeq hn5 ?_
    refine lv_bipush (v := nI 40) hx hb dX5_read_43 (by decide) ?_
    refine lv_icmp_lt (tgt := 58) hx hb dX5_read_45 (by decide) (fun c_6 => ?_) (fun c_6 => ?_)
    · have c_6 := zn_ltT (a := n5) (b := 40) (by omega) (by omega) c_6
      refine lv_iload hx hb dX5_read_58 (lv_at hl 4 rfl) ?_
      refine lv_aload_n hx hb dX5_read_60 rfl (lv_at hl 0 rfl) ?_
      refine va_get hx hb hts hinX5 hown hK hP 0 rfl rfl 0 (by decide) (hk3) (fun _ h9 => h9) rfl dX5_read_61 ?_
      refine lv_iload_n hx hb dX5_read_64 rfl (lv_at hl 2 rfl) ?_
      refine zcVi (As := [.int (nI i)]) (rest := [.int rw0]) ⟨hx, hb, hml, hown, hts⟩ (c_X4_latestRows l D ty g ad n1 n2 nL n4 n5 hI i (by omega)) (cwV 1 hts gX5_read_X4_latestRows rfl rfl rfl (by decide +kernel) ⟨Nat.le_of_ble_eq_true rfl, Nat.le_of_ble_eq_true rfl⟩) zI_blind (zI_pre hP hK hN) (va_recv hK hP (ci := 5) (q0 := 1) rfl rfl) rfl hl.1 rfl (Nat.le_of_ble_eq_true rfl) dX5_read_65 ⟨Nat.le_of_ble_eq_true rfl, Nat.le_of_ble_eq_true rfl⟩ (fun r_7 hr_7 => ?_)
      subst hr_7
      refine lv_icmp_le (tgt := 81) hx hb dX5_read_68 (by decide) (fun c_8 => ?_) (fun c_8 => ?_)
      · refine lv_iload_n hx hb dX5_read_81 rfl (lv_at hl 3 rfl) ?_
        refine lv_aload_n hx hb dX5_read_82 rfl (lv_at hl 0 rfl) ?_
        refine va_get hx hb hts hinX5 hown hK hP 0 rfl rfl 3 (by decide) (hk4) (fun _ h9 => h9) rfl dX5_read_83 ?_
        refine lv_iload_n hx hb dX5_read_86 rfl (lv_at hl 1 rfl) ?_
        refine lv_iload_n hx hb dX5_read_87 rfl (lv_at hl 2 rfl) ?_
        refine lv_iconst (v := nI 1) hx hb dX5_read_88 (by decide) ?_
        refine lv_iload hx hb dX5_read_89 (lv_at hl 5 rfl) ?_
        refine lv_ishl hx hb dX5_read_91 ?_
        refine lv_aload_n hx hb dX5_read_92 rfl (lv_at hl 0 rfl) ?_
        refine va_get hx hb hts hinX5 hown hK hP 0 rfl rfl 6 (by decide) (hk5) (fun _ h9 => h9) rfl dX5_read_93 ?_
        refine lv_iconst (v := -1) hx hb dX5_read_96 (by decide) ?_
        refine zcVi (As := [.int (nI R), .int (nI i), .int ((nI 1) <<< ((nI P) &&& 31)), .int (g 0 0), .int (-1)]) (rest := [.int F]) ⟨hx, hb, hml, hown, hts⟩ (c_X0_open l D ty g ad n4 hn4 hn4b (nI R) (nI i) ((nI 1) <<< ((nI P) &&& 31)) (g 0 0) (-1)) (cwV 5 hts gX5_read_X0_open rfl rfl rfl (by decide +kernel) ⟨Nat.le_of_ble_eq_true rfl, Nat.le_of_ble_eq_true rfl⟩) zI_blind (zI_pre hP hK hN) (va_recv hK hP (ci := 1) (q0 := 4) rfl rfl) rfl hl.1 rfl (Nat.le_of_ble_eq_true rfl) dX5_read_97 ⟨Nat.le_of_ble_eq_true rfl, Nat.le_of_ble_eq_true rfl⟩ (fun r_9 hr_9 => ?_)
        subst hr_9
        refine lv_iconst (v := -1) hx hb dX5_read_100 (by decide) ?_
        refine lv_ixor hx hb dX5_read_101 ?_
        refine lv_iand hx hb dX5_read_102 ?_
        refine lv_if_eq (tgt := 116) hx hb dX5_read_103 (by decide) (fun c_10 => ?_) (fun c_10 => ?_)
        · exact absurd c_10 hcv
        · exact zthrS (text := "a field is not covered") (E0 := "java/lang/IllegalStateException") (own := RX5) hx hb hlt hown hts hno hlocks hml hN hQ hT rfl zfit_S (by decide +kernel) (by decide +kernel) (by decide +kernel) zbad_S zgood_S (by decide +kernel) hl.1 dX5_read_106 dX5_read_109 dX5_read_110 dX5_read_112 dX5_read_115 (Nat.le_of_ble_eq_true rfl) (Nat.le_of_ble_eq_true rfl) (Nat.le_of_ble_eq_true rfl) (Nat.le_of_ble_eq_true rfl)
      · exact absurd (Int32.not_le.mp c_8) hr2
    · have c_6 := zn_ltF (a := n5) (b := 40) (by omega) (by omega) c_6
      omega
  · exact absurd (Int32.not_le.mp c_5) hr1
set_option maxHeartbeats 4000000 in
set_option maxRecDepth 100000 in
theorem c_X5_contract_xB1 (l : Launch) (hlt : l.stackTraces = false) (D : va_G) (ty : Nat → ClassId) (g : Nat → Nat → Int32) (ad : Nat → Nat) (n1 n2 nL n4 n5 : Nat) (hI : dI g n1 n2 nL n4 n5) (x y F a b d : Int32) (h : x < 0 ∨ nI 6 ≤ x) : vx_Met l yX5_contract wsX5_contract ({ frames := 7, cells := 1, slots := 6, locals := 110 }) (va_Pc [.ref (ad 0), .int x, .int y, .int F, .int a, .int b, .int d] (zX D ty g ad)) zno (zXC "java/lang/IndexOutOfBoundsException") 1 6 (fun _ => False) := by
  refine zXMet (cc := cX5_contract) (maxL := 7) (ret := (some .int)) (by decide) rfl (Nat.le_of_ble_eq_true rfl) ?_
  intro p e s m below meth c hx hb hr hts hown hlocks hml hno hB ls hl
  obtain ⟨⟨hP, hK, hN⟩, hQ, hT⟩ := hB
  obtain ⟨⟨hn1, hn1b⟩, h78, ⟨hn2, hn2b⟩, h12, ⟨hnL, hnLb⟩, h15, ⟨hn4, hn4b⟩, ⟨hn5, hn5b⟩, hrd5, hd0⟩ := id hI
  have hl : lv_has ls 7 [(0, .ref (ad 0)), (1, .int x), (2, .int y), (3, .int F), (4, .int a), (5, .int b), (6, .int d)] := hl
  refine lv_iload_n hx hb dX5_contract_0 rfl (lv_at hl 1 rfl) ?_
  exact zxS (As := [.int x]) (rest := []) ⟨hx, hb, hml, hown, hts⟩ hno hlocks (c_X5_needReader_x l hlt x h) (cwS 1 hts gX5_contract_X5_needReader rfl rfl rfl (by decide +kernel) ⟨Nat.le_of_ble_eq_true rfl, Nat.le_of_ble_eq_true rfl⟩) zXB_blind (zXB_pre hN hQ hT) rfl hl.1 rfl (Nat.le_of_ble_eq_true rfl) dX5_contract_1 ⟨Nat.le_of_ble_eq_true rfl, Nat.le_of_ble_eq_true rfl⟩
set_option maxHeartbeats 4000000 in
set_option maxRecDepth 100000 in
theorem c_X5_contract_xB2 (l : Launch) (hlt : l.stackTraces = false) (D : va_G) (ty : Nat → ClassId) (g : Nat → Nat → Int32) (ad : Nat → Nat) (n1 n2 nL n4 n5 : Nat) (hI : dI g n1 n2 nL n4 n5) (R : Nat) (hR : R < 6) (x F a b d : Int32) (h : x < 0 ∨ nI n1 ≤ x) : vx_Met l yX5_contract wsX5_contract ({ frames := 7, cells := 1, slots := 6, locals := 111 }) (va_Pc [.ref (ad 0), .int (nI R), .int x, .int F, .int a, .int b, .int d] (zX D ty g ad)) zno (zXC "java/lang/IndexOutOfBoundsException") 1 6 (fun _ => False) := by
  refine zXMet (cc := cX5_contract) (maxL := 7) (ret := (some .int)) (by decide) rfl (Nat.le_of_ble_eq_true rfl) ?_
  intro p e s m below meth c hx hb hr hts hown hlocks hml hno hB ls hl
  obtain ⟨⟨hP, hK, hN⟩, hQ, hT⟩ := hB
  obtain ⟨⟨hn1, hn1b⟩, h78, ⟨hn2, hn2b⟩, h12, ⟨hnL, hnLb⟩, h15, ⟨hn4, hn4b⟩, ⟨hn5, hn5b⟩, hrd5, hd0⟩ := id hI
  have hl : lv_has ls 7 [(0, .ref (ad 0)), (1, .int (nI R)), (2, .int x), (3, .int F), (4, .int a), (5, .int b), (6, .int d)] := hl
  refine lv_iload_n hx hb dX5_contract_0 rfl (lv_at hl 1 rfl) ?_
  refine zcSv (As := [.int (nI R)]) (rest := []) ⟨hx, hb, hml, hown, hts⟩ (c_X5_needReader l _ R (by omega)) (cwS 1 hts gX5_contract_X5_needReader rfl rfl rfl (by decide +kernel) ⟨Nat.le_of_ble_eq_true rfl, Nat.le_of_ble_eq_true rfl⟩) (B := fun _ => True) (fun _ _ _ _ _ => trivial) (fun _ _ _ => trivial) rfl hl.1 rfl (Nat.le_of_ble_eq_true rfl) dX5_contract_1 ⟨Nat.le_of_ble_eq_true rfl, Nat.le_of_ble_eq_true rfl⟩ (fun _ => ?_)
  refine lv_aload_n hx hb dX5_contract_4 rfl (lv_at hl 0 rfl) ?_
  refine lv_iload_n hx hb dX5_contract_5 rfl (lv_at hl 2 rfl) ?_
  exact zxV (As := [.int x]) (rest := []) ⟨hx, hb, hml, hown, hts⟩ hno hlocks (c_X5_needSet_x l hlt D ty g ad n1 n2 nL n4 n5 hI x h) (cwV 1 hts gX5_contract_X5_needSet rfl rfl rfl (by decide +kernel) ⟨Nat.le_of_ble_eq_true rfl, Nat.le_of_ble_eq_true rfl⟩) zX_blind (zX_pre hP hK hN hQ hT) (va_recv hK hP (ci := 6) (q0 := 0) rfl rfl) rfl hl.1 rfl (Nat.le_of_ble_eq_true rfl) dX5_contract_6 ⟨Nat.le_of_ble_eq_true rfl, Nat.le_of_ble_eq_true rfl⟩
set_option maxHeartbeats 4000000 in
set_option maxRecDepth 100000 in
theorem c_X5_contract_xA1 (l : Launch) (hlt : l.stackTraces = false) (D : va_G) (ty : Nat → ClassId) (g : Nat → Nat → Int32) (ad : Nat → Nat) (n1 n2 nL n4 n5 : Nat) (hI : dI g n1 n2 nL n4 n5) (R i : Nat) (hR : R < 6) (hi : i < n1) (F ps fr to : Int32) (h : F < nI 1 ∨ allF g i < F) : vx_Met l yX5_contract wsX5_contract ({ frames := 7, cells := 1, slots := 6, locals := 112 }) (va_Pc [.ref (ad 0), .int (nI R), .int (nI i), .int F, .int ps, .int fr, .int to] (zX D ty g ad)) zno (zXC "java/lang/IllegalArgumentException") 1 6 (fun _ => False) := by
  refine zXMet (cc := cX5_contract) (maxL := 7) (ret := (some .int)) (by decide) rfl (Nat.le_of_ble_eq_true rfl) ?_
  intro p e s m below meth c hx hb hr hts hown hlocks hml hno hB ls hl
  obtain ⟨⟨hP, hK, hN⟩, hQ, hT⟩ := hB
  obtain ⟨⟨hn1, hn1b⟩, h78, ⟨hn2, hn2b⟩, h12, ⟨hnL, hnLb⟩, h15, ⟨hn4, hn4b⟩, ⟨hn5, hn5b⟩, hrd5, hd0⟩ := id hI
  have hq7 : nF g i < 7 := (h78 i hi).1.2
  have hq8 : nV g i < 7 := (h78 i hi).2.1.2
  have hl : lv_has ls 7 [(0, .ref (ad 0)), (1, .int (nI R)), (2, .int (nI i)), (3, .int F), (4, .int ps), (5, .int fr), (6, .int to)] := hl
  refine lv_iload_n hx hb dX5_contract_0 rfl (lv_at hl 1 rfl) ?_
  refine zcSv (As := [.int (nI R)]) (rest := []) ⟨hx, hb, hml, hown, hts⟩ (c_X5_needReader l _ R (by omega)) (cwS 1 hts gX5_contract_X5_needReader rfl rfl rfl (by decide +kernel) ⟨Nat.le_of_ble_eq_true rfl, Nat.le_of_ble_eq_true rfl⟩) (B := fun _ => True) (fun _ _ _ _ _ => trivial) (fun _ _ _ => trivial) rfl hl.1 rfl (Nat.le_of_ble_eq_true rfl) dX5_contract_1 ⟨Nat.le_of_ble_eq_true rfl, Nat.le_of_ble_eq_true rfl⟩ (fun _ => ?_)
  refine lv_aload_n hx hb dX5_contract_4 rfl (lv_at hl 0 rfl) ?_
  refine lv_iload_n hx hb dX5_contract_5 rfl (lv_at hl 2 rfl) ?_
  refine zcVv (As := [.int (nI i)]) (rest := []) ⟨hx, hb, hml, hown, hts⟩ (c_X5_needSet l D ty g ad n1 n2 nL n4 n5 hI i (by omega)) (cwV 1 hts gX5_contract_X5_needSet rfl rfl rfl (by decide +kernel) ⟨Nat.le_of_ble_eq_true rfl, Nat.le_of_ble_eq_true rfl⟩) zI_blind (zI_pre hP hK hN) (va_recv hK hP (ci := 6) (q0 := 0) rfl rfl) rfl hl.1 rfl (Nat.le_of_ble_eq_true rfl) dX5_contract_6 ⟨Nat.le_of_ble_eq_true rfl, Nat.le_of_ble_eq_true rfl⟩ (fun _ => ?_)
  refine lv_aload_n hx hb dX5_contract_9 rfl (lv_at hl 0 rfl) ?_
  refine lv_iload_n hx hb dX5_contract_10 rfl (lv_at hl 2 rfl) ?_
  refine lv_iload_n hx hb dX5_contract_11 rfl (lv_at hl 3 rfl) ?_
  exact zxV (As := [.int (nI i), .int F]) (rest := []) ⟨hx, hb, hml, hown, hts⟩ hno hlocks (c_X5_needFields_x l hlt D ty g ad n1 n2 nL n4 n5 hI i (by omega) F h) (cwV 2 hts gX5_contract_X5_needFields rfl rfl rfl (by decide +kernel) ⟨Nat.le_of_ble_eq_true rfl, Nat.le_of_ble_eq_true rfl⟩) zX_blind (zX_pre hP hK hN hQ hT) (va_recv hK hP (ci := 6) (q0 := 0) rfl rfl) rfl hl.1 rfl (Nat.le_of_ble_eq_true rfl) dX5_contract_12 ⟨Nat.le_of_ble_eq_true rfl, Nat.le_of_ble_eq_true rfl⟩
set_option maxHeartbeats 4000000 in
set_option maxRecDepth 100000 in
theorem c_X5_contract_xA2 (l : Launch) (hlt : l.stackTraces = false) (D : va_G) (ty : Nat → ClassId) (g : Nat → Nat → Int32) (ad : Nat → Nat) (n1 n2 nL n4 n5 : Nat) (hI : dI g n1 n2 nL n4 n5) (R i : Nat) (hR : R < 6) (hi : i < n1) (F ps fr to : Int32) (hF1 : ¬ F < nI 1) (hF2 : ¬ allF g i < F) (h : ps < nI 1 ∨ nI 15 < ps ∨ fr < g 0 0 ∨ to < fr ∨ nI 359 < to) : vx_Met l yX5_contract wsX5_contract ({ frames := 6, cells := 1, slots := 6, locals := 90 }) (va_Pc [.ref (ad 0), .int (nI R), .int (nI i), .int F, .int ps, .int fr, .int to] (zX D ty g ad)) zno (zXC "java/lang/IllegalArgumentException") 1 6 (fun _ => False) := by
  refine zXMet (cc := cX5_contract) (maxL := 7) (ret := (some .int)) (by decide) rfl (Nat.le_of_ble_eq_true rfl) ?_
  intro p e s m below meth c hx hb hr hts hown hlocks hml hno hB ls hl
  obtain ⟨⟨hP, hK, hN⟩, hQ, hT⟩ := hB
  obtain ⟨⟨hn1, hn1b⟩, h78, ⟨hn2, hn2b⟩, h12, ⟨hnL, hnLb⟩, h15, ⟨hn4, hn4b⟩, ⟨hn5, hn5b⟩, hrd5, hd0⟩ := id hI
  have hq7 : nF g i < 7 := (h78 i hi).1.2
  have hq8 : nV g i < 7 := (h78 i hi).2.1.2
  have hl : lv_has ls 7 [(0, .ref (ad 0)), (1, .int (nI R)), (2, .int (nI i)), (3, .int F), (4, .int ps), (5, .int fr), (6, .int to)] := hl
  have hk0 := hts (.fieldLink RX5 48 "DatamarketDesk" "today" "I") (by decide +kernel)
  have hinX5 : ∀ w ∈ wsX50, w ∈ wsX5_contract := by decide +kernel
  refine lv_iload_n hx hb dX5_contract_0 rfl (lv_at hl 1 rfl) ?_
  refine zcSv (As := [.int (nI R)]) (rest := []) ⟨hx, hb, hml, hown, hts⟩ (c_X5_needReader l _ R (by omega)) (cwS 1 hts gX5_contract_X5_needReader rfl rfl rfl (by decide +kernel) ⟨Nat.le_of_ble_eq_true rfl, Nat.le_of_ble_eq_true rfl⟩) (B := fun _ => True) (fun _ _ _ _ _ => trivial) (fun _ _ _ => trivial) rfl hl.1 rfl (Nat.le_of_ble_eq_true rfl) dX5_contract_1 ⟨Nat.le_of_ble_eq_true rfl, Nat.le_of_ble_eq_true rfl⟩ (fun _ => ?_)
  refine lv_aload_n hx hb dX5_contract_4 rfl (lv_at hl 0 rfl) ?_
  refine lv_iload_n hx hb dX5_contract_5 rfl (lv_at hl 2 rfl) ?_
  refine zcVv (As := [.int (nI i)]) (rest := []) ⟨hx, hb, hml, hown, hts⟩ (c_X5_needSet l D ty g ad n1 n2 nL n4 n5 hI i (by omega)) (cwV 1 hts gX5_contract_X5_needSet rfl rfl rfl (by decide +kernel) ⟨Nat.le_of_ble_eq_true rfl, Nat.le_of_ble_eq_true rfl⟩) zI_blind (zI_pre hP hK hN) (va_recv hK hP (ci := 6) (q0 := 0) rfl rfl) rfl hl.1 rfl (Nat.le_of_ble_eq_true rfl) dX5_contract_6 ⟨Nat.le_of_ble_eq_true rfl, Nat.le_of_ble_eq_true rfl⟩ (fun _ => ?_)
  refine lv_aload_n hx hb dX5_contract_9 rfl (lv_at hl 0 rfl) ?_
  refine lv_iload_n hx hb dX5_contract_10 rfl (lv_at hl 2 rfl) ?_
  refine lv_iload_n hx hb dX5_contract_11 rfl (lv_at hl 3 rfl) ?_
  refine zcVv (As := [.int (nI i), .int F]) (rest := []) ⟨hx, hb, hml, hown, hts⟩ (c_X5_needFields l D ty g ad n1 n2 nL n4 n5 hI i (by omega) F hF1 hF2) (cwV 2 hts gX5_contract_X5_needFields rfl rfl rfl (by decide +kernel) ⟨Nat.le_of_ble_eq_true rfl, Nat.le_of_ble_eq_true rfl⟩) zI_blind (zI_pre hP hK hN) (va_recv hK hP (ci := 6) (q0 := 0) rfl rfl) rfl hl.1 rfl (Nat.le_of_ble_eq_true rfl) dX5_contract_12 ⟨Nat.le_of_ble_eq_true rfl, Nat.le_of_ble_eq_true rfl⟩ (fun _ => ?_)
  refine lv_iload hx hb dX5_contract_15 (lv_at hl 4 rfl) ?_
  refine lv_iconst (v := nI 1) hx hb dX5_contract_17 (by decide) ?_
  refine lv_icmp_lt (tgt := 28) hx hb dX5_contract_18 (by decide) (fun c_4 => ?_) (fun c_4 => ?_)
  · exact zthrS (text := "purposes is not 1 to 15") (E0 := "java/lang/IllegalArgumentException") (own := RX5) hx hb hlt hown hts hno hlocks hml hN hQ hT rfl zfit_A (by decide +kernel) (by decide +kernel) (by decide +kernel) zbad_A zgood_A (by decide +kernel) hl.1 dX5_contract_28 dX5_contract_31 dX5_contract_32 dX5_contract_34 dX5_contract_37 (Nat.le_of_ble_eq_true rfl) (Nat.le_of_ble_eq_true rfl) (Nat.le_of_ble_eq_true rfl) (Nat.le_of_ble_eq_true rfl)
  · refine lv_iload hx hb dX5_contract_21 (lv_at hl 4 rfl) ?_
    refine lv_bipush (v := nI 15) hx hb dX5_contract_23 (by decide) ?_
    refine lv_icmp_le (tgt := 38) hx hb dX5_contract_25 (by decide) (fun c_5 => ?_) (fun c_5 => ?_)
    · refine lv_iload hx hb dX5_contract_38 (lv_at hl 5 rfl) ?_
      refine lv_aload_n hx hb dX5_contract_40 rfl (lv_at hl 0 rfl) ?_
      refine va_get hx hb hts hinX5 hown hK hP 0 rfl rfl 6 (by decide) (hk0) (fun _ h9 => h9) rfl dX5_contract_41 ?_
      refine lv_icmp_lt (tgt := 62) hx hb dX5_contract_44 (by decide) (fun c_6 => ?_) (fun c_6 => ?_)
      · exact zthrS (text := "from and to are not days from today on") (E0 := "java/lang/IllegalArgumentException") (own := RX5) hx hb hlt hown hts hno hlocks hml hN hQ hT rfl zfit_A (by decide +kernel) (by decide +kernel) (by decide +kernel) zbad_A zgood_A (by decide +kernel) hl.1 dX5_contract_62 dX5_contract_65 dX5_contract_66 dX5_contract_68 dX5_contract_71 (Nat.le_of_ble_eq_true rfl) (Nat.le_of_ble_eq_true rfl) (Nat.le_of_ble_eq_true rfl) (Nat.le_of_ble_eq_true rfl)
      · refine lv_iload hx hb dX5_contract_47 (lv_at hl 6 rfl) ?_
        refine lv_iload hx hb dX5_contract_49 (lv_at hl 5 rfl) ?_
        refine lv_icmp_lt (tgt := 62) hx hb dX5_contract_51 (by decide) (fun c_7 => ?_) (fun c_7 => ?_)
        · exact zthrS (text := "from and to are not days from today on") (E0 := "java/lang/IllegalArgumentException") (own := RX5) hx hb hlt hown hts hno hlocks hml hN hQ hT rfl zfit_A (by decide +kernel) (by decide +kernel) (by decide +kernel) zbad_A zgood_A (by decide +kernel) hl.1 dX5_contract_62 dX5_contract_65 dX5_contract_66 dX5_contract_68 dX5_contract_71 (Nat.le_of_ble_eq_true rfl) (Nat.le_of_ble_eq_true rfl) (Nat.le_of_ble_eq_true rfl) (Nat.le_of_ble_eq_true rfl)
        · refine lv_iload hx hb dX5_contract_54 (lv_at hl 6 rfl) ?_
          refine lv_sipush (v := nI 359) hx hb dX5_contract_56 (by decide) ?_
          refine lv_icmp_le (tgt := 72) hx hb dX5_contract_59 (by decide) (fun c_8 => ?_) (fun c_8 => ?_)
          · exfalso; rcases h with h | h | h | h | h <;> first | exact absurd h (by assumption) | exact absurd (by assumption) (Int32.not_lt.mpr h) | exact absurd h (Int32.not_lt.mpr (by assumption)) | omega
          · exact zthrS (text := "from and to are not days from today on") (E0 := "java/lang/IllegalArgumentException") (own := RX5) hx hb hlt hown hts hno hlocks hml hN hQ hT rfl zfit_A (by decide +kernel) (by decide +kernel) (by decide +kernel) zbad_A zgood_A (by decide +kernel) hl.1 dX5_contract_62 dX5_contract_65 dX5_contract_66 dX5_contract_68 dX5_contract_71 (Nat.le_of_ble_eq_true rfl) (Nat.le_of_ble_eq_true rfl) (Nat.le_of_ble_eq_true rfl) (Nat.le_of_ble_eq_true rfl)
    · exact zthrS (text := "purposes is not 1 to 15") (E0 := "java/lang/IllegalArgumentException") (own := RX5) hx hb hlt hown hts hno hlocks hml hN hQ hT rfl zfit_A (by decide +kernel) (by decide +kernel) (by decide +kernel) zbad_A zgood_A (by decide +kernel) hl.1 dX5_contract_28 dX5_contract_31 dX5_contract_32 dX5_contract_34 dX5_contract_37 (Nat.le_of_ble_eq_true rfl) (Nat.le_of_ble_eq_true rfl) (Nat.le_of_ble_eq_true rfl) (Nat.le_of_ble_eq_true rfl)
set_option maxHeartbeats 4000000 in
set_option maxRecDepth 100000 in
theorem c_X5_contract_xS (l : Launch) (hlt : l.stackTraces = false) (D : va_G) (ty : Nat → ClassId) (g : Nat → Nat → Int32) (ad : Nat → Nat) (n1 n2 nL n4 n5 : Nat) (hI : dI g n1 n2 nL n4 n5) (R i : Nat) (hR : R < 6) (hi : i < n1) (F ps fr to : Int32) (hF1 : ¬ F < nI 1) (hF2 : ¬ allF g i < F) (hp1 : ¬ ps < nI 1) (hp2 : ¬ nI 15 < ps) (ht1 : ¬ fr < g 0 0) (ht2 : ¬ to < fr) (ht3 : ¬ nI 359 < to) (hn16 : n4 = 16) : vx_Met l yX5_contract wsX5_contract ({ frames := 6, cells := 1, slots := 6, locals := 90 }) (va_Pc [.ref (ad 0), .int (nI R), .int (nI i), .int F, .int ps, .int fr, .int to] (zX D ty g ad)) zno (zXC "java/lang/IllegalStateException") 1 6 (fun _ => False) := by
  refine zXMet (cc := cX5_contract) (maxL := 7) (ret := (some .int)) (by decide) rfl (Nat.le_of_ble_eq_true rfl) ?_
  intro p e s m below meth c hx hb hr hts hown hlocks hml hno hB ls hl
  obtain ⟨⟨hP, hK, hN⟩, hQ, hT⟩ := hB
  obtain ⟨⟨hn1, hn1b⟩, h78, ⟨hn2, hn2b⟩, h12, ⟨hnL, hnLb⟩, h15, ⟨hn4, hn4b⟩, ⟨hn5, hn5b⟩, hrd5, hd0⟩ := id hI
  have hq7 : nF g i < 7 := (h78 i hi).1.2
  have hq8 : nV g i < 7 := (h78 i hi).2.1.2
  have hl : lv_has ls 7 [(0, .ref (ad 0)), (1, .int (nI R)), (2, .int (nI i)), (3, .int F), (4, .int ps), (5, .int fr), (6, .int to)] := hl
  have hk0 := hts (.fieldLink RX5 48 "DatamarketDesk" "today" "I") (by decide +kernel)
  have hinX5 : ∀ w ∈ wsX50, w ∈ wsX5_contract := by decide +kernel
  have hk2 := hts (.fieldLink RX5 33 "DatamarketDesk" "contracts" "LDatamarketDesk$Contracts;") (by decide +kernel)
  have hinX0 : ∀ w ∈ wsX00, w ∈ wsX5_contract := by decide +kernel
  refine lv_iload_n hx hb dX5_contract_0 rfl (lv_at hl 1 rfl) ?_
  refine zcSv (As := [.int (nI R)]) (rest := []) ⟨hx, hb, hml, hown, hts⟩ (c_X5_needReader l _ R (by omega)) (cwS 1 hts gX5_contract_X5_needReader rfl rfl rfl (by decide +kernel) ⟨Nat.le_of_ble_eq_true rfl, Nat.le_of_ble_eq_true rfl⟩) (B := fun _ => True) (fun _ _ _ _ _ => trivial) (fun _ _ _ => trivial) rfl hl.1 rfl (Nat.le_of_ble_eq_true rfl) dX5_contract_1 ⟨Nat.le_of_ble_eq_true rfl, Nat.le_of_ble_eq_true rfl⟩ (fun _ => ?_)
  refine lv_aload_n hx hb dX5_contract_4 rfl (lv_at hl 0 rfl) ?_
  refine lv_iload_n hx hb dX5_contract_5 rfl (lv_at hl 2 rfl) ?_
  refine zcVv (As := [.int (nI i)]) (rest := []) ⟨hx, hb, hml, hown, hts⟩ (c_X5_needSet l D ty g ad n1 n2 nL n4 n5 hI i (by omega)) (cwV 1 hts gX5_contract_X5_needSet rfl rfl rfl (by decide +kernel) ⟨Nat.le_of_ble_eq_true rfl, Nat.le_of_ble_eq_true rfl⟩) zI_blind (zI_pre hP hK hN) (va_recv hK hP (ci := 6) (q0 := 0) rfl rfl) rfl hl.1 rfl (Nat.le_of_ble_eq_true rfl) dX5_contract_6 ⟨Nat.le_of_ble_eq_true rfl, Nat.le_of_ble_eq_true rfl⟩ (fun _ => ?_)
  refine lv_aload_n hx hb dX5_contract_9 rfl (lv_at hl 0 rfl) ?_
  refine lv_iload_n hx hb dX5_contract_10 rfl (lv_at hl 2 rfl) ?_
  refine lv_iload_n hx hb dX5_contract_11 rfl (lv_at hl 3 rfl) ?_
  refine zcVv (As := [.int (nI i), .int F]) (rest := []) ⟨hx, hb, hml, hown, hts⟩ (c_X5_needFields l D ty g ad n1 n2 nL n4 n5 hI i (by omega) F hF1 hF2) (cwV 2 hts gX5_contract_X5_needFields rfl rfl rfl (by decide +kernel) ⟨Nat.le_of_ble_eq_true rfl, Nat.le_of_ble_eq_true rfl⟩) zI_blind (zI_pre hP hK hN) (va_recv hK hP (ci := 6) (q0 := 0) rfl rfl) rfl hl.1 rfl (Nat.le_of_ble_eq_true rfl) dX5_contract_12 ⟨Nat.le_of_ble_eq_true rfl, Nat.le_of_ble_eq_true rfl⟩ (fun _ => ?_)
  refine lv_iload hx hb dX5_contract_15 (lv_at hl 4 rfl) ?_
  refine lv_iconst (v := nI 1) hx hb dX5_contract_17 (by decide) ?_
  refine lv_icmp_lt (tgt := 28) hx hb dX5_contract_18 (by decide) (fun c_4 => ?_) (fun c_4 => ?_)
  · exact absurd c_4 hp1
  · refine lv_iload hx hb dX5_contract_21 (lv_at hl 4 rfl) ?_
    refine lv_bipush (v := nI 15) hx hb dX5_contract_23 (by decide) ?_
    refine lv_icmp_le (tgt := 38) hx hb dX5_contract_25 (by decide) (fun c_5 => ?_) (fun c_5 => ?_)
    · refine lv_iload hx hb dX5_contract_38 (lv_at hl 5 rfl) ?_
      refine lv_aload_n hx hb dX5_contract_40 rfl (lv_at hl 0 rfl) ?_
      refine va_get hx hb hts hinX5 hown hK hP 0 rfl rfl 6 (by decide) (hk0) (fun _ h9 => h9) rfl dX5_contract_41 ?_
      refine lv_icmp_lt (tgt := 62) hx hb dX5_contract_44 (by decide) (fun c_6 => ?_) (fun c_6 => ?_)
      · exact absurd c_6 ht1
      · refine lv_iload hx hb dX5_contract_47 (lv_at hl 6 rfl) ?_
        refine lv_iload hx hb dX5_contract_49 (lv_at hl 5 rfl) ?_
        refine lv_icmp_lt (tgt := 62) hx hb dX5_contract_51 (by decide) (fun c_7 => ?_) (fun c_7 => ?_)
        · exact absurd c_7 ht2
        · refine lv_iload hx hb dX5_contract_54 (lv_at hl 6 rfl) ?_
          refine lv_sipush (v := nI 359) hx hb dX5_contract_56 (by decide) ?_
          refine lv_icmp_le (tgt := 72) hx hb dX5_contract_59 (by decide) (fun c_8 => ?_) (fun c_8 => ?_)
          · refine lv_aload_n hx hb dX5_contract_72 rfl (lv_at hl 0 rfl) ?_
            refine va_get hx hb hts hinX5 hown hK hP 0 rfl rfl 3 (by decide) (hk2) (fun _ h9 => h9) rfl dX5_contract_73 ?_
            refine va_getN hx hb hts hinX0 hown hK hP 4 rfl rfl 0 (by decide) (zN.use hN (List.mem_of_getElem? (i := 13) rfl)) (fun _ h9 => h9) rfl dX5_contract_76 ?_
            refine zeq hn4 ?_
            refine lv_bipush (v := nI 16) hx hb dX5_contract_79 (by decide) ?_
            refine lv_icmp_lt (tgt := 94) hx hb dX5_contract_81 (by decide) (fun c_9 => ?_) (fun c_9 => ?_)
            · have c_9 := zn_ltT (a := n4) (b := 16) (by omega) (by omega) c_9
              omega
            · have c_9 := zn_ltF (a := n4) (b := 16) (by omega) (by omega) c_9
              exact zthrS (text := "there are 16 contracts") (E0 := "java/lang/IllegalStateException") (own := RX5) hx hb hlt hown hts hno hlocks hml hN hQ hT rfl zfit_S (by decide +kernel) (by decide +kernel) (by decide +kernel) zbad_S zgood_S (by decide +kernel) hl.1 dX5_contract_84 dX5_contract_87 dX5_contract_88 dX5_contract_90 dX5_contract_93 (Nat.le_of_ble_eq_true rfl) (Nat.le_of_ble_eq_true rfl) (Nat.le_of_ble_eq_true rfl) (Nat.le_of_ble_eq_true rfl)
          · exact absurd (Int32.not_le.mp c_8) ht3
    · exact absurd (Int32.not_le.mp c_5) hp2
set_option maxHeartbeats 4000000 in
set_option maxRecDepth 100000 in
theorem c_X5_end_xB (l : Launch) (hlt : l.stackTraces = false) (D : va_G) (ty : Nat → ClassId) (g : Nat → Nat → Int32) (ad : Nat → Nat) (n1 n2 nL n4 n5 : Nat) (hI : dI g n1 n2 nL n4 n5) (x : Int32) (h : x < 0 ∨ nI n4 ≤ x) : vx_Met l yX5_end wsX5_end ({ frames := 7, cells := 1, slots := 6, locals := 111 }) (va_Pc [.ref (ad 0), .int x] (zX D ty g ad)) zno (zXC "java/lang/IndexOutOfBoundsException") 1 6 (fun _ => False) := by
  refine zXMet (cc := cX5_end) (maxL := 2) (ret := (some .int)) (by decide) rfl (Nat.le_of_ble_eq_true rfl) ?_
  intro p e s m below meth c hx hb hr hts hown hlocks hml hno hB ls hl
  obtain ⟨⟨hP, hK, hN⟩, hQ, hT⟩ := hB
  obtain ⟨⟨hn1, hn1b⟩, h78, ⟨hn2, hn2b⟩, h12, ⟨hnL, hnLb⟩, h15, ⟨hn4, hn4b⟩, ⟨hn5, hn5b⟩, hrd5, hd0⟩ := id hI
  have hl : lv_has ls 2 [(0, .ref (ad 0)), (1, .int x)] := hl
  refine lv_aload_n hx hb dX5_end_0 rfl (lv_at hl 0 rfl) ?_
  refine lv_iload_n hx hb dX5_end_1 rfl (lv_at hl 1 rfl) ?_
  exact zxV (As := [.int x]) (rest := []) ⟨hx, hb, hml, hown, hts⟩ hno hlocks (c_X5_needContract_x l hlt D ty g ad n1 n2 nL n4 n5 hI x h) (cwV 1 hts gX5_end_X5_needContract rfl rfl rfl (by decide +kernel) ⟨Nat.le_of_ble_eq_true rfl, Nat.le_of_ble_eq_true rfl⟩) zX_blind (zX_pre hP hK hN hQ hT) (va_recv hK hP (ci := 6) (q0 := 0) rfl rfl) rfl hl.1 rfl (Nat.le_of_ble_eq_true rfl) dX5_end_2 ⟨Nat.le_of_ble_eq_true rfl, Nat.le_of_ble_eq_true rfl⟩
set_option maxHeartbeats 4000000 in
set_option maxRecDepth 100000 in
theorem c_X5_neededBy_xB (l : Launch) (hlt : l.stackTraces = false) (D : va_G) (ty : Nat → ClassId) (g : Nat → Nat → Int32) (ad : Nat → Nat) (n1 n2 nL n4 n5 : Nat) (hI : dI g n1 n2 nL n4 n5) (x : Int32) (h : x < 0 ∨ nI n4 ≤ x) : vx_Met l yX5_neededBy wsX5_neededBy ({ frames := 7, cells := 1, slots := 6, locals := 111 }) (va_Pc [.ref (ad 0), .int x] (zX D ty g ad)) zno (zXC "java/lang/IndexOutOfBoundsException") 1 6 (fun _ => False) := by
  refine zXMet (cc := cX5_neededBy) (maxL := 4) (ret := (some .int)) (by decide) rfl (Nat.le_of_ble_eq_true rfl) ?_
  intro p e s m below meth c hx hb hr hts hown hlocks hml hno hB ls hl
  obtain ⟨⟨hP, hK, hN⟩, hQ, hT⟩ := hB
  obtain ⟨⟨hn1, hn1b⟩, h78, ⟨hn2, hn2b⟩, h12, ⟨hnL, hnLb⟩, h15, ⟨hn4, hn4b⟩, ⟨hn5, hn5b⟩, hrd5, hd0⟩ := id hI
  have hl : lv_has ls 4 [(0, .ref (ad 0)), (1, .int x)] := hl
  refine lv_aload_n hx hb dX5_neededBy_0 rfl (lv_at hl 0 rfl) ?_
  refine lv_iload_n hx hb dX5_neededBy_1 rfl (lv_at hl 1 rfl) ?_
  exact zxV (As := [.int x]) (rest := []) ⟨hx, hb, hml, hown, hts⟩ hno hlocks (c_X5_needContract_x l hlt D ty g ad n1 n2 nL n4 n5 hI x h) (cwV 1 hts gX5_neededBy_X5_needContract rfl rfl rfl (by decide +kernel) ⟨Nat.le_of_ble_eq_true rfl, Nat.le_of_ble_eq_true rfl⟩) zX_blind (zX_pre hP hK hN hQ hT) (va_recv hK hP (ci := 6) (q0 := 0) rfl rfl) rfl hl.1 rfl (Nat.le_of_ble_eq_true rfl) dX5_neededBy_2 ⟨Nat.le_of_ble_eq_true rfl, Nat.le_of_ble_eq_true rfl⟩
set_option maxHeartbeats 4000000 in
set_option maxRecDepth 100000 in
theorem c_X5_bill_xB (l : Launch) (hlt : l.stackTraces = false) (D : va_G) (ty : Nat → ClassId) (g : Nat → Nat → Int32) (ad : Nat → Nat) (n1 n2 nL n4 n5 : Nat) (hI : dI g n1 n2 nL n4 n5) (x : Int32) (h : x < 0 ∨ nI 6 ≤ x) : vx_Met l yX5_bill wsX5_bill ({ frames := 7, cells := 1, slots := 6, locals := 110 }) (va_Pc [.ref (ad 0), .int x] (zX D ty g ad)) zno (zXC "java/lang/IndexOutOfBoundsException") 1 6 (fun _ => False) := by
  refine zXMet (cc := cX5_bill) (maxL := 3) (ret := (some .int)) (by decide) rfl (Nat.le_of_ble_eq_true rfl) ?_
  intro p e s m below meth c hx hb hr hts hown hlocks hml hno hB ls hl
  obtain ⟨⟨hP, hK, hN⟩, hQ, hT⟩ := hB
  obtain ⟨⟨hn1, hn1b⟩, h78, ⟨hn2, hn2b⟩, h12, ⟨hnL, hnLb⟩, h15, ⟨hn4, hn4b⟩, ⟨hn5, hn5b⟩, hrd5, hd0⟩ := id hI
  have hl : lv_has ls 3 [(0, .ref (ad 0)), (1, .int x)] := hl
  refine lv_iload_n hx hb dX5_bill_0 rfl (lv_at hl 1 rfl) ?_
  exact zxS (As := [.int x]) (rest := []) ⟨hx, hb, hml, hown, hts⟩ hno hlocks (c_X5_needReader_x l hlt x h) (cwS 1 hts gX5_bill_X5_needReader rfl rfl rfl (by decide +kernel) ⟨Nat.le_of_ble_eq_true rfl, Nat.le_of_ble_eq_true rfl⟩) zXB_blind (zXB_pre hN hQ hT) rfl hl.1 rfl (Nat.le_of_ble_eq_true rfl) dX5_bill_1 ⟨Nat.le_of_ble_eq_true rfl, Nat.le_of_ble_eq_true rfl⟩
set_option maxHeartbeats 4000000 in
set_option maxRecDepth 100000 in
theorem c_X5_pass_xA (l : Launch) (hlt : l.stackTraces = false) (D : va_G) (ty : Nat → ClassId) (g : Nat → Nat → Int32) (ad : Nat → Nat) (n1 n2 nL n4 n5 : Nat) (hI : dI g n1 n2 nL n4 n5) (d : Int32) (h : d < nI 1 ∨ nI 30 < d) : vx_Met l yX5_pass wsX5_pass ({ frames := 6, cells := 1, slots := 6, locals := 90 }) (va_Pc [.ref (ad 0), .int d] (zX D ty g ad)) zno (zXC "java/lang/IllegalArgumentException") 1 6 (fun _ => False) := by
  refine zXMet (cc := cX5_pass) (maxL := 2) (ret := (some .int)) (by decide) rfl (Nat.le_of_ble_eq_true rfl) ?_
  intro p e s m below meth c hx hb hr hts hown hlocks hml hno hB ls hl
  obtain ⟨⟨hP, hK, hN⟩, hQ, hT⟩ := hB
  obtain ⟨⟨hn1, hn1b⟩, h78, ⟨hn2, hn2b⟩, h12, ⟨hnL, hnLb⟩, h15, ⟨hn4, hn4b⟩, ⟨hn5, hn5b⟩, hrd5, hd0⟩ := id hI
  have hl : lv_has ls 2 [(0, .ref (ad 0)), (1, .int d)] := hl
  refine lv_iload_n hx hb dX5_pass_0 rfl (lv_at hl 1 rfl) ?_
  refine lv_iconst (v := nI 1) hx hb dX5_pass_1 (by decide) ?_
  refine lv_icmp_lt (tgt := 11) hx hb dX5_pass_2 (by decide) (fun c_1 => ?_) (fun c_1 => ?_)
  · exact zthrW (text := "days is not 1 to 30") (E0 := "java/lang/IllegalArgumentException") (own := RX5) hx hb hlt hown hts hno hlocks hml hN hQ hT rfl zfit_A (by decide +kernel) (by decide +kernel) (by decide +kernel) zbad_A zgood_A (by decide +kernel) hl.1 dX5_pass_11 dX5_pass_14 dX5_pass_15 dX5_pass_18 dX5_pass_21 (Nat.le_of_ble_eq_true rfl) (Nat.le_of_ble_eq_true rfl) (Nat.le_of_ble_eq_true rfl) (Nat.le_of_ble_eq_true rfl)
  · refine lv_iload_n hx hb dX5_pass_5 rfl (lv_at hl 1 rfl) ?_
    refine lv_bipush (v := nI 30) hx hb dX5_pass_6 (by decide) ?_
    refine lv_icmp_le (tgt := 22) hx hb dX5_pass_8 (by decide) (fun c_2 => ?_) (fun c_2 => ?_)
    · exfalso; rcases h with h | h <;> first | exact absurd h (by assumption) | exact absurd (by assumption) (Int32.not_lt.mpr h) | exact absurd h (Int32.not_lt.mpr (by assumption)) | omega
    · exact zthrW (text := "days is not 1 to 30") (E0 := "java/lang/IllegalArgumentException") (own := RX5) hx hb hlt hown hts hno hlocks hml hN hQ hT rfl zfit_A (by decide +kernel) (by decide +kernel) (by decide +kernel) zbad_A zgood_A (by decide +kernel) hl.1 dX5_pass_11 dX5_pass_14 dX5_pass_15 dX5_pass_18 dX5_pass_21 (Nat.le_of_ble_eq_true rfl) (Nat.le_of_ble_eq_true rfl) (Nat.le_of_ble_eq_true rfl) (Nat.le_of_ble_eq_true rfl)
set_option maxHeartbeats 4000000 in
set_option maxRecDepth 100000 in
theorem c_X5_pass_xS (l : Launch) (hlt : l.stackTraces = false) (D : va_G) (ty : Nat → ClassId) (g : Nat → Nat → Int32) (ad : Nat → Nat) (n1 n2 nL n4 n5 : Nat) (hI : dI g n1 n2 nL n4 n5) (d : Int32) (hd1 : ¬ d < nI 1) (hd2 : ¬ nI 30 < d) (hd3 : nI 359 < g 0 0 + d) : vx_Met l yX5_pass wsX5_pass ({ frames := 6, cells := 1, slots := 6, locals := 90 }) (va_Pc [.ref (ad 0), .int d] (zX D ty g ad)) zno (zXC "java/lang/IllegalStateException") 1 6 (fun _ => False) := by
  refine zXMet (cc := cX5_pass) (maxL := 2) (ret := (some .int)) (by decide) rfl (Nat.le_of_ble_eq_true rfl) ?_
  intro p e s m below meth c hx hb hr hts hown hlocks hml hno hB ls hl
  obtain ⟨⟨hP, hK, hN⟩, hQ, hT⟩ := hB
  obtain ⟨⟨hn1, hn1b⟩, h78, ⟨hn2, hn2b⟩, h12, ⟨hnL, hnLb⟩, h15, ⟨hn4, hn4b⟩, ⟨hn5, hn5b⟩, hrd5, hd0⟩ := id hI
  have hl : lv_has ls 2 [(0, .ref (ad 0)), (1, .int d)] := hl
  have hk0 := hts (.fieldLink RX5 48 "DatamarketDesk" "today" "I") (by decide +kernel)
  have hinX5 : ∀ w ∈ wsX50, w ∈ wsX5_pass := by decide +kernel
  refine lv_iload_n hx hb dX5_pass_0 rfl (lv_at hl 1 rfl) ?_
  refine lv_iconst (v := nI 1) hx hb dX5_pass_1 (by decide) ?_
  refine lv_icmp_lt (tgt := 11) hx hb dX5_pass_2 (by decide) (fun c_1 => ?_) (fun c_1 => ?_)
  · exact absurd c_1 hd1
  · refine lv_iload_n hx hb dX5_pass_5 rfl (lv_at hl 1 rfl) ?_
    refine lv_bipush (v := nI 30) hx hb dX5_pass_6 (by decide) ?_
    refine lv_icmp_le (tgt := 22) hx hb dX5_pass_8 (by decide) (fun c_2 => ?_) (fun c_2 => ?_)
    · refine lv_aload_n hx hb dX5_pass_22 rfl (lv_at hl 0 rfl) ?_
      refine va_get hx hb hts hinX5 hown hK hP 0 rfl rfl 6 (by decide) (hk0) (fun _ h9 => h9) rfl dX5_pass_23 ?_
      refine lv_iload_n hx hb dX5_pass_26 rfl (lv_at hl 1 rfl) ?_
      refine lv_iadd hx hb dX5_pass_27 ?_
      refine lv_sipush (v := nI 359) hx hb dX5_pass_28 (by decide) ?_
      refine lv_icmp_le (tgt := 45) hx hb dX5_pass_31 (by decide) (fun c_3 => ?_) (fun c_3 => ?_)
      · exact absurd hd3 (Int32.not_lt.mpr c_3)
      · exact zthrW (text := "the day would be above 359") (E0 := "java/lang/IllegalStateException") (own := RX5) hx hb hlt hown hts hno hlocks hml hN hQ hT rfl zfit_S (by decide +kernel) (by decide +kernel) (by decide +kernel) zbad_S zgood_S (by decide +kernel) hl.1 dX5_pass_34 dX5_pass_37 dX5_pass_38 dX5_pass_41 dX5_pass_44 (Nat.le_of_ble_eq_true rfl) (Nat.le_of_ble_eq_true rfl) (Nat.le_of_ble_eq_true rfl) (Nat.le_of_ble_eq_true rfl)
    · exact absurd (Int32.not_le.mp c_2) hd2
