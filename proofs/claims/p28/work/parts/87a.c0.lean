/-- the law goes on behind a case -/
def lwK (p : Program) (l : Launch) (e : Env) (s : State) (m : MethodId) (below : List Frame) (meth : Method) (c : Code) (Q : State → Prop) (D : va_G) (ty : Nat → ClassId) (b : Nat) (ad : Nat → Nat) (i n cr cells slots : Nat) : Prop := ∀ (g : Nat → Nat → Int32) (n4 n5 : Nat) (H : Heap) (locs : List Loc) (ls : Array Slot), pI g n n4 n5 → cr ≤ CR g (hmN g n) n5 → va_P D vwCl (zC ty g ad) H → va_S (fun q => s.heap.size ≤ q) s.heap H locs → lv_has ls 25 [(9, .int (nI cr)), (3, .int (nI i)), (2, .int (nI n)), (1, .ref (ad 0)), (0, .ref b)] → W p l e room_1 s m #[Value.ref b] below meth c H locs cells slots Q (F0 m 825 ls [])
set_option maxHeartbeats 4000000 in
set_option maxRecDepth 100000 in
/-- a contract -/
theorem law_c0 (p : Program) (l : Launch) (e : Env) (s : State) (m : MethodId) (below : List Frame) (meth : Method) (c : Code) (Q : State → Prop) (D : va_G) (ty : Nat → ClassId) (b L : Nat) (xs : Nat → Int32) (hC : lwC p l s m meth c D ty b L xs) (ad : Nat → Nat) (hij : zIj ad) (hlo : ∀ k, k < 39 → s.heap.size ≤ ad k) (g : Nat → Nat → Int32) (n n4 n5 : Nat) (hp : pI g n n4 n5) (H : Heap) (locs : List Loc) (cells slots : Nat) (hP : va_P D vwCl (zC ty g ad) H) (hS : va_S (fun q => s.heap.size ≤ q) s.heap H locs) (hc1 : cells + 1 ≤ 149) (hs1 : slots + 6 ≤ 3616) (ls : Array Slot) (i I R cr dy A : Nat) (x : Int32) (hI : I < n) (hR : R < 3) (hA : A = 2 ^ nF g I - 1) (hdy : cn (g 0 0) = dy) (hcr : cr = CR g (hmN g n) n5) (hl : lv_has ls 25 [(9, .int (nI cr)), (8, .int (nI dy)), (7, .int (nI R)), (6, .int (nI A)), (5, .int (nI I)), (4, .int x), (3, .int (nI i)), (2, .int (nI n)), (1, .ref (ad 0)), (0, .ref b)]) (K : lwK p l e s m below meth c Q D ty b ad i n cr (cells + 1) (slots + 6)) : W p l e room_1 s m #[Value.ref b] below meth c H locs cells slots Q (F0 m 312 ls []) := by
  obtain ⟨⟨hx, hb, hr, hml, hlocks, hlt⟩, ⟨hown, hts, hX, hbl, hL⟩, hK, hN, hT, hQ⟩ := hC
  have hcc : cells ≤ room_1.cells := by show cells ≤ 149; omega
  have hss : slots ≤ room_1.slots := by show slots ≤ 3616; omega
  have hn2 := hp.n2
  have hn5 := hp.n5b
  have h4b := hp.b4
  have h5b := hp.b5
  have hcb := hp.CRb
  have hf1 := (hp.f hI).2.1
  have hf2 := (hp.f hI).2.2
  have hp64 := p2_64 hf2
  have hA2 : 2 ^ 1 ≤ 2 ^ nF g I := Nat.pow_le_pow_right (by decide) hf1
  have hdy1 := hp.day.1
  have hdy2 := hp.day.2
  rw [hdy] at hdy1 hdy2
  refine lv_aload_n hx hb dL_law_312 rfl (lv_at hl 8 rfl) ?_
  refine lv_iconst (v := nI 3) hx hb dL_law_313 (by decide) ?_
  refine zcVi (As := [.int (nI 3)]) (rest := []) ⟨hx, hb, hml, hown, hts⟩ (c_X5_many l D ty g ad n (n - 1) (n - 1) n4 n5 hp.d 3 (by decide)) (cwV 1 hts gL_law_X5_many rfl rfl rfl (by decide +kernel) ⟨Nat.le_of_ble_eq_true rfl, Nat.le_of_ble_eq_true rfl⟩) zI_blind (zI_pre hP hK hN) (va_recv hK hP (ci := 5) (q0 := 0) rfl rfl) rfl hl.1 rfl (Nat.le_of_ble_eq_true rfl) dL_law_314 ⟨hcc, hss⟩ (fun r_1 hr_1 => ?_)
  subst hr_1
  refine zeq (show manyN g n n5 3 = nI n4 from hp.e4) ?_
  refine lv_bipush (v := nI 16) hx hb dL_law_317 (by decide) ?_
  refine lv_icmp_ge (tgt := 825) hx hb dL_law_319 (by decide) (fun c_2 => ?_) (fun c_2 => ?_)
  · have c_2 := zn_geT (a := n4) (b := 16) (by omega) (by omega) c_2
    refine W.widen (k := cells + 1) (n := slots + 6) (by omega) (by omega) ?_
    exact K g n4 n5 _ _ _ hp (Nat.le_of_eq hcr) hP hS (lv_sub hl [0, 6, 7, 8, 9] rfl)
  · have c_2 := zn_geF (a := n4) (b := 16) (by omega) (by omega) c_2
    refine lv_aload_n hx hb dL_law_322 rfl (lv_at hl 8 rfl) ?_
    refine lv_iload hx hb dL_law_323 (lv_at hl 2 rfl) ?_
    refine lv_iload hx hb dL_law_325 (lv_at hl 4 rfl) ?_
    refine lv_iconst (v := nI 1) hx hb dL_law_327 (by decide) ?_
    refine lv_iload hx hb dL_law_328 (lv_at hl 5 rfl) ?_
    refine lv_iconst (v := nI 2) hx hb dL_law_330 (by decide) ?_
    refine lv_ishr hx hb dL_law_331 ?_
    refine lv_iload hx hb dL_law_332 (lv_at hl 3 rfl) ?_
    refine zcSi (As := [.int (x >>> ((nI 2) &&& 31)), .int (nI A)]) (rest := [.int (nI 1), .int (nI I), .int (nI R), .ref (ad 0)]) ⟨hx, hb, hml, hown, hts⟩ (c_L_below l _ (x >>> ((nI 2) &&& 31)) A (by omega) (by omega)) (cwS 2 hts gL_law_L_below rfl rfl rfl (by decide +kernel) ⟨Nat.le_of_ble_eq_true rfl, Nat.le_of_ble_eq_true rfl⟩) (B := fun _ => True) (fun _ _ _ _ _ => trivial) (fun _ _ _ => trivial) rfl hl.1 rfl (Nat.le_of_ble_eq_true rfl) dL_law_334 ⟨hcc, hss⟩ (fun r hr => ?_)
    obtain ⟨j_1, hj_1, rfl⟩ := hr
    refine lv_iadd hx hb dL_law_337 ?_
    refine zeq (nI_add 1 j_1) ?_
    refine lv_iconst (v := nI 1) hx hb dL_law_338 (by decide) ?_
    refine lv_iload hx hb dL_law_339 (lv_at hl 5 rfl) ?_
    refine lv_iconst (v := nI 4) hx hb dL_law_341 (by decide) ?_
    refine lv_ishr hx hb dL_law_342 ?_
    refine lv_bipush (v := nI 15) hx hb dL_law_343 (by decide) ?_
    refine zcSi (As := [.int (x >>> ((nI 4) &&& 31)), .int (nI 15)]) (rest := [.int (nI 1), .int (nI (1 + j_1)), .int (nI I), .int (nI R), .ref (ad 0)]) ⟨hx, hb, hml, hown, hts⟩ (c_L_below l _ (x >>> ((nI 4) &&& 31)) 15 (by omega) (by omega)) (cwS 2 hts gL_law_L_below rfl rfl rfl (by decide +kernel) ⟨Nat.le_of_ble_eq_true rfl, Nat.le_of_ble_eq_true rfl⟩) (B := fun _ => True) (fun _ _ _ _ _ => trivial) (fun _ _ _ => trivial) rfl hl.1 rfl (Nat.le_of_ble_eq_true rfl) dL_law_345 ⟨hcc, hss⟩ (fun r hr => ?_)
    obtain ⟨j_2, hj_2, rfl⟩ := hr
    refine lv_iadd hx hb dL_law_348 ?_
    refine zeq (nI_add 1 j_2) ?_
    refine lv_iload hx hb dL_law_349 (lv_at hl 1 rfl) ?_
    refine lv_sipush (v := nI 359) hx hb dL_law_351 (by decide) ?_
    refine lv_iload hx hb dL_law_354 (lv_at hl 1 rfl) ?_
    refine lv_iload hx hb dL_law_356 (lv_at hl 5 rfl) ?_
    refine lv_bipush (v := nI 6) hx hb dL_law_358 (by decide) ?_
    refine lv_ishr hx hb dL_law_360 ?_
    refine lv_bipush (v := nI 40) hx hb dL_law_361 (by decide) ?_
    refine zcSi (As := [.int (x >>> ((nI 6) &&& 31)), .int (nI 40)]) (rest := [.int (nI dy), .int (nI 359), .int (nI dy), .int (nI (1 + j_2)), .int (nI (1 + j_1)), .int (nI I), .int (nI R), .ref (ad 0)]) ⟨hx, hb, hml, hown, hts⟩ (c_L_below l _ (x >>> ((nI 6) &&& 31)) 40 (by omega) (by omega)) (cwS 2 hts gL_law_L_below rfl rfl rfl (by decide +kernel) ⟨Nat.le_of_ble_eq_true rfl, Nat.le_of_ble_eq_true rfl⟩) (B := fun _ => True) (fun _ _ _ _ _ => trivial) (fun _ _ _ => trivial) rfl hl.1 rfl (Nat.le_of_ble_eq_true rfl) dL_law_363 ⟨hcc, hss⟩ (fun r hr => ?_)
    obtain ⟨j_3, hj_3, rfl⟩ := hr
    refine lv_iadd hx hb dL_law_366 ?_
    refine zeq (nI_add dy j_3) ?_
    refine va_mmin hx hb (hml.trans hl.1.symm) hown (hts (.methodLink RL 43 Lib.Math.min.name) (by decide +kernel)) (hts (.static Lib.Math.min.name) (by decide +kernel)) (hts (.initialized "java/lang/Math") (by decide +kernel)) (hts (.code Lib.Math.min.name Lib.Math.min.code 2 (some .int)) (by decide +kernel)) (Nat.le_of_ble_eq_true rfl) (Nat.le_of_ble_eq_true rfl) (hcc) (hss) dL_law_367 ?_
    refine zeq (zmin_def (nI 359) (nI (dy + j_3))).symm ?_
    refine zeq (zmin_N (by omega) (by omega)) ?_
    have hFc := AC_hs hlo hS.1
    refine va_calli (va_runV (As := [.int (nI R), .int (nI I), .int (nI (1 + j_1)), .int (nI (1 + j_2)), .int (nI dy), .int (nI (min 359 (dy + j_3)))]) (rest := []) ⟨hx, hb, hml, hown, hts⟩ (c_X5_contract l D ty g ad H.size hij n (n - 1) (n - 1) n4 n5 hp.d R I (by omega) hI (nI (1 + j_1)) (nI (1 + j_2)) (nI dy) (nI (min 359 (dy + j_3))) (nI_nlt (by omega) (by omega)) (by rw [allF_nat hf2]; exact nI_nlt (by omega) (by omega)) (nI_nlt (by omega) (by omega)) (nI_nlt (by omega) (by omega)) (by rw [hdy1]; exact nI_nlt (by omega) (by omega)) (nI_nlt (by omega) (by omega)) (nI_nlt (by omega) (by omega)) (by omega)) (cwV 6 hts gL_law_X5_contract rfl rfl rfl (by decide +kernel) ⟨Nat.le_of_ble_eq_true rfl, Nat.le_of_ble_eq_true rfl⟩) ⟨zBl zW_blind, va_recv hK hP (ci := 5) (q0 := 0) rfl rfl, fun U h1 h2 => ⟨rfl, zI_pre hP hK hN U h1 h2, by rw [h1]⟩⟩ rfl rfl hl.1 rfl (lv_room (Nat.le_of_ble_eq_true rfl)) dL_law_370 ⟨hcc, hss⟩) hS (fun q _ h => hFc q h) (fun q h => hFc q h) (fun r_4 g_3 t H locs ht hvm hw hB _ _ hS => ?_)
    obtain ⟨hr_4, eg_3⟩ := hw
    subst hr_4
    have hP : va_P D vwCl (zC ty g_3 ad) H := by rw [← ht]; exact hB.1
    clear hFc ht hvm hB
    clear t
    have hp_1 : pI g_3 n (n4 + 1) n5 := by rw [eg_3]; exact pI_con hp (by omega) (nI R) hI (z := 1 + j_1) (by omega) _ _ _
    have hcr_1 : cr ≤ CR g_3 (hmN g_3 n) n5 := by rw [hcr, eg_3]; exact Nat.le_refl _
    refine lv_aload_n hx hb dL_law_373 rfl (lv_at hl 8 rfl) ?_
    refine lv_iconst (v := nI 3) hx hb dL_law_374 (by decide) ?_
    refine zcVi (As := [.int (nI 3)]) (rest := [.int (nI n4)]) ⟨hx, hb, hml, hown, hts⟩ (c_X5_many l D ty g_3 ad n (n - 1) (n - 1) (n4 + 1) n5 hp_1.d 3 (by decide)) (cwV 1 hts gL_law_X5_many rfl rfl rfl (by decide +kernel) ⟨Nat.le_of_ble_eq_true rfl, Nat.le_of_ble_eq_true rfl⟩) zI_blind (zI_pre hP hK hN) (va_recv hK hP (ci := 5) (q0 := 0) rfl rfl) rfl hl.1 rfl (Nat.le_of_ble_eq_true rfl) dL_law_375 ⟨hcc, hss⟩ (fun r_5 hr_5 => ?_)
    subst hr_5
    refine zeq (show manyN g_3 n n5 3 = nI (n4 + 1) from hp_1.e4) ?_
    refine lv_iconst (v := nI 1) hx hb dL_law_378 (by decide) ?_
    refine lv_isub hx hb dL_law_379 ?_
    refine zeq (pk_sub (a := (n4 + 1)) (b := 1) (by omega)) ?_
    refine lv_icmp_eq (tgt := 825) hx hb dL_law_380 (by decide) (fun c_6 => ?_) (fun c_6 => ?_)
    · have c_6 := zn_eqT (a := n4) (b := ((n4 + 1) - 1)) (by omega) (by omega) c_6
      refine W.widen (k := cells + 1) (n := slots + 6) (by omega) (by omega) ?_
      exact K g_3 (n4 + 1) n5 _ _ _ hp_1 (hcr_1) hP hS (lv_sub hl [0, 6, 7, 8, 9] rfl)
    · have c_6 := zn_eqF (a := n4) (b := ((n4 + 1) - 1)) (by omega) (by omega) c_6
      omega
set_option maxHeartbeats 4000000 in
set_option maxRecDepth 100000 in
/-- a read -/
theorem law_c1 (p : Program) (l : Launch) (e : Env) (s : State) (m : MethodId) (below : List Frame) (meth : Method) (c : Code) (Q : State → Prop) (D : va_G) (ty : Nat → ClassId) (b L : Nat) (xs : Nat → Int32) (hC : lwC p l s m meth c D ty b L xs) (ad : Nat → Nat) (hij : zIj ad) (hlo : ∀ k, k < 39 → s.heap.size ≤ ad k) (g : Nat → Nat → Int32) (n n4 n5 : Nat) (hp : pI g n n4 n5) (H : Heap) (locs : List Loc) (cells slots : Nat) (hP : va_P D vwCl (zC ty g ad) H) (hS : va_S (fun q => s.heap.size ≤ q) s.heap H locs) (hc1 : cells + 1 ≤ 149) (hs1 : slots + 6 ≤ 3616) (ls : Array Slot) (i I R cr dy A : Nat) (x : Int32) (hI : I < n) (hR : R < 3) (hA : A = 2 ^ nF g I - 1) (hdy : cn (g 0 0) = dy) (hcr : cr = CR g (hmN g n) n5) (hl : lv_has ls 25 [(9, .int (nI cr)), (8, .int (nI dy)), (7, .int (nI R)), (6, .int (nI A)), (5, .int (nI I)), (4, .int x), (3, .int (nI i)), (2, .int (nI n)), (1, .ref (ad 0)), (0, .ref b)]) (K : lwK p l e s m below meth c Q D ty b ad i n cr (cells + 1) (slots + 6)) : W p l e room_1 s m #[Value.ref b] below meth c H locs cells slots Q (F0 m 385 ls []) := by
  obtain ⟨⟨hx, hb, hr, hml, hlocks, hlt⟩, ⟨hown, hts, hX, hbl, hL⟩, hK, hN, hT, hQ⟩ := hC
  have hcc : cells ≤ room_1.cells := by show cells ≤ 149; omega
  have hss : slots ≤ room_1.slots := by show slots ≤ 3616; omega
  have hn2 := hp.n2
  have hn5 := hp.n5b
  have h4b := hp.b4
  have h5b := hp.b5
  have hcb := hp.CRb
  have hf1 := (hp.f hI).2.1
  have hf2 := (hp.f hI).2.2
  have hp64 := p2_64 hf2
  have hA2 : 2 ^ 1 ≤ 2 ^ nF g I := Nat.pow_le_pow_right (by decide) hf1
  have hdy1 := hp.day.1
  have hdy2 := hp.day.2
  rw [hdy] at hdy1 hdy2
  refine lv_iload hx hb dL_law_385 (lv_at hl 5 rfl) ?_
  refine lv_iconst (v := nI 2) hx hb dL_law_387 (by decide) ?_
  refine lv_ishr hx hb dL_law_388 ?_
  refine lv_iconst (v := nI 4) hx hb dL_law_389 (by decide) ?_
  refine zcSi (As := [.int (x >>> ((nI 2) &&& 31)), .int (nI 4)]) (rest := []) ⟨hx, hb, hml, hown, hts⟩ (c_L_below l _ (x >>> ((nI 2) &&& 31)) 4 (by omega) (by omega)) (cwS 2 hts gL_law_L_below rfl rfl rfl (by decide +kernel) ⟨Nat.le_of_ble_eq_true rfl, Nat.le_of_ble_eq_true rfl⟩) (B := fun _ => True) (fun _ _ _ _ _ => trivial) (fun _ _ _ => trivial) rfl hl.1 rfl (Nat.le_of_ble_eq_true rfl) dL_law_390 ⟨hcc, hss⟩ (fun r hr => ?_)
  obtain ⟨j_1, hj_1, rfl⟩ := hr
  refine lv_istore (lv' := [(10, .int (nI j_1)), (9, .int (nI cr)), (8, .int (nI dy)), (7, .int (nI R)), (6, .int (nI A)), (5, .int (nI I)), (4, .int x), (3, .int (nI i)), (2, .int (nI n)), (1, .ref (ad 0)), (0, .ref b)]) hx hb dL_law_393 hl (by decide) rfl (fun ls hl => ?_)
  refine lv_aload_n hx hb dL_law_395 rfl (lv_at hl 9 rfl) ?_
  refine lv_iload hx hb dL_law_396 (lv_at hl 3 rfl) ?_
  refine lv_iload hx hb dL_law_398 (lv_at hl 5 rfl) ?_
  refine lv_iload hx hb dL_law_400 (lv_at hl 0 rfl) ?_
  refine lv_iload hx hb dL_law_402 (lv_at hl 2 rfl) ?_
  refine zcVi (As := [.int (nI R), .int (nI I), .int (nI j_1), .int (nI dy)]) (rest := []) ⟨hx, hb, hml, hown, hts⟩ (c_X5_covered l D ty g ad n (n - 1) (n - 1) n4 n5 hp.d R I j_1 (by omega) (by omega) (by omega) (nI dy) (nI_pos (by omega)) (nI_nlt (by omega) (by decide))) (cwV 4 hts gL_law_X5_covered rfl rfl rfl (by decide +kernel) ⟨Nat.le_of_ble_eq_true rfl, Nat.le_of_ble_eq_true rfl⟩) zI_blind (zI_pre hP hK hN) (va_recv hK hP (ci := 5) (q0 := 0) rfl rfl) rfl hl.1 rfl (Nat.le_of_ble_eq_true rfl) dL_law_404 ⟨hcc, hss⟩ (fun r_1 hr_1 => ?_)
  subst hr_1
  obtain ⟨z, hz, ez⟩ := cov_nI hp hI (nI R) (nI 1 <<< (nI j_1 &&& 31)) (nI dy) (-1) n4 (Nat.le_refl _)
  refine zeq ez ?_
  refine lv_istore (lv' := [(11, .int (nI z)), (10, .int (nI j_1)), (9, .int (nI cr)), (8, .int (nI dy)), (7, .int (nI R)), (6, .int (nI A)), (5, .int (nI I)), (4, .int x), (3, .int (nI i)), (2, .int (nI n)), (1, .ref (ad 0)), (0, .ref b)]) hx hb dL_law_407 hl (by decide) rfl (fun ls hl => ?_)
  refine lv_iconst (v := nI 1) hx hb dL_law_409 (by decide) ?_
  refine lv_iload hx hb dL_law_410 (lv_at hl 7 rfl) ?_
  refine lv_iconst (v := nI 4) hx hb dL_law_412 (by decide) ?_
  refine lv_ishr hx hb dL_law_413 ?_
  refine lv_aload_n hx hb dL_law_414 rfl (lv_at hl 10 rfl) ?_
  refine lv_iload hx hb dL_law_415 (lv_at hl 6 rfl) ?_
  refine lv_iconst (v := nI 2) hx hb dL_law_417 (by decide) ?_
  refine zcVi (As := [.int (nI I), .int (nI 2)]) (rest := [.int (x >>> ((nI 4) &&& 31)), .int (nI 1)]) ⟨hx, hb, hml, hown, hts⟩ (c_X5_ofSet l D ty g ad n (n - 1) (n - 1) n4 n5 hp.d I 2 (by omega) (by decide)) (cwV 2 hts gL_law_X5_ofSet rfl rfl rfl (by decide +kernel) ⟨Nat.le_of_ble_eq_true rfl, Nat.le_of_ble_eq_true rfl⟩) zI_blind (zI_pre hP hK hN) (va_recv hK hP (ci := 5) (q0 := 0) rfl rfl) rfl hl.1 rfl (Nat.le_of_ble_eq_true rfl) dL_law_418 ⟨hcc, hss⟩ (fun r_2 hr_2 => ?_)
  subst hr_2
  obtain ⟨rw0, erw, hrw1, hrw2⟩ := hp.rw hI
  refine zeq (show ofSetN g n5 I 2 = nI rw0 from erw) ?_
  refine zcSi (As := [.int (x >>> ((nI 4) &&& 31)), .int (nI rw0)]) (rest := [.int (nI 1)]) ⟨hx, hb, hml, hown, hts⟩ (c_L_below l _ (x >>> ((nI 4) &&& 31)) rw0 (by omega) (by omega)) (cwS 2 hts gL_law_L_below rfl rfl rfl (by decide +kernel) ⟨Nat.le_of_ble_eq_true rfl, Nat.le_of_ble_eq_true rfl⟩) (B := fun _ => True) (fun _ _ _ _ _ => trivial) (fun _ _ _ => trivial) rfl hl.1 rfl (Nat.le_of_ble_eq_true rfl) dL_law_421 ⟨hcc, hss⟩ (fun r hr => ?_)
  obtain ⟨j_2, hj_2, rfl⟩ := hr
  refine lv_iadd hx hb dL_law_424 ?_
  refine zeq (nI_add 1 j_2) ?_
  refine lv_istore (lv' := [(12, .int (nI (1 + j_2))), (11, .int (nI z)), (10, .int (nI j_1)), (9, .int (nI cr)), (8, .int (nI dy)), (7, .int (nI R)), (6, .int (nI A)), (5, .int (nI I)), (4, .int x), (3, .int (nI i)), (2, .int (nI n)), (1, .ref (ad 0)), (0, .ref b)]) hx hb dL_law_425 hl (by decide) rfl (fun ls hl => ?_)
  refine lv_iload hx hb dL_law_427 (lv_at hl 1 rfl) ?_
  refine lv_if_eq (tgt := 825) hx hb dL_law_429 (by decide) (fun c_3 => ?_) (fun c_3 => ?_)
  · have c_3 := zq_eqT (x := z) (by omega) c_3
    refine W.widen (k := cells + 1) (n := slots + 6) (by omega) (by omega) ?_
    exact K g n4 n5 _ _ _ hp (Nat.le_of_eq hcr) hP hS (lv_sub hl [3, 9, 10, 11, 12] rfl)
  · have c_3 := zq_eqF (x := z) (by omega) c_3
    refine lv_aload_n hx hb dL_law_432 rfl (lv_at hl 11 rfl) ?_
    refine lv_iconst (v := nI 4) hx hb dL_law_433 (by decide) ?_
    refine zcVi (As := [.int (nI 4)]) (rest := []) ⟨hx, hb, hml, hown, hts⟩ (c_X5_many l D ty g ad n (n - 1) (n - 1) n4 n5 hp.d 4 (by decide)) (cwV 1 hts gL_law_X5_many rfl rfl rfl (by decide +kernel) ⟨Nat.le_of_ble_eq_true rfl, Nat.le_of_ble_eq_true rfl⟩) zI_blind (zI_pre hP hK hN) (va_recv hK hP (ci := 5) (q0 := 0) rfl rfl) rfl hl.1 rfl (Nat.le_of_ble_eq_true rfl) dL_law_434 ⟨hcc, hss⟩ (fun r_4 hr_4 => ?_)
    subst hr_4
    refine zeq (show manyN g n n5 4 = nI n5 from hp.e5) ?_
    refine lv_bipush (v := nI 40) hx hb dL_law_437 (by decide) ?_
    refine lv_icmp_ne (tgt := 445) hx hb dL_law_439 (by decide) (fun c_5 => ?_) (fun c_5 => ?_)
    · have c_5 := zn_neT (a := n5) (b := 40) (by omega) (by omega) c_5
      refine lv_aload_n hx hb dL_law_445 rfl (lv_at hl 11 rfl) ?_
      refine lv_iload hx hb dL_law_446 (lv_at hl 5 rfl) ?_
      refine lv_iload hx hb dL_law_448 (lv_at hl 7 rfl) ?_
      refine lv_iload hx hb dL_law_450 (lv_at hl 1 rfl) ?_
      refine lv_iload hx hb dL_law_452 (lv_at hl 0 rfl) ?_
      refine zcVi (As := [.int (nI R), .int (nI I), .int (nI z), .int (nI (1 + j_2))]) (rest := []) ⟨hx, hb, hml, hown, hts⟩ (c_X5_quote l D ty g ad n (n - 1) (n - 1) n4 n5 hp.d R I (by omega) hI (nI z) (nI (1 + j_2)) (nI_nlt (by omega) (by omega)) (by rw [allF_nat hf2]; exact nI_nlt (by omega) (by omega)) (nI_nlt (by omega) (by omega)) (nI_nlt (by omega) (by omega))) (cwV 4 hts gL_law_X5_quote rfl rfl rfl (by decide +kernel) ⟨Nat.le_of_ble_eq_true rfl, Nat.le_of_ble_eq_true rfl⟩) zI_blind (zI_pre hP hK hN) (va_recv hK hP (ci := 5) (q0 := 0) rfl rfl) rfl hl.1 rfl (Nat.le_of_ble_eq_true rfl) dL_law_454 ⟨hcc, hss⟩ (fun r_6 hr_6 => ?_)
      subst hr_6
      obtain ⟨q9, eq9⟩ : ∃ q9, chN (readG g n5 R I (nI z) (nI (1 + j_2)) j_1) n5 = q9 := ⟨_, rfl⟩
      refine zeq ((quote_X hp (R := R) (P := j_1) hI (nI z) (nI (1 + j_2))).trans eq9) ?_
      refine lv_istore (lv' := [(13, .int q9), (12, .int (nI (1 + j_2))), (11, .int (nI z)), (10, .int (nI j_1)), (9, .int (nI cr)), (8, .int (nI dy)), (7, .int (nI R)), (6, .int (nI A)), (5, .int (nI I)), (4, .int x), (3, .int (nI i)), (2, .int (nI n)), (1, .ref (ad 0)), (0, .ref b)]) hx hb dL_law_457 hl (by decide) rfl (fun ls hl => ?_)
      have hcv : nI z &&& (orN (fOpen g (nI R) (nI I) (nI 1 <<< (nI j_1 &&& 31)) (g 0 0) (-1)) n4 ^^^ (-1)) = 0 := by rw [hdy1, ez]; exact and_x0 _
      refine lv_aload_n hx hb dL_law_459 rfl (lv_at hl 12 rfl) ?_
      refine lv_iload hx hb dL_law_460 (lv_at hl 6 rfl) ?_
      refine lv_iload hx hb dL_law_462 (lv_at hl 8 rfl) ?_
      refine lv_iload hx hb dL_law_464 (lv_at hl 2 rfl) ?_
      refine lv_iload hx hb dL_law_466 (lv_at hl 1 rfl) ?_
      refine lv_iload hx hb dL_law_468 (lv_at hl 3 rfl) ?_
      have hFc := AC_hs hlo hS.1
      refine va_calli (va_runV (As := [.int (nI R), .int (nI I), .int (nI z), .int (nI (1 + j_2)), .int (nI j_1)]) (rest := []) ⟨hx, hb, hml, hown, hts⟩ (c_X5_read l D ty g ad H.size hij n (n - 1) (n - 1) n4 n5 hp.d R I j_1 (by omega) hI (by omega) (nI z) (nI (1 + j_2)) (nI_nlt (by omega) (by omega)) (by rw [allF_nat hf2]; exact nI_nlt (by omega) (by omega)) (nI_nlt (by omega) (by omega)) (by omega) (by rw [erw]; exact nI_nlt (by omega) (by omega)) hcv) (cwV 5 hts gL_law_X5_read rfl rfl rfl (by decide +kernel) ⟨Nat.le_of_ble_eq_true rfl, Nat.le_of_ble_eq_true rfl⟩) ⟨zBl zW_blind, va_recv hK hP (ci := 5) (q0 := 0) rfl rfl, fun U h1 h2 => ⟨rfl, zI_pre hP hK hN U h1 h2, by rw [h1]⟩⟩ rfl rfl hl.1 rfl (lv_room (Nat.le_of_ble_eq_true rfl)) dL_law_470 ⟨hcc, hss⟩) hS (fun q _ h => hFc q h) (fun q h => hFc q h) (fun r_8 g_7 t H locs ht hvm hw hB _ _ hS => ?_)
      obtain ⟨hr_8, eg_7⟩ := hw
      subst hr_8
      have hP : va_P D vwCl (zC ty g_7 ad) H := by rw [← ht]; exact hB.1
      clear hFc ht hvm hB
      clear t
      have hp_1 : pI g_7 n n4 (n5 + 1) := by rw [eg_7]; exact pI_read hp (by omega) (by omega) hI (by omega) (nI z) (by omega) hcv
      have hcr_1 : cr ≤ CR g_7 (hmN g_7 n) (n5 + 1) := by rw [hcr, eg_7]; exact CR_read hp (nI z)
      refine zeq eq9 ?_
      refine lv_iload hx hb dL_law_473 (lv_at hl 0 rfl) ?_
      refine lv_icmp_ne (tgt := 496) hx hb dL_law_475 (by decide) (fun c_9 => ?_) (fun c_9 => ?_)
      · exact absurd rfl c_9
      · refine lv_aload_n hx hb dL_law_478 rfl (lv_at hl 12 rfl) ?_
        refine lv_aload_n hx hb dL_law_479 rfl (lv_at hl 12 rfl) ?_
        refine lv_iconst (v := nI 4) hx hb dL_law_480 (by decide) ?_
        refine zcVi (As := [.int (nI 4)]) (rest := [.ref (ad 0)]) ⟨hx, hb, hml, hown, hts⟩ (c_X5_many l D ty g_7 ad n (n - 1) (n - 1) n4 (n5 + 1) hp_1.d 4 (by decide)) (cwV 1 hts gL_law_X5_many rfl rfl rfl (by decide +kernel) ⟨Nat.le_of_ble_eq_true rfl, Nat.le_of_ble_eq_true rfl⟩) zI_blind (zI_pre hP hK hN) (va_recv hK hP (ci := 5) (q0 := 0) rfl rfl) rfl hl.1 rfl (Nat.le_of_ble_eq_true rfl) dL_law_481 ⟨hcc, hss⟩ (fun r_10 hr_10 => ?_)
        subst hr_10
        refine zeq (show manyN g_7 n (n5 + 1) 4 = nI (n5 + 1) from hp_1.e5) ?_
        refine lv_iconst (v := nI 1) hx hb dL_law_484 (by decide) ?_
        refine lv_isub hx hb dL_law_485 ?_
        refine zeq (pk_sub (a := (n5 + 1)) (b := 1) (by omega)) ?_
        refine lv_bipush (v := nI 8) hx hb dL_law_486 (by decide) ?_
        refine zcVi (As := [.int (nI ((n5 + 1) - 1)), .int (nI 8)]) (rest := []) ⟨hx, hb, hml, hown, hts⟩ (c_X5_ofRead l D ty g_7 ad n (n - 1) (n - 1) n4 (n5 + 1) hp_1.d ((n5 + 1) - 1) 8 (by omega) (by decide)) (cwV 2 hts gL_law_X5_ofRead rfl rfl rfl (by decide +kernel) ⟨Nat.le_of_ble_eq_true rfl, Nat.le_of_ble_eq_true rfl⟩) zI_blind (zI_pre hP hK hN) (va_recv hK hP (ci := 5) (q0 := 0) rfl rfl) rfl hl.1 rfl (Nat.le_of_ble_eq_true rfl) dL_law_488 ⟨hcc, hss⟩ (fun r_11 hr_11 => ?_)
        subst hr_11
        refine zeq (show ofReadN g_7 (n5 + 1 - 1) 8 = q9 from by rw [eg_7]; exact eq9) ?_
        refine lv_iload hx hb dL_law_491 (lv_at hl 0 rfl) ?_
        refine lv_icmp_eq (tgt := 825) hx hb dL_law_493 (by decide) (fun c_12 => ?_) (fun c_12 => ?_)
        · refine W.widen (k := cells + 1) (n := slots + 6) (by omega) (by omega) ?_
          exact K g_7 n4 (n5 + 1) _ _ _ hp_1 (hcr_1) hP hS (lv_sub hl [4, 10, 11, 12, 13] rfl)
        · exact absurd rfl c_12
    · have c_5 := zn_neF (a := n5) (b := 40) (by omega) (by omega) c_5
      refine lv_goto (tgt := 825) hx hb dL_law_442 (by decide) ?_
      refine W.widen (k := cells + 1) (n := slots + 6) (by omega) (by omega) ?_
      exact K g n4 n5 _ _ _ hp (Nat.le_of_eq hcr) hP hS (lv_sub hl [3, 9, 10, 11, 12] rfl)
