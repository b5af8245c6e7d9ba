set_option maxHeartbeats 4000000 in
set_option maxRecDepth 100000 in
/-- a bill -/
theorem law_c5 (p : Program) (l : Launch) (e : Env) (s : State) (m : MethodId) (below : List Frame) (meth : Method) (c : Code) (Q : State → Prop) (D : va_G) (ty : Nat → ClassId) (b L : Nat) (xs : Nat → Int32) (hC : lwC p l s m meth c D ty b L xs) (ad : Nat → Nat) (hij : zIj ad) (hlo : ∀ k, k < 39 → s.heap.size ≤ ad k) (g : Nat → Nat → Int32) (n n4 n5 : Nat) (hp : pI g n n4 n5) (H : Heap) (locs : List Loc) (cells slots : Nat) (hP : va_P D vwCl (zC ty g ad) H) (hS : va_S (fun q => s.heap.size ≤ q) s.heap H locs) (hc1 : cells + 1 ≤ 149) (hs1 : slots + 6 ≤ 3616) (ls : Array Slot) (i I R cr dy A : Nat) (x : Int32) (hI : I < n) (hR : R < 3) (hA : A = 2 ^ nF g I - 1) (hdy : cn (g 0 0) = dy) (hcr : cr = CR g (hmN g n) n5) (hl : lv_has ls 25 [(9, .int (nI cr)), (8, .int (nI dy)), (7, .int (nI R)), (6, .int (nI A)), (5, .int (nI I)), (4, .int x), (3, .int (nI i)), (2, .int (nI n)), (1, .ref (ad 0)), (0, .ref b)]) (K : lwK p l e s m below meth c Q D ty b ad i n cr (cells + 1) (slots + 6)) : W p l e room_1 s m #[Value.ref b] below meth c H locs cells slots Q (F0 m 639 ls []) := by
  obtain ⟨⟨hx, hb, hr, hml, hlocks, hlt⟩, ⟨hown, hts, hX, hbl, hL⟩, hK, hN, hT, hQ⟩ := hC
  have hcc : cells ≤ room_1.cells := by show cells ≤ 149; omega
  have hss : slots ≤ room_1.slots := by show slots ≤ 3616; omega
  have hn2 := hp.n2
  have hn5 := hp.n5b
  have h4b := hp.b4
  have h5b := hp.b5
  have hcb := hp.CRb
  have hf1 := (hp.f hI).2.1
  have hf2 := (hp.f hI).2.2
  have hp64 := p2_64 hf2
  have hA2 : 2 ^ 1 ≤ 2 ^ nF g I := Nat.pow_le_pow_right (by decide) hf1
  have hdy1 := hp.day.1
  have hdy2 := hp.day.2
  rw [hdy] at hdy1 hdy2
  refine lv_aload_n hx hb dL_law_639 rfl (lv_at hl 8 rfl) ?_
  refine lv_iload hx hb dL_law_640 (lv_at hl 2 rfl) ?_
  refine lv_iconst (v := nI 5) hx hb dL_law_642 (by decide) ?_
  refine zcVi (As := [.int (nI R), .int (nI 5)]) (rest := []) ⟨hx, hb, hml, hown, hts⟩ (c_X5_ofReader l D ty g ad n (n - 1) (n - 1) n4 n5 hp.d R 5 (by omega) (by decide)) (cwV 2 hts gL_law_X5_ofReader rfl rfl rfl (by decide +kernel) ⟨Nat.le_of_ble_eq_true rfl, Nat.le_of_ble_eq_true rfl⟩) zI_blind (zI_pre hP hK hN) (va_recv hK hP (ci := 5) (q0 := 0) rfl rfl) rfl hl.1 rfl (Nat.le_of_ble_eq_true rfl) dL_law_643 ⟨hcc, hss⟩ (fun r_1 hr_1 => ?_)
  subst hr_1
  refine zeq (show ofReaderN g n4 n5 R 5 = sumN (fDue g (nI R) 21) n5 from rfl) ?_
  refine lv_istore (lv' := [(19, .int (sumN (fDue g (nI R) 21) n5)), (9, .int (nI cr)), (8, .int (nI dy)), (7, .int (nI R)), (6, .int (nI A)), (5, .int (nI I)), (4, .int x), (3, .int (nI i)), (2, .int (nI n)), (1, .ref (ad 0)), (0, .ref b)]) hx hb dL_law_646 hl (by decide) rfl (fun ls hl => ?_)
  refine lv_aload_n hx hb dL_law_648 rfl (lv_at hl 9 rfl) ?_
  refine lv_iload hx hb dL_law_649 (lv_at hl 3 rfl) ?_
  refine lv_iconst (v := nI 4) hx hb dL_law_651 (by decide) ?_
  refine zcVi (As := [.int (nI R), .int (nI 4)]) (rest := []) ⟨hx, hb, hml, hown, hts⟩ (c_X5_ofReader l D ty g ad n (n - 1) (n - 1) n4 n5 hp.d R 4 (by omega) (by decide)) (cwV 2 hts gL_law_X5_ofReader rfl rfl rfl (by decide +kernel) ⟨Nat.le_of_ble_eq_true rfl, Nat.le_of_ble_eq_true rfl⟩) zI_blind (zI_pre hP hK hN) (va_recv hK hP (ci := 5) (q0 := 0) rfl rfl) rfl hl.1 rfl (Nat.le_of_ble_eq_true rfl) dL_law_652 ⟨hcc, hss⟩ (fun r_2 hr_2 => ?_)
  subst hr_2
  refine zeq (show ofReaderN g n4 n5 R 4 = sumN (fBil g (nI R)) n5 from rfl) ?_
  refine lv_istore (lv' := [(20, .int (sumN (fBil g (nI R)) n5)), (19, .int (sumN (fDue g (nI R) 21) n5)), (9, .int (nI cr)), (8, .int (nI dy)), (7, .int (nI R)), (6, .int (nI A)), (5, .int (nI I)), (4, .int x), (3, .int (nI i)), (2, .int (nI n)), (1, .ref (ad 0)), (0, .ref b)]) hx hb dL_law_655 hl (by decide) rfl (fun ls hl => ?_)
  refine lv_aload_n hx hb dL_law_657 rfl (lv_at hl 10 rfl) ?_
  refine lv_iload hx hb dL_law_658 (lv_at hl 4 rfl) ?_
  have hFc := AC_hs hlo hS.1
  refine va_calli (va_runV (As := [.int (nI R)]) (rest := []) ⟨hx, hb, hml, hown, hts⟩ (c_X5_bill l D ty g ad H.size hij n (n - 1) (n - 1) n4 n5 hp.d R (by omega)) (cwV 1 hts gL_law_X5_bill rfl rfl rfl (by decide +kernel) ⟨Nat.le_of_ble_eq_true rfl, Nat.le_of_ble_eq_true rfl⟩) ⟨zBl zW_blind, va_recv hK hP (ci := 5) (q0 := 0) rfl rfl, fun U h1 h2 => ⟨rfl, zI_pre hP hK hN U h1 h2, by rw [h1]⟩⟩ rfl rfl hl.1 rfl (lv_room (Nat.le_of_ble_eq_true rfl)) dL_law_660 ⟨hcc, hss⟩) hS (fun q _ h => hFc q h) (fun q h => hFc q h) (fun r_4 g_3 t H locs ht hvm hw hB _ _ hS => ?_)
  obtain ⟨hr_4, eg_3⟩ := hw
  subst hr_4
  have hP : va_P D vwCl (zC ty g_3 ad) H := by rw [← ht]; exact hB.1
  clear hFc ht hvm hB
  clear t
  have hp_1 : pI g_3 n n4 n5 := by rw [eg_3]; exact pI_o (Or.inr (Or.inr rfl)) hp _
  have hcr_1 : cr ≤ CR g_3 (hmN g_3 n) n5 := by rw [hcr, eg_3]; exact Nat.le_refl _
  refine lv_iload hx hb dL_law_663 (lv_at hl 1 rfl) ?_
  refine lv_icmp_ne (tgt := 693) hx hb dL_law_665 (by decide) (fun c_5 => ?_) (fun c_5 => ?_)
  · exact absurd rfl c_5
  · refine lv_aload_n hx hb dL_law_668 rfl (lv_at hl 10 rfl) ?_
    refine lv_iload hx hb dL_law_669 (lv_at hl 4 rfl) ?_
    refine lv_iconst (v := nI 5) hx hb dL_law_671 (by decide) ?_
    refine zcVi (As := [.int (nI R), .int (nI 5)]) (rest := []) ⟨hx, hb, hml, hown, hts⟩ (c_X5_ofReader l D ty g_3 ad n (n - 1) (n - 1) n4 n5 hp_1.d R 5 (by omega) (by decide)) (cwV 2 hts gL_law_X5_ofReader rfl rfl rfl (by decide +kernel) ⟨Nat.le_of_ble_eq_true rfl, Nat.le_of_ble_eq_true rfl⟩) zI_blind (zI_pre hP hK hN) (va_recv hK hP (ci := 5) (q0 := 0) rfl rfl) rfl hl.1 rfl (Nat.le_of_ble_eq_true rfl) dL_law_672 ⟨hcc, hss⟩ (fun r_6 hr_6 => ?_)
    subst hr_6
    refine zeq (show ofReaderN g_3 n4 n5 R 5 = nI 0 from by rw [eg_3]; exact (due_0 (nI R)).trans nI_0.symm) ?_
    refine lv_if_ne (tgt := 693) hx hb dL_law_675 (by decide) (fun c_7 => ?_) (fun c_7 => ?_)
    · have c_7 := zq_neT (x := 0) (by omega) c_7
      omega
    · have c_7 := zq_neF (x := 0) (by omega) c_7
      refine lv_aload_n hx hb dL_law_678 rfl (lv_at hl 10 rfl) ?_
      refine lv_iload hx hb dL_law_679 (lv_at hl 4 rfl) ?_
      refine lv_iconst (v := nI 4) hx hb dL_law_681 (by decide) ?_
      refine zcVi (As := [.int (nI R), .int (nI 4)]) (rest := []) ⟨hx, hb, hml, hown, hts⟩ (c_X5_ofReader l D ty g_3 ad n (n - 1) (n - 1) n4 n5 hp_1.d R 4 (by omega) (by decide)) (cwV 2 hts gL_law_X5_ofReader rfl rfl rfl (by decide +kernel) ⟨Nat.le_of_ble_eq_true rfl, Nat.le_of_ble_eq_true rfl⟩) zI_blind (zI_pre hP hK hN) (va_recv hK hP (ci := 5) (q0 := 0) rfl rfl) rfl hl.1 rfl (Nat.le_of_ble_eq_true rfl) dL_law_682 ⟨hcc, hss⟩ (fun r_8 hr_8 => ?_)
      subst hr_8
      refine zeq (show ofReaderN g_3 n4 n5 R 4 = sumN (fBil g (nI R)) n5 + sumN (fDue g (nI R) 21) n5 from by rw [eg_3]; exact bil_1 (nI R)) ?_
      refine lv_iload hx hb dL_law_685 (lv_at hl 0 rfl) ?_
      refine lv_iload hx hb dL_law_687 (lv_at hl 1 rfl) ?_
      refine lv_iadd hx hb dL_law_689 ?_
      refine lv_icmp_eq (tgt := 825) hx hb dL_law_690 (by decide) (fun c_9 => ?_) (fun c_9 => ?_)
      · refine W.widen (k := cells + 1) (n := slots + 6) (by omega) (by omega) ?_
        exact K g_3 n4 n5 _ _ _ hp_1 (hcr_1) hP hS (lv_sub hl [2, 8, 9, 10, 11] rfl)
      · exact absurd rfl c_9
set_option maxHeartbeats 4000000 in
set_option maxRecDepth 100000 in
/-- days -/
theorem law_c6 (p : Program) (l : Launch) (e : Env) (s : State) (m : MethodId) (below : List Frame) (meth : Method) (c : Code) (Q : State → Prop) (D : va_G) (ty : Nat → ClassId) (b L : Nat) (xs : Nat → Int32) (hC : lwC p l s m meth c D ty b L xs) (ad : Nat → Nat) (hij : zIj ad) (hlo : ∀ k, k < 39 → s.heap.size ≤ ad k) (g : Nat → Nat → Int32) (n n4 n5 : Nat) (hp : pI g n n4 n5) (H : Heap) (locs : List Loc) (cells slots : Nat) (hP : va_P D vwCl (zC ty g ad) H) (hS : va_S (fun q => s.heap.size ≤ q) s.heap H locs) (hc1 : cells + 1 ≤ 149) (hs1 : slots + 6 ≤ 3616) (ls : Array Slot) (i I R cr dy A : Nat) (x : Int32) (hI : I < n) (hR : R < 3) (hA : A = 2 ^ nF g I - 1) (hdy : cn (g 0 0) = dy) (hcr : cr = CR g (hmN g n) n5) (hl : lv_has ls 25 [(9, .int (nI cr)), (8, .int (nI dy)), (7, .int (nI R)), (6, .int (nI A)), (5, .int (nI I)), (4, .int x), (3, .int (nI i)), (2, .int (nI n)), (1, .ref (ad 0)), (0, .ref b)]) (K : lwK p l e s m below meth c Q D ty b ad i n cr (cells + 1) (slots + 6)) : W p l e room_1 s m #[Value.ref b] below meth c H locs cells slots Q (F0 m 695 ls []) := by
  obtain ⟨⟨hx, hb, hr, hml, hlocks, hlt⟩, ⟨hown, hts, hX, hbl, hL⟩, hK, hN, hT, hQ⟩ := hC
  have hcc : cells ≤ room_1.cells := by show cells ≤ 149; omega
  have hss : slots ≤ room_1.slots := by show slots ≤ 3616; omega
  have hn2 := hp.n2
  have hn5 := hp.n5b
  have h4b := hp.b4
  have h5b := hp.b5
  have hcb := hp.CRb
  have hf1 := (hp.f hI).2.1
  have hf2 := (hp.f hI).2.2
  have hp64 := p2_64 hf2
  have hA2 : 2 ^ 1 ≤ 2 ^ nF g I := Nat.pow_le_pow_right (by decide) hf1
  have hdy1 := hp.day.1
  have hdy2 := hp.day.2
  rw [hdy] at hdy1 hdy2
  refine lv_iconst (v := nI 1) hx hb dL_law_695 (by decide) ?_
  refine lv_iload hx hb dL_law_696 (lv_at hl 5 rfl) ?_
  refine lv_iconst (v := nI 2) hx hb dL_law_698 (by decide) ?_
  refine lv_ishr hx hb dL_law_699 ?_
  refine lv_bipush (v := nI 9) hx hb dL_law_700 (by decide) ?_
  refine zcSi (As := [.int (x >>> ((nI 2) &&& 31)), .int (nI 9)]) (rest := [.int (nI 1)]) ⟨hx, hb, hml, hown, hts⟩ (c_L_below l _ (x >>> ((nI 2) &&& 31)) 9 (by omega) (by omega)) (cwS 2 hts gL_law_L_below rfl rfl rfl (by decide +kernel) ⟨Nat.le_of_ble_eq_true rfl, Nat.le_of_ble_eq_true rfl⟩) (B := fun _ => True) (fun _ _ _ _ _ => trivial) (fun _ _ _ => trivial) rfl hl.1 rfl (Nat.le_of_ble_eq_true rfl) dL_law_702 ⟨hcc, hss⟩ (fun r hr => ?_)
  obtain ⟨j_1, hj_1, rfl⟩ := hr
  refine lv_iadd hx hb dL_law_705 ?_
  refine zeq (nI_add 1 j_1) ?_
  refine lv_istore (lv' := [(21, .int (nI (1 + j_1))), (9, .int (nI cr)), (8, .int (nI dy)), (7, .int (nI R)), (6, .int (nI A)), (5, .int (nI I)), (4, .int x), (3, .int (nI i)), (2, .int (nI n)), (1, .ref (ad 0)), (0, .ref b)]) hx hb dL_law_706 hl (by decide) rfl (fun ls hl => ?_)
  refine lv_iload hx hb dL_law_708 (lv_at hl 2 rfl) ?_
  refine lv_iload hx hb dL_law_710 (lv_at hl 0 rfl) ?_
  refine lv_iadd hx hb dL_law_712 ?_
  refine zeq (nI_add dy (1 + j_1)) ?_
  refine lv_sipush (v := nI 360) hx hb dL_law_713 (by decide) ?_
  refine lv_icmp_ge (tgt := 825) hx hb dL_law_716 (by decide) (fun c_1 => ?_) (fun c_1 => ?_)
  · have c_1 := zn_geT (a := (dy + (1 + j_1))) (b := 360) (by omega) (by omega) c_1
    refine W.widen (k := cells + 1) (n := slots + 6) (by omega) (by omega) ?_
    exact K g n4 n5 _ _ _ hp (Nat.le_of_eq hcr) hP hS (lv_sub hl [1, 7, 8, 9, 10] rfl)
  · have c_1 := zn_geF (a := (dy + (1 + j_1))) (b := 360) (by omega) (by omega) c_1
    refine lv_aload_n hx hb dL_law_719 rfl (lv_at hl 9 rfl) ?_
    refine lv_iload hx hb dL_law_720 (lv_at hl 0 rfl) ?_
    have hFc := AC_hs hlo hS.1
    refine va_calli (va_runV (As := [.int (nI (1 + j_1))]) (rest := []) ⟨hx, hb, hml, hown, hts⟩ (c_X5_pass l D ty g ad H.size hij n (n - 1) (n - 1) n4 n5 hp.d (nI (1 + j_1)) (nI_nlt (by omega) (by omega)) (nI_nlt (by omega) (by omega)) (by rw [hdy1, nI_add]; exact nI_nlt (by omega) (by omega))) (cwV 1 hts gL_law_X5_pass rfl rfl rfl (by decide +kernel) ⟨Nat.le_of_ble_eq_true rfl, Nat.le_of_ble_eq_true rfl⟩) ⟨zBl zW_blind, va_recv hK hP (ci := 5) (q0 := 0) rfl rfl, fun U h1 h2 => ⟨rfl, zI_pre hP hK hN U h1 h2, by rw [h1]⟩⟩ rfl rfl hl.1 rfl (lv_room (Nat.le_of_ble_eq_true rfl)) dL_law_722 ⟨hcc, hss⟩) hS (fun q _ h => hFc q h) (fun q h => hFc q h) (fun r_3 g_2 t H locs ht hvm hw hB _ _ hS => ?_)
    obtain ⟨hr_3, eg_2⟩ := hw
    subst hr_3
    have hP : va_P D vwCl (zC ty g_2 ad) H := by rw [← ht]; exact hB.1
    clear hFc ht hvm hB
    clear t
    refine zeq (show g 0 0 + nI (1 + j_1) = nI (dy + (1 + j_1)) from by rw [hdy1]; exact nI_add _ _) ?_
    have hp_1 : pI g_2 n n4 n5 := by rw [eg_2, hdy1, nI_add]; exact pI_pass hp (by omega) (by omega)
    have hcr_1 : cr ≤ CR g_2 (hmN g_2 n) n5 := by rw [hcr, eg_2]; exact Nat.le_refl _
    refine lv_iload hx hb dL_law_725 (lv_at hl 2 rfl) ?_
    refine lv_iload hx hb dL_law_727 (lv_at hl 0 rfl) ?_
    refine lv_iadd hx hb dL_law_729 ?_
    refine zeq (nI_add dy (1 + j_1)) ?_
    refine lv_icmp_eq (tgt := 825) hx hb dL_law_730 (by decide) (fun c_4 => ?_) (fun c_4 => ?_)
    · have c_4 := zn_eqT (a := (dy + (1 + j_1))) (b := (dy + (1 + j_1))) (by omega) (by omega) c_4
      refine W.widen (k := cells + 1) (n := slots + 6) (by omega) (by omega) ?_
      exact K g_2 n4 n5 _ _ _ hp_1 (hcr_1) hP hS (lv_sub hl [1, 7, 8, 9, 10] rfl)
    · have c_4 := zn_eqF (a := (dy + (1 + j_1))) (b := (dy + (1 + j_1))) (by omega) (by omega) c_4
      omega
set_option maxHeartbeats 4000000 in
set_option maxRecDepth 100000 in
/-- a preview -/
theorem law_c7 (p : Program) (l : Launch) (e : Env) (s : State) (m : MethodId) (below : List Frame) (meth : Method) (c : Code) (Q : State → Prop) (D : va_G) (ty : Nat → ClassId) (b L : Nat) (xs : Nat → Int32) (hC : lwC p l s m meth c D ty b L xs) (ad : Nat → Nat) (hij : zIj ad) (hlo : ∀ k, k < 39 → s.heap.size ≤ ad k) (g : Nat → Nat → Int32) (n n4 n5 : Nat) (hp : pI g n n4 n5) (H : Heap) (locs : List Loc) (cells slots : Nat) (hP : va_P D vwCl (zC ty g ad) H) (hS : va_S (fun q => s.heap.size ≤ q) s.heap H locs) (hc1 : cells + 1 ≤ 149) (hs1 : slots + 6 ≤ 3616) (ls : Array Slot) (i I R cr dy A : Nat) (x : Int32) (hI : I < n) (hR : R < 3) (hA : A = 2 ^ nF g I - 1) (hdy : cn (g 0 0) = dy) (hcr : cr = CR g (hmN g n) n5) (hl : lv_has ls 25 [(9, .int (nI cr)), (8, .int (nI dy)), (7, .int (nI R)), (6, .int (nI A)), (5, .int (nI I)), (4, .int x), (3, .int (nI i)), (2, .int (nI n)), (1, .ref (ad 0)), (0, .ref b)]) (K : lwK p l e s m below meth c Q D ty b ad i n cr (cells + 1) (slots + 6)) : W p l e room_1 s m #[Value.ref b] below meth c H locs cells slots Q (F0 m 735 ls []) := by
  obtain ⟨⟨hx, hb, hr, hml, hlocks, hlt⟩, ⟨hown, hts, hX, hbl, hL⟩, hK, hN, hT, hQ⟩ := hC
  have hcc : cells ≤ room_1.cells := by show cells ≤ 149; omega
  have hss : slots ≤ room_1.slots := by show slots ≤ 3616; omega
  have hn2 := hp.n2
  have hn5 := hp.n5b
  have h4b := hp.b4
  have h5b := hp.b5
  have hcb := hp.CRb
  have hf1 := (hp.f hI).2.1
  have hf2 := (hp.f hI).2.2
  have hp64 := p2_64 hf2
  have hA2 : 2 ^ 1 ≤ 2 ^ nF g I := Nat.pow_le_pow_right (by decide) hf1
  have hdy1 := hp.day.1
  have hdy2 := hp.day.2
  rw [hdy] at hdy1 hdy2
  refine lv_iconst (v := nI 1) hx hb dL_law_735 (by decide) ?_
  refine lv_iload hx hb dL_law_736 (lv_at hl 5 rfl) ?_
  refine lv_iconst (v := nI 4) hx hb dL_law_738 (by decide) ?_
  refine lv_ishr hx hb dL_law_739 ?_
  refine lv_aload_n hx hb dL_law_740 rfl (lv_at hl 8 rfl) ?_
  refine lv_iload hx hb dL_law_741 (lv_at hl 4 rfl) ?_
  refine lv_iconst (v := nI 0) hx hb dL_law_743 (by decide) ?_
  refine zcVi (As := [.int (nI I), .int (nI 0)]) (rest := [.int (x >>> ((nI 4) &&& 31)), .int (nI 1)]) ⟨hx, hb, hml, hown, hts⟩ (c_X5_ofSet l D ty g ad n (n - 1) (n - 1) n4 n5 hp.d I 0 (by omega) (by decide)) (cwV 2 hts gL_law_X5_ofSet rfl rfl rfl (by decide +kernel) ⟨Nat.le_of_ble_eq_true rfl, Nat.le_of_ble_eq_true rfl⟩) zI_blind (zI_pre hP hK hN) (va_recv hK hP (ci := 5) (q0 := 0) rfl rfl) rfl hl.1 rfl (Nat.le_of_ble_eq_true rfl) dL_law_744 ⟨hcc, hss⟩ (fun r_1 hr_1 => ?_)
  subst hr_1
  refine zeq (show ofSetN g n5 I 0 = nI (nF g I) from (hp.f hI).1) ?_
  refine zcSi (As := [.int (x >>> ((nI 4) &&& 31)), .int (nI (nF g I))]) (rest := [.int (nI 1)]) ⟨hx, hb, hml, hown, hts⟩ (c_L_below l _ (x >>> ((nI 4) &&& 31)) (nF g I) (by omega) (by omega)) (cwS 2 hts gL_law_L_below rfl rfl rfl (by decide +kernel) ⟨Nat.le_of_ble_eq_true rfl, Nat.le_of_ble_eq_true rfl⟩) (B := fun _ => True) (fun _ _ _ _ _ => trivial) (fun _ _ _ => trivial) rfl hl.1 rfl (Nat.le_of_ble_eq_true rfl) dL_law_747 ⟨hcc, hss⟩ (fun r hr => ?_)
  obtain ⟨j_1, hj_1, rfl⟩ := hr
  refine lv_ishl hx hb dL_law_750 ?_
  have hj7 : j_1 < 7 := by omega
  have hs9 := p2_in hj_1 hf2
  refine zeq (shl1 hj7) ?_
  refine lv_istore (lv' := [(22, .int (nI (2 ^ j_1))), (9, .int (nI cr)), (8, .int (nI dy)), (7, .int (nI R)), (6, .int (nI A)), (5, .int (nI I)), (4, .int x), (3, .int (nI i)), (2, .int (nI n)), (1, .ref (ad 0)), (0, .ref b)]) hx hb dL_law_751 hl (by decide) rfl (fun ls hl => ?_)
  refine lv_aload_n hx hb dL_law_753 rfl (lv_at hl 9 rfl) ?_
  refine lv_iload hx hb dL_law_754 (lv_at hl 3 rfl) ?_
  refine lv_iload hx hb dL_law_756 (lv_at hl 5 rfl) ?_
  refine zcVi (As := [.int (nI R), .int (nI I)]) (rest := []) ⟨hx, hb, hml, hown, hts⟩ (c_X5_previews l D ty g ad n (n - 1) (n - 1) n4 n5 hp.d R I (by omega) (by omega)) (cwV 2 hts gL_law_X5_previews rfl rfl rfl (by decide +kernel) ⟨Nat.le_of_ble_eq_true rfl, Nat.le_of_ble_eq_true rfl⟩) zI_blind (zI_pre hP hK hN) (va_recv hK hP (ci := 5) (q0 := 0) rfl rfl) rfl hl.1 rfl (Nat.le_of_ble_eq_true rfl) dL_law_758 ⟨hcc, hss⟩ (fun r_2 hr_2 => ?_)
  subst hr_2
  refine lv_istore (lv' := [(23, .int (prevN g n4 R I)), (22, .int (nI (2 ^ j_1))), (9, .int (nI cr)), (8, .int (nI dy)), (7, .int (nI R)), (6, .int (nI A)), (5, .int (nI I)), (4, .int x), (3, .int (nI i)), (2, .int (nI n)), (1, .ref (ad 0)), (0, .ref b)]) hx hb dL_law_761 hl (by decide) rfl (fun ls hl => ?_)
  refine lv_aload_n hx hb dL_law_763 rfl (lv_at hl 10 rfl) ?_
  refine lv_iload hx hb dL_law_764 (lv_at hl 4 rfl) ?_
  refine lv_iload hx hb dL_law_766 (lv_at hl 6 rfl) ?_
  refine lv_iload hx hb dL_law_768 (lv_at hl 1 rfl) ?_
  rcases hmb : mayB g I (g 6 (R * 8 + I) ||| nI (2 ^ j_1)) (openT g n4 (nI R) (nI I)) with _ | _
  · have hFc := AC_hs hlo hS.1
    refine va_calli (vx_runSW (As := [.ref (ad 0), .int (nI R), .int (nI I), .int (nI (2 ^ j_1))]) (rest := []) ⟨hx, hb, hml, hown, hts⟩ (c_L_preview_x l D ty g ad H.size (nI R) (nI I) (nI (2 ^ j_1)) (c_X5_preview_xS2 l hlt D ty g ad n (n - 1) (n - 1) n4 n5 hp.d R I (by omega) hI (nI (2 ^ j_1)) (nI_nlt (by omega) (by omega)) (by rw [allF_nat hf2]; exact nI_nlt (by omega) (by omega)) (by rw [bc_1 hj7]; decide) (by rw [hp.v hI]; omega) hmb)) (vx_cwSW 4 hts gL_law_L_preview rfl rfl rfl (by decide +kernel) ⟨Nat.le_of_ble_eq_true rfl, Nat.le_of_ble_eq_true rfl⟩) ⟨zBl zXz_blind, fun U h1 h2 => ⟨rfl, zXz_pre hP hK hN hQ hT hS U h1 h2⟩⟩ rfl rfl hl.1 rfl (lv_room (Nat.le_of_ble_eq_true rfl)) dL_law_770 ⟨by show cells + 1 ≤ 149; omega, by show slots + 6 ≤ 3616; omega⟩) hS (fun q _ h => hFc q h) (fun q h => hFc q h) (fun r_3 g_4 t H locs ht hvm hw hB _ _ hS => ?_)
    obtain ⟨hr_3, eg_4⟩ := hw
    subst hr_3
    have hP : va_P D vwCl (zC ty g_4 ad) H := by rw [← ht]; exact hB.1
    clear hFc ht hvm hB
    clear t
    have hp_1 : pI g_4 n n4 n5 := by rw [eg_4]; exact hp
    have hcr_1 : cr ≤ CR g_4 (hmN g_4 n) n5 := by rw [hcr, eg_4]; exact Nat.le_refl _
    refine lv_istore (lv' := [(24, .int (nI 0)), (23, .int (prevN g n4 R I)), (22, .int (nI (2 ^ j_1))), (9, .int (nI cr)), (8, .int (nI dy)), (7, .int (nI R)), (6, .int (nI A)), (5, .int (nI I)), (4, .int x), (3, .int (nI i)), (2, .int (nI n)), (1, .ref (ad 0)), (0, .ref b)]) hx hb dL_law_773 hl (by decide) rfl (fun ls hl => ?_)
    refine lv_iload hx hb dL_law_775 (lv_at hl 0 rfl) ?_
    refine lv_if_le (tgt := 825) hx hb dL_law_777 (by decide) (fun c_5 => ?_) (fun c_5 => ?_)
    · have c_5 := zq_leT (x := 0) (by omega) c_5
      refine W.widen (k := cells + 1) (n := slots + 6) (by omega) (by omega) ?_
      exact K g_4 n4 n5 _ _ _ hp_1 (hcr_1) hP hS (lv_sub hl [3, 9, 10, 11, 12] rfl)
    · have c_5 := zq_leF (x := 0) (by omega) c_5
      omega
  · have hFc := AC_hs hlo hS.1
    refine va_calli (vx_runSW (As := [.ref (ad 0), .int (nI R), .int (nI I), .int (nI (2 ^ j_1))]) (rest := []) ⟨hx, hb, hml, hown, hts⟩ (c_L_preview_ok l D ty g ad H.size (nI R) (nI I) (nI (2 ^ j_1)) _ _ (c_X5_preview l D ty g ad H.size hij n (n - 1) (n - 1) n4 n5 hp.d R I (by omega) hI (nI (2 ^ j_1)) (nI_nlt (by omega) (by omega)) (by rw [allF_nat hf2]; exact nI_nlt (by omega) (by omega)) (by rw [bc_1 hj7]; decide) (by rw [hp.v hI]; omega) hmb)) (vx_cwSW 4 hts gL_law_L_preview rfl rfl rfl (by decide +kernel) ⟨Nat.le_of_ble_eq_true rfl, Nat.le_of_ble_eq_true rfl⟩) ⟨zBl zW_blind, fun U h1 h2 => ⟨rfl, zI_pre hP hK hN U h1 h2, by rw [h1]⟩⟩ rfl rfl hl.1 rfl (lv_room (Nat.le_of_ble_eq_true rfl)) dL_law_770 ⟨hcc, hss⟩) hS (fun q _ h => hFc q h) (fun q h => hFc q h) (fun r_6 g_7 t H locs ht hvm hw hB _ _ hS => ?_)
    obtain ⟨hr_6, eg_7⟩ := hw
    subst hr_6
    have hP : va_P D vwCl (zC ty g_7 ad) H := by rw [← ht]; exact hB.1
    clear hFc ht hvm hB
    clear t
    have hp_1 : pI g_7 n n4 n5 := by rw [eg_7]; exact pI_o (Or.inl rfl) hp _
    have hcr_1 : cr ≤ CR g_7 (hmN g_7 n) n5 := by rw [hcr, eg_7]; exact Nat.le_refl _
    have hv1 : ¬ prevN g_7 n4 R I = 0 := by rw [eg_7]; exact prev_pos1 hp hI hj_1 hmb
    refine lv_istore (lv' := [(24, .int (g 6 (R * 8 + I) ||| nI (2 ^ j_1))), (23, .int (prevN g n4 R I)), (22, .int (nI (2 ^ j_1))), (9, .int (nI cr)), (8, .int (nI dy)), (7, .int (nI R)), (6, .int (nI A)), (5, .int (nI I)), (4, .int x), (3, .int (nI i)), (2, .int (nI n)), (1, .ref (ad 0)), (0, .ref b)]) hx hb dL_law_773 hl (by decide) rfl (fun ls hl => ?_)
    refine lv_iload hx hb dL_law_775 (lv_at hl 0 rfl) ?_
    refine lv_if_le (tgt := 825) hx hb dL_law_777 (by decide) (fun c_8 => ?_) (fun c_8 => ?_)
    · refine W.widen (k := cells + 1) (n := slots + 6) (by omega) (by omega) ?_
      exact K g_7 n4 n5 _ _ _ hp_1 (hcr_1) hP hS (lv_sub hl [3, 9, 10, 11, 12] rfl)
    · refine lv_iload hx hb dL_law_780 (lv_at hl 1 rfl) ?_
      refine lv_if_eq (tgt := 823) hx hb dL_law_782 (by decide) (fun c_9 => ?_) (fun c_9 => ?_)
      · exact absurd c_9 (prev_pos hp hI hj_1 hmb)
      · refine lv_iload hx hb dL_law_785 (lv_at hl 0 rfl) ?_
        refine lv_iload hx hb dL_law_787 (lv_at hl 2 rfl) ?_
        refine lv_iand hx hb dL_law_789 ?_
        refine lv_if_eq (tgt := 823) hx hb dL_law_790 (by decide) (fun c_10 => ?_) (fun c_10 => ?_)
        · exact absurd c_10 (prev_seen hj7)
        · refine lv_iconst (v := nI 2) hx hb dL_law_793 (by decide) ?_
          refine lv_iload hx hb dL_law_794 (lv_at hl 0 rfl) ?_
          refine zcSi (As := [.int (g 6 (R * 8 + I) ||| nI (2 ^ j_1))]) (rest := [.int (nI 2)]) ⟨hx, hb, hml, hown, hts⟩ (c_J6_bitCount l _ (g 6 (R * 8 + I) ||| nI (2 ^ j_1))) (va_cwS 1 hts gL_law_J6_bitCount_0f7a4 rfl rfl rfl (by decide +kernel) ⟨Nat.le_of_ble_eq_true rfl, Nat.le_of_ble_eq_true rfl⟩) (B := fun _ => True) (fun _ _ _ _ _ => trivial) (fun _ _ _ => trivial) rfl hl.1 rfl (Nat.le_of_ble_eq_true rfl) dL_law_796 ⟨hcc, hss⟩ (fun r_11 hr_11 => ?_)
          subst hr_11
          refine lv_imul hx hb dL_law_799 ?_
          refine lv_aload_n hx hb dL_law_800 rfl (lv_at hl 11 rfl) ?_
          refine lv_iload hx hb dL_law_801 (lv_at hl 7 rfl) ?_
          refine lv_iconst (v := nI 0) hx hb dL_law_803 (by decide) ?_
          refine zcVi (As := [.int (nI I), .int (nI 0)]) (rest := [.int ((nI 2) * (bc (g 6 (R * 8 + I) ||| nI (2 ^ j_1))))]) ⟨hx, hb, hml, hown, hts⟩ (c_X5_ofSet l D ty g_7 ad n (n - 1) (n - 1) n4 n5 hp_1.d I 0 (by omega) (by decide)) (cwV 2 hts gL_law_X5_ofSet rfl rfl rfl (by decide +kernel) ⟨Nat.le_of_ble_eq_true rfl, Nat.le_of_ble_eq_true rfl⟩) zI_blind (zI_pre hP hK hN) (va_recv hK hP (ci := 5) (q0 := 0) rfl rfl) rfl hl.1 rfl (Nat.le_of_ble_eq_true rfl) dL_law_804 ⟨hcc, hss⟩ (fun r_12 hr_12 => ?_)
          subst hr_12
          refine zeq (show ofSetN g_7 n5 I 0 = nI (nF g I) from by rw [eg_7]; exact (hp.f hI).1) ?_
          refine lv_iconst (v := nI 1) hx hb dL_law_807 (by decide) ?_
          refine lv_iadd hx hb dL_law_808 ?_
          refine zeq (nI_add (nF g I) 1) ?_
          refine lv_icmp_gt (tgt := 823) hx hb dL_law_809 (by decide) (fun c_13 => ?_) (fun c_13 => ?_)
          · exact absurd c_13 (prev_half hf2 hmb)
          · refine lv_aload_n hx hb dL_law_812 rfl (lv_at hl 11 rfl) ?_
            refine lv_iload hx hb dL_law_813 (lv_at hl 5 rfl) ?_
            refine lv_iload hx hb dL_law_815 (lv_at hl 7 rfl) ?_
            refine zcVi (As := [.int (nI R), .int (nI I)]) (rest := []) ⟨hx, hb, hml, hown, hts⟩ (c_X5_previews l D ty g_7 ad n (n - 1) (n - 1) n4 n5 hp_1.d R I (by omega) (by omega)) (cwV 2 hts gL_law_X5_previews rfl rfl rfl (by decide +kernel) ⟨Nat.le_of_ble_eq_true rfl, Nat.le_of_ble_eq_true rfl⟩) zI_blind (zI_pre hP hK hN) (va_recv hK hP (ci := 5) (q0 := 0) rfl rfl) rfl hl.1 rfl (Nat.le_of_ble_eq_true rfl) dL_law_817 ⟨hcc, hss⟩ (fun r_14 hr_14 => ?_)
            subst hr_14
            refine lv_if_ne (tgt := 825) hx hb dL_law_820 (by decide) (fun c_15 => ?_) (fun c_15 => ?_)
            · refine W.widen (k := cells + 1) (n := slots + 6) (by omega) (by omega) ?_
              exact K g_7 n4 n5 _ _ _ hp_1 (hcr_1) hP hS (lv_sub hl [3, 9, 10, 11, 12] rfl)
            · exact absurd c_15 hv1
