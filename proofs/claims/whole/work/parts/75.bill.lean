theorem hmX.keptW {D : va_G} {ty : Nat → ClassId} {a sz q0 : Nat} {h : Nat → Int32} {b d : Nat → Nat} {H H1 : Heap} (hX : hmX D ty a h b d H) (hA : sz ≤ a ∧ (∀ i, i < 8 → sz ≤ b i) ∧ ∀ x, x < 48 → sz ≤ d x) (hq : q0 < sz) (ho : ∀ q, q ≠ q0 → H1[q]? = H[q]?) : hmX D ty a h b d H1 :=
  ⟨hX.1.kept (ho _ (by have := hA.1; show a ≠ q0; omega)), fun i hi => (hX.2.1 i hi).kept (ho _ (by have := hA.2.1 i hi; show b i ≠ q0; omega)), fun x hx => (hX.2.2 x hx).kept (ho _ (by have := hA.2.2 x hx; show d x ≠ q0; omega))⟩
set_option maxHeartbeats 600000 in
set_option maxRecDepth 100000 in
theorem m_bill (l : Launch) (D : va_G) (ty : Nat → ClassId) (A : Nat → Prop) (u : Nat → Nat → Prop) (C : Nat → Nat → va_E) (ma : Nat → Nat → Nat) (t0 mi : Nat) (g : Nat → Nat → Int32) (n1 n2 nL n4 n5 : Nat) (th : Int32) (rep bro : Nat → Nat → Int32) (hR : mR ty t0 g n1 n2 nL n4 n5 th rep bro u C ma) (R : Nat) (hr6 : R < 6) : Met l yX12_bill wsX12_bill ({ frames := 7, cells := 97, slots := 584, locals := 227 }) (va_Pc [.ref (ma 0 0), .int (nI R)] (mI D ty A u C ma t0 mi)) (va_Qi (fun (v9 : Int32) (C2 : Nat → Nat → va_E) => v9 = sumN (fDue g (nI R) 21) n5 ∧ mR ty t0 (va_up g 37 (bilN g (nI R) n5)) n1 n2 nL n4 n5 (nI 0) rep bro u C2 ma) (fun C2 t => mI D ty A u C2 ma t0 mi t) A) 97 584 A := by
  refine zMet (cc := cX12_bill) (maxL := 5) (ret := (some .int)) (by decide) rfl (Nat.le_of_ble_eq_true rfl) ?_
  intro p e s m below meth c hx hb hr hts hown hlocks hml hB ls hl
  obtain ⟨hM, hK, hMS⟩ := hB
  have hS : va_S A s.heap s.heap [] := va_S.rf
  have hbn := hR.I.b1
  have hbs := hR.I.b2
  have hbl := hR.I.bL
  have hbc := hR.I.b4
  have hbr := hR.I.b5
  have h1 := bRd_ok hr6
  have hcq : cntR g R n5 ≤ 40 := by
    have q1 := cntS_le (g := g) (R := R + 1) (by omega) n5
    have q2 : cntS g n5 (R + 1) = cntS g n5 R + cntR g R n5 := rfl
    omega
  have hl : lv_has ls 5 [(0, .ref (ma 0 0)), (1, .int (nI R))] := hl
  have hinX12 : ∀ w ∈ wsX120, w ∈ wsX12_bill := by decide +kernel
  have hk1 := hts (.fieldLink RX12 22 "DatamarketDeskModel" "reads" "Ljava/util/ArrayList;") (by decide +kernel)
  have hk2 := hts (.classLink RX12 152 "DatamarketDeskModel$Read") (by decide +kernel)
  have hinX9 : ∀ w ∈ wsX90, w ∈ wsX12_bill := by decide +kernel
  have hk4 := hts (.fieldLink RX12 217 "DatamarketDeskModel$Read" "reader" "I") (by decide +kernel)
  have hk5 := hts (.fieldLink RX12 260 "DatamarketDeskModel$Read" "billed" "I") (by decide +kernel)
  refine lv_aload_n hx hb dX12_bill_0 rfl (lv_at hl 0 rfl) ?_
  refine lv_iload_n hx hb dX12_bill_1 rfl (lv_at hl 1 rfl) ?_
  refine zcSi (As := [.int (nI R)]) (rest := [.ref (ma 0 0)]) ⟨hx, hb, hml, hown, hts⟩ (c_X12_isNoReader l _ (nI R)) (cwS 1 hts gX12_bill_X12_isNoReader rfl rfl rfl (by decide +kernel) ⟨Nat.le_of_ble_eq_true rfl, Nat.le_of_ble_eq_true rfl⟩) (B := fun _ => True) (fun _ _ _ _ _ => trivial) (fun _ _ _ => trivial) rfl hl.1 rfl (Nat.le_of_ble_eq_true rfl) dX12_bill_2 ⟨Nat.le_of_ble_eq_true rfl, Nat.le_of_ble_eq_true rfl⟩ (fun r_1 hr_1 => ?_)
  subst hr_1
  refine zeq (show bI _ = bI false from by rw [h1]) ?_
  refine lv_iconst (v := nI 1) hx hb dX12_bill_5 (by decide) ?_
  refine va_calli (va_runV (As := [.int (bI false), .int (nI 1)]) (rest := []) ⟨hx, hb, hml, hown, hts⟩ (c_X12_start_f l D ty A u C ma t0 mi g n1 n2 nL n4 n5 th rep bro hR 1 (by omega) (by omega)) (cwV 2 hts gX12_bill_X12_start rfl rfl rfl (by decide +kernel) ⟨Nat.le_of_ble_eq_true rfl, Nat.le_of_ble_eq_true rfl⟩) ⟨zBl mI_blind, (va_recv hK (hM.Pa hR.o.1 rfl hR.o.2) (ci := 13) (q0 := 0) rfl rfl), fun U h1 h2 => ⟨rfl, mI_pre hM hK hMS hS U h1 h2⟩⟩ rfl rfl hl.1 rfl (lv_room (Nat.le_of_ble_eq_true rfl)) dX12_bill_6 ⟨Nat.le_of_ble_eq_true rfl, Nat.le_of_ble_eq_true rfl⟩) hS (fun _ _ h => h) (fun _ h => h) (fun r_3 C_2 t H1 locs ht hvm hw hB9 hz1 hk1 hS => ?_)
  obtain ⟨hr_3, hR_4⟩ := hw
  obtain ⟨hM, -, -⟩ := hB9
  rw [ht] at hM
  clear hk1 hz1 hvm ht
  clear t
  generalize H1 = H at hM hS ⊢
  subst hr_3
  refine lv_if_eq (tgt := 14) hx hb dX12_bill_9 (by decide) (fun c_5 => ?_) (fun c_5 => ?_)
  · have c_5 := bI_f c_5
    refine lv_aload_n hx hb dX12_bill_14 rfl (lv_at hl 0 rfl) ?_
    have hlo2 : ∀ k9 x9, u k9 x9 → ma k9 x9 < H.size := fun _ _ hu => hM.lt hu
    obtain ⟨sz2, hsz2⟩ : ∃ z, z = H.size := ⟨_, rfl⟩
    rw [← hsz2] at hlo2
    have hFc : ∀ q : Nat, H.size ≤ q → A q := fun q h => hM.2.2 q h
    refine va_callr (va_runV (As := []) (rest := []) ⟨hx, hb, hml, hown, hts⟩ (c_X12_harms l D ty A u C_2 ma t0 mi g n1 n2 nL n4 n5 (nI 0) rep bro hR_4 H.size) (cwV 0 hts gX12_bill_X12_harms rfl rfl rfl (by decide +kernel) ⟨Nat.le_of_ble_eq_true rfl, Nat.le_of_ble_eq_true rfl⟩) ⟨zBl mIs_blind, (va_recv hK (hM.Pa hR_4.o.1 rfl hR_4.o.2) (ci := 13) (q0 := 0) rfl rfl), fun U h1 h2 => ⟨rfl, mI_pre hM hK hMS hS U h1 h2, by rw [h1]⟩⟩ rfl rfl hl.1 rfl (lv_room (Nat.le_of_ble_eq_true rfl)) dX12_bill_15 ⟨Nat.le_of_ble_eq_true rfl, Nat.le_of_ble_eq_true rfl⟩) hS (fun q _ h => hFc q h) hFc (fun u9 ah t H1 locs ht hvm hw hB9 hz1 hk1 hS => ?_)
    have ho9 : ∀ q : Nat, q < H.size → H1[q]? = H[q]? := fun q hq => hk1 q hq (Nat.not_le.mpr hq)
    have hM := hM.ext (fun q hq _ => ho9 q hq) hz1
    obtain ⟨hmb, hmd, hA, hAd⟩ := hB9
    rw [← hsz2] at hAd
    rw [ht] at hA
    clear hk1 hz1 hvm ht ho9 hFc
    clear t
    generalize H1 = H at hM hS hA ⊢
    refine lv_astore_n (lv' := [(2, .ref ah), (0, .ref (ma 0 0)), (1, .int (nI R))]) hx hb dX12_bill_18 rfl hl (by decide) rfl (fun ls hl => ?_)
    refine lv_aload_n hx hb dX12_bill_19 rfl (lv_at hl 1 rfl) ?_
    refine lv_aload_n hx hb dX12_bill_20 rfl (lv_at hl 0 rfl) ?_
    refine lv_iload_n hx hb dX12_bill_21 rfl (lv_at hl 2 rfl) ?_
    refine lv_iconst (v := nI 5) hx hb dX12_bill_22 (by decide) ?_
    have hFc : ∀ q : Nat, H.size ≤ q → A q := fun q h => hM.2.2 q h
    refine va_calli (va_runV (As := [.ref ah, .int (nI R), .int (nI 5)]) (rest := []) ⟨hx, hb, hml, hown, hts⟩ (c_X12_ofReaderNow l D ty A u C_2 ma t0 mi g n1 n2 nL n4 n5 (nI 0) rep bro hR_4 _ H.size R (by omega) 5 (by omega)) (cwV 3 hts gX12_bill_X12_ofReaderNow rfl rfl rfl (by decide +kernel) ⟨Nat.le_of_ble_eq_true rfl, Nat.le_of_ble_eq_true rfl⟩) ⟨zBl mIhs_blind, (va_recv hK (hM.Pa hR_4.o.1 rfl hR_4.o.2) (ci := 13) (q0 := 0) rfl rfl), fun U h1 h2 => ⟨rfl, mIh_pre hM hK hMS hS hA U h1 h2, by rw [h1]⟩⟩ rfl rfl hl.1 rfl (lv_room (Nat.le_of_ble_eq_true rfl)) dX12_bill_23 ⟨by show _ + cntR g R n5 ≤ 97; omega, by show _ + 6 * cntR g R n5 ≤ 584; omega⟩) hS (fun q _ h => hFc q h) hFc (fun r_7 u9 t H1 locs ht hvm hw hB9 hz1 hk1 hS => ?_)
    have ho9 : ∀ q : Nat, q < H.size → H1[q]? = H[q]? := fun q hq => hk1 q hq (Nat.not_le.mpr hq)
    have hM := hM.ext (fun q hq _ => ho9 q hq) hz1
    have hA := hA.kept ho9
    clear hk1 hz1 hvm ht hB9 ho9 hFc
    clear t
    generalize H1 = H at hM hS hA ⊢
    have hr_7 := hw
    subst hr_7
    refine lv_istore_n (lv' := [(3, .int (ofReaderN g n4 n5 R 5)), (2, .ref ah), (0, .ref (ma 0 0)), (1, .int (nI R))]) hx hb dX12_bill_26 rfl hl (by decide) rfl (fun ls hl => ?_)
    refine lv_iconst (v := nI 0) hx hb dX12_bill_27 (by decide) ?_
    refine lv_istore (lv' := [(4, .int (nI 0)), (3, .int (ofReaderN g n4 n5 R 5)), (2, .ref ah), (0, .ref (ma 0 0)), (1, .int (nI R))]) hx hb dX12_bill_28 hl (by decide) rfl (fun ls hl => ?_)
    have hx9 : hmX D ty ah (g 21) hmb hmd H := hA
    obtain ⟨c9, hc9⟩ : ∃ z, z = 0 + 57 + cntR g R n5 := ⟨_, rfl⟩
    obtain ⟨z9, hz9⟩ : ∃ z, z = 0 + 344 + 6 * cntR g R n5 := ⟨_, rfl⟩
    rw [← hc9, ← hz9]
    refine zloop (τ := Nat → Nat → va_E) (fun k Cx ls H locs cells slots => cells = c9 ∧ slots = z9 ∧ lv_has ls 5 [(4, .int (nI k)), (3, .int (sumN (fDue g (nI R) 21) n5)), (2, .ref ah), (0, .ref (ma 0 0)), (1, .int (nI R))] ∧ mR ty t0 (va_up g 37 (bilN g (nI R) k)) n1 n2 nL n4 n5 (nI 0) rep bro u Cx ma ∧ mW D A u Cx ma H ∧ va_S A s.heap H locs ∧ hmX D ty ah (g 21) hmb hmd H) n5 ?_ 0 C_2 ls _ _ _ _ (Nat.zero_le _) ⟨rfl, rfl, lv_sub hl [0, 1, 2, 3, 4] rfl, (by rw [bilN_0, vu_self]; exact hR_4), hM, hS, hx9⟩
    intro k Cx ls H locs cells slots hi_k hinv ih_k
    obtain ⟨rfl, rfl, hl, hRk, hM, hS, hA⟩ := hinv
    have hl : lv_has ls 5 [(4, .int (nI k)), (3, .int (sumN (fDue g (nI R) 21) n5)), (2, .ref ah), (0, .ref (ma 0 0)), (1, .int (nI R))] := hl
    refine lv_iload hx hb dX12_bill_30 (lv_at hl 0 rfl) ?_
    refine lv_aload_n hx hb dX12_bill_32 rfl (lv_at hl 3 rfl) ?_
    refine va_get hx hb hts hinX12 hown hK (hM.Pa hRk.o.1 rfl hRk.o.2) 0 rfl rfl 4 (by decide) (hk1) (fun _ h9 => h9) rfl dX12_bill_33 ?_
    obtain ⟨huz_8, hnz_8, mz_8, bz_8, hCz_8⟩ := isL.hd hRk.l7
    refine zcVi (As := []) (rest := [.int (nI k)]) ⟨hx, hb, hml, hown, hts⟩ (c_size l D ty A u Cx ma t0 mi 7 0 n5 (ma 26) hRk.l7) (cwV 0 hts gX12_bill_Jx4a65c_size_8abf5 rfl rfl rfl (by decide +kernel) ⟨Nat.le_of_ble_eq_true rfl, Nat.le_of_ble_eq_true rfl⟩) mI_blind (mI_pre hM hK hMS hS) (va_recv hK (hM.Pa huz_8 rfl hCz_8) (ci := 0) (q0 := 0) rfl rfl) rfl hl.1 rfl (Nat.le_of_ble_eq_true rfl) dX12_bill_36 ⟨by rw [hc9]; show 0 + 57 + cntR g R n5 ≤ 97; omega, by rw [hz9]; show 0 + 344 + 6 * cntR g R n5 ≤ 584; omega⟩ (fun r_9 hr_9 => ?_)
    subst hr_9
    refine lv_icmp_ge (tgt := 98) hx hb dX12_bill_39 (by decide) (fun c_10 => ?_) (fun c_10 => ?_)
    · have c_10 := zn_geT (a := k) (b := n5) (by omega) (by omega) c_10
      obtain rfl : n5 = k := by omega
      refine lv_iload_n hx hb dX12_bill_98 rfl (lv_at hl 1 rfl) ?_
      rw [hc9, hz9]
      refine W.widen (k := 97) (n := 584) (by omega) (by omega) ?_
      exact W.iret (v := sumN (fDue g (nI R) 21) n5) hx hb hr (fun t ht hW => ⟨⟨_, Cx, rfl, ⟨rfl, hRk⟩, mI_pre hM hK hMS hS t ht hW⟩, hS.F ht⟩) hS.2.2 dX12_bill_99
    · have c_10 := zn_geF (a := k) (b := n5) (by omega) (by omega) c_10
      refine lv_aload_n hx hb dX12_bill_42 rfl (lv_at hl 3 rfl) ?_
      refine va_get hx hb hts hinX12 hown hK (hM.Pa hRk.o.1 rfl hRk.o.2) 0 rfl rfl 4 (by decide) (hk1) (fun _ h9 => h9) rfl dX12_bill_43 ?_
      refine lv_iload hx hb dX12_bill_46 (lv_at hl 0 rfl) ?_
      obtain ⟨huz_11, hnz_11, mz_11, bz_11, hCz_11⟩ := isL.hd hRk.l7
      refine zcVr (x := .ref (ma 26 k)) (As := [.int (nI k)]) (rest := []) ⟨hx, hb, hml, hown, hts⟩ (c_get l D ty A u Cx ma t0 mi 7 0 n5 (ma 26) hRk.l7 k (by omega)) (cwV 1 hts gX12_bill_Jx4a65c_get_915e3 rfl rfl rfl (by decide +kernel) ⟨Nat.le_of_ble_eq_true rfl, Nat.le_of_ble_eq_true rfl⟩) mI_blind (mI_pre hM hK hMS hS) (va_recv hK (hM.Pa huz_11 rfl hCz_11) (ci := 0) (q0 := 0) rfl rfl) rfl hl.1 rfl (Nat.le_of_ble_eq_true rfl) dX12_bill_48 ⟨by rw [hc9]; show 0 + 57 + cntR g R n5 ≤ 97; omega, by rw [hz9]; show 0 + 344 + 6 * cntR g R n5 ≤ 584; omega⟩ ?_
      refine va_castS hx hb hown (hk2) ((hK.1 10 _ rfl).2) (va_recv hK (hM.Pa (hRk.r26 (r := k) (by omega)).1 rfl (hRk.r26 (r := k) (by omega)).2) (ci := 10) (q0 := 0) rfl rfl) dX12_bill_51 ?_
      refine va_get hx hb hts hinX9 hown hK (hM.Pa (hRk.r26 (r := k) (by omega)).1 rfl (hRk.r26 (r := k) (by omega)).2) 0 rfl rfl 0 (by decide) (hk4) (fun _ h9 => h9) rfl dX12_bill_54 ?_
      refine lv_iload_n hx hb dX12_bill_57 rfl (lv_at hl 4 rfl) ?_
      refine lv_icmp_ne (tgt := 92) hx hb dX12_bill_58 (by decide) (fun c_13 => ?_) (fun c_13 => ?_)
      · refine lv_iinc (v := nI (k + 1)) (lv' := [(4, .int (nI (k + 1))), (3, .int (sumN (fDue g (nI R) 21) n5)), (2, .ref ah), (0, .ref (ma 0 0)), (1, .int (nI R))]) hx hb dX12_bill_92 hl (k := 0) rfl (nI_add k 1) (by decide) rfl (fun ls hl => ?_)
        refine lv_goto (tgt := 30) hx hb dX12_bill_95 (by decide) ?_
        have hR9 : mR ty t0 (va_up g 37 (bilN g (nI R) (k + 1))) n1 n2 nL n4 n5 (nI 0) rep bro u Cx ma := by rw [bilN_o (g := g) hr6 c_13]; exact hRk
        exact ih_k Cx ls _ _ _ _ (by omega) ⟨rfl, rfl, show lv_has ls 5 [(4, .int (nI (k + 1))), (3, .int (sumN (fDue g (nI R) 21) n5)), (2, .ref ah), (0, .ref (ma 0 0)), (1, .int (nI R))] from lv_sub hl [0, 1, 2, 3, 4] rfl, hR9, hM, hS, hA⟩
      · refine lv_aload_n hx hb dX12_bill_61 rfl (lv_at hl 3 rfl) ?_
        refine va_get hx hb hts hinX12 hown hK (hM.Pa hRk.o.1 rfl hRk.o.2) 0 rfl rfl 4 (by decide) (hk1) (fun _ h9 => h9) rfl dX12_bill_62 ?_
        refine lv_iload hx hb dX12_bill_65 (lv_at hl 0 rfl) ?_
        obtain ⟨huz_14, hnz_14, mz_14, bz_14, hCz_14⟩ := isL.hd hRk.l7
        refine zcVr (x := .ref (ma 26 k)) (As := [.int (nI k)]) (rest := []) ⟨hx, hb, hml, hown, hts⟩ (c_get l D ty A u Cx ma t0 mi 7 0 n5 (ma 26) hRk.l7 k (by omega)) (cwV 1 hts gX12_bill_Jx4a65c_get_915e3 rfl rfl rfl (by decide +kernel) ⟨Nat.le_of_ble_eq_true rfl, Nat.le_of_ble_eq_true rfl⟩) mI_blind (mI_pre hM hK hMS hS) (va_recv hK (hM.Pa huz_14 rfl hCz_14) (ci := 0) (q0 := 0) rfl rfl) rfl hl.1 rfl (Nat.le_of_ble_eq_true rfl) dX12_bill_67 ⟨by rw [hc9]; show 0 + 57 + cntR g R n5 ≤ 97; omega, by rw [hz9]; show 0 + 344 + 6 * cntR g R n5 ≤ 584; omega⟩ ?_
        refine va_castS hx hb hown (hk2) ((hK.1 10 _ rfl).2) (va_recv hK (hM.Pa (hRk.r26 (r := k) (by omega)).1 rfl (hRk.r26 (r := k) (by omega)).2) (ci := 10) (q0 := 0) rfl rfl) dX12_bill_70 ?_
        refine lv_aload_n hx hb dX12_bill_73 rfl (lv_at hl 3 rfl) ?_
        refine va_get hx hb hts hinX12 hown hK (hM.Pa hRk.o.1 rfl hRk.o.2) 0 rfl rfl 4 (by decide) (hk1) (fun _ h9 => h9) rfl dX12_bill_74 ?_
        refine lv_iload hx hb dX12_bill_77 (lv_at hl 0 rfl) ?_
        obtain ⟨huz_16, hnz_16, mz_16, bz_16, hCz_16⟩ := isL.hd hRk.l7
        refine zcVr (x := .ref (ma 26 k)) (As := [.int (nI k)]) (rest := [.ref (ma 26 k)]) ⟨hx, hb, hml, hown, hts⟩ (c_get l D ty A u Cx ma t0 mi 7 0 n5 (ma 26) hRk.l7 k (by omega)) (cwV 1 hts gX12_bill_Jx4a65c_get_915e3 rfl rfl rfl (by decide +kernel) ⟨Nat.le_of_ble_eq_true rfl, Nat.le_of_ble_eq_true rfl⟩) mI_blind (mI_pre hM hK hMS hS) (va_recv hK (hM.Pa huz_16 rfl hCz_16) (ci := 0) (q0 := 0) rfl rfl) rfl hl.1 rfl (Nat.le_of_ble_eq_true rfl) dX12_bill_79 ⟨by rw [hc9]; show 0 + 57 + cntR g R n5 ≤ 97; omega, by rw [hz9]; show 0 + 344 + 6 * cntR g R n5 ≤ 584; omega⟩ ?_
        refine va_castS hx hb hown (hk2) ((hK.1 10 _ rfl).2) (va_recv hK (hM.Pa (hRk.r26 (r := k) (by omega)).1 rfl (hRk.r26 (r := k) (by omega)).2) (ci := 10) (q0 := 0) rfl rfl) dX12_bill_82 ?_
        refine lv_aload_n hx hb dX12_bill_85 rfl (lv_at hl 2 rfl) ?_
        refine zcVi (As := [.ref ah]) (rest := [.ref (ma 26 k)]) ⟨hx, hb, hml, hown, hts⟩ (c_X9_worth l D ty A u Cx ma t0 mi (va_up g 37 (bilN g (nI R) k)) n1 n2 nL n4 n5 (nI 0) rep bro hRk _ k (by omega)) (cwV 1 hts gX12_bill_X9_worth rfl rfl rfl (by decide +kernel) ⟨Nat.le_of_ble_eq_true rfl, Nat.le_of_ble_eq_true rfl⟩) mIh_blind (mIh_pre hM hK hMS hS hA) (va_recv hK (hM.Pa (hRk.r26 (r := k) (by omega)).1 rfl (hRk.r26 (r := k) (by omega)).2) (ci := 10) (q0 := 0) rfl rfl) rfl hl.1 rfl (Nat.le_of_ble_eq_true rfl) dX12_bill_86 ⟨by rw [hc9]; show 0 + 57 + cntR g R n5 ≤ 97; omega, by rw [hz9]; show 0 + 344 + 6 * cntR g R n5 ≤ 584; omega⟩ (fun r_18 hr_18 => ?_)
        subst hr_18
        refine zeq (show _ = chN g k - crN g 21 k from by rw [show chN (va_up g 37 (bilN g (nI R) k)) k = chN g k from rfl, crN_vu (k := 37) (c := 21) (by decide) (by decide) (by decide) (by decide)]) ?_
        refine mput (v := .int (chN g k - crN g 21 k)) (ty := .int) hx hb hts hinX9 tyX9 tyX9_ok nmX9 hown hK hM hS (hRk.r26 (r := k) (by omega)).1 rfl (hRk.r26 (r := k) (by omega)).2 rfl 9 (by decide) (hk5) (fun _ h9 => h9) rfl (by decide +kernel) rfl rfl (Nat.le_of_ble_eq_true rfl) dX12_bill_89 (fun H locs hM hS ho => ?_)
        obtain ⟨C_19, eC_19⟩ : ∃ z, z = up2 Cx 26 k (eO 10 [.int ((va_up g 37 (bilN g (nI R) k)) 29 k), .int ((va_up g 37 (bilN g (nI R) k)) 30 k), .int ((va_up g 37 (bilN g (nI R) k)) 31 k), .int ((va_up g 37 (bilN g (nI R) k)) 32 k), .int ((va_up g 37 (bilN g (nI R) k)) 33 k), .int ((va_up g 37 (bilN g (nI R) k)) 35 k), .int ((va_up g 37 (bilN g (nI R) k)) 34 k), .int ((va_up g 37 (bilN g (nI R) k)) 36 k), .ref (ma 27 k), .int (chN g k - crN g 21 k)]) := ⟨_, rfl⟩
        have hM : mW D A u C_19 ma H := by rw [eC_19]; exact hM
        have hC_20 : C_19 26 k = eO 10 [.int ((va_up g 37 (bilN g (nI R) k)) 29 k), .int ((va_up g 37 (bilN g (nI R) k)) 30 k), .int ((va_up g 37 (bilN g (nI R) k)) 31 k), .int ((va_up g 37 (bilN g (nI R) k)) 32 k), .int ((va_up g 37 (bilN g (nI R) k)) 33 k), .int ((va_up g 37 (bilN g (nI R) k)) 35 k), .int ((va_up g 37 (bilN g (nI R) k)) 34 k), .int ((va_up g 37 (bilN g (nI R) k)) 36 k), .ref (ma 27 k), .int (chN g k - crN g 21 k)] := by rw [eC_19]; exact up2_s _ _ _ _
        have hA := hA.keptW hAd (hlo2 26 k (hRk.r26 (r := k) (by omega)).1) ho
        refine lv_iinc (v := nI (k + 1)) (lv' := [(4, .int (nI (k + 1))), (3, .int (sumN (fDue g (nI R) 21) n5)), (2, .ref ah), (0, .ref (ma 0 0)), (1, .int (nI R))]) hx hb dX12_bill_92 hl (k := 0) rfl (nI_add k 1) (by decide) rfl (fun ls hl => ?_)
        refine lv_goto (tgt := 30) hx hb dX12_bill_95 (by decide) ?_
        have hR9 : mR ty t0 (va_up g 37 (bilN g (nI R) (k + 1))) n1 n2 nL n4 n5 (nI 0) rep bro u C_19 ma := by
          rw [eC_19, bilN_s (g := g) hr6 c_13]
          have h9 := mR_bil hRk (k := k) (by omega) (chN g k - crN g 21 k)
          rw [vu_2] at h9
          exact h9
        exact ih_k C_19 ls _ _ _ _ (by omega) ⟨rfl, rfl, show lv_has ls 5 [(4, .int (nI (k + 1))), (3, .int (sumN (fDue g (nI R) 21) n5)), (2, .ref ah), (0, .ref (ma 0 0)), (1, .int (nI R))] from lv_sub hl [0, 1, 2, 3, 4] rfl, hR9, hM, hS, hA⟩
  · have c_5 := bI_t c_5
    cases c_5
set_option maxHeartbeats 600000 in
set_option maxRecDepth 100000 in
theorem m_bill_x1 (l : Launch) (D : va_G) (ty : Nat → ClassId) (A : Nat → Prop) (u : Nat → Nat → Prop) (C : Nat → Nat → va_E) (ma : Nat → Nat → Nat) (t0 mi : Nat) (g : Nat → Nat → Int32) (n1 n2 nL n4 n5 : Nat) (th : Int32) (rep bro : Nat → Nat → Int32) (hR : mR ty t0 g n1 n2 nL n4 n5 th rep bro u C ma) (y : Int32) (h1 : bRd y = true) : Met l yX12_bill wsX12_bill ({ frames := 7, cells := 0, slots := 0, locals := 192 }) (va_Pc [.ref (ma 0 0), .int y] (mI D ty A u C ma t0 mi)) (va_Qi (fun (v9 : Int32) (C2 : Nat → Nat → va_E) => v9 = nI 0 ∧ mR ty t0 g n1 n2 nL n4 n5 (nI 1) rep bro u C2 ma) (fun C2 t => mI D ty A u C2 ma t0 mi t) A) 0 0 A := by
  refine zMet (cc := cX12_bill) (maxL := 5) (ret := (some .int)) (by decide) rfl (Nat.le_of_ble_eq_true rfl) ?_
  intro p e s m below meth c hx hb hr hts hown hlocks hml hB ls hl
  obtain ⟨hM, hK, hMS⟩ := hB
  have hS : va_S A s.heap s.heap [] := va_S.rf
  have hbn := hR.I.b1
  have hbs := hR.I.b2
  have hbl := hR.I.bL
  have hbc := hR.I.b4
  have hbr := hR.I.b5
  have hl : lv_has ls 5 [(0, .ref (ma 0 0)), (1, .int y)] := hl
  refine lv_aload_n hx hb dX12_bill_0 rfl (lv_at hl 0 rfl) ?_
  refine lv_iload_n hx hb dX12_bill_1 rfl (lv_at hl 1 rfl) ?_
  refine zcSi (As := [.int y]) (rest := [.ref (ma 0 0)]) ⟨hx, hb, hml, hown, hts⟩ (c_X12_isNoReader l _ y) (cwS 1 hts gX12_bill_X12_isNoReader rfl rfl rfl (by decide +kernel) ⟨Nat.le_of_ble_eq_true rfl, Nat.le_of_ble_eq_true rfl⟩) (B := fun _ => True) (fun _ _ _ _ _ => trivial) (fun _ _ _ => trivial) rfl hl.1 rfl (Nat.le_of_ble_eq_true rfl) dX12_bill_2 ⟨Nat.le_of_ble_eq_true rfl, Nat.le_of_ble_eq_true rfl⟩ (fun r_1 hr_1 => ?_)
  subst hr_1
  refine zeq (show bI _ = bI true from by rw [h1]) ?_
  refine lv_iconst (v := nI 1) hx hb dX12_bill_5 (by decide) ?_
  refine va_calli (va_runV (As := [.int (bI true), .int (nI 1)]) (rest := []) ⟨hx, hb, hml, hown, hts⟩ (c_X12_start_t l D ty A u C ma t0 mi g n1 n2 nL n4 n5 th rep bro hR 1 (by omega) (by omega)) (cwV 2 hts gX12_bill_X12_start rfl rfl rfl (by decide +kernel) ⟨Nat.le_of_ble_eq_true rfl, Nat.le_of_ble_eq_true rfl⟩) ⟨zBl mI_blind, (va_recv hK (hM.Pa hR.o.1 rfl hR.o.2) (ci := 13) (q0 := 0) rfl rfl), fun U h1 h2 => ⟨rfl, mI_pre hM hK hMS hS U h1 h2⟩⟩ rfl rfl hl.1 rfl (lv_room (Nat.le_of_ble_eq_true rfl)) dX12_bill_6 ⟨Nat.le_of_ble_eq_true rfl, Nat.le_of_ble_eq_true rfl⟩) hS (fun _ _ h => h) (fun _ h => h) (fun r_3 C_2 t H1 locs ht hvm hw hB9 hz1 hk1 hS => ?_)
  obtain ⟨hr_3, hR_4⟩ := hw
  obtain ⟨hM, -, -⟩ := hB9
  rw [ht] at hM
  clear hk1 hz1 hvm ht
  clear t
  generalize H1 = H at hM hS ⊢
  subst hr_3
  refine lv_if_eq (tgt := 14) hx hb dX12_bill_9 (by decide) (fun c_5 => ?_) (fun c_5 => ?_)
  · have c_5 := bI_f c_5
    cases c_5
  · have c_5 := bI_t c_5
    refine lv_iconst (v := nI 0) hx hb dX12_bill_12 (by decide) ?_
    exact W.iret (v := nI 0) hx hb hr (fun t ht hW => ⟨⟨_, C_2, rfl, ⟨rfl, hR_4⟩, mI_pre hM hK hMS hS t ht hW⟩, hS.F ht⟩) hS.2.2 dX12_bill_13
