theorem sumN_cut {a : Nat → Int32} {k : Nat} : ∀ n, k ≤ n → (∀ f, k ≤ f → f < n → a f = 0) → sumN a n = sumN a k := by
  intro n
  induction n with
  | zero => intro hk _; obtain rfl : k = 0 := by omega
            rfl
  | succ n ih =>
    intro hk h
    by_cases e : k = n + 1
    · rw [e]
    · have hs : sumN a (n + 1) = sumN a n + a n := rfl
      rw [hs, h n (by omega) (by omega), Int32.add_zero, ih (by omega) (fun f h1 h2 => h f h1 (by omega))]
theorem sumN_same {a b : Nat → Int32} : ∀ n, (∀ f, f < n → a f = b f) → sumN a n = sumN b n := by
  intro n
  induction n with
  | zero => intro _; rfl
  | succ n ih =>
    intro h
    have h1 : sumN a (n + 1) = sumN a n + a n := rfl
    have h2 : sumN b (n + 1) = sumN b n + b n := rfl
    rw [h1, h2, h n (by omega), ih (fun f hf => h f (by omega))]
/-- the model's quote is the class's -/
theorem quote_eq {g : Nat → Nat → Int32} {i : Nat} {F rw0 t : Int32} (h7 : nF g i < 7) (h1 : ¬ F < nI 1) (h2 : ¬ allF g i < F) : sumN (mdF g i F rw0 t) 6 = sumN (qtF g i F rw0 t) (nF g i) := by
  rw [sumN_cut (k := nF g i) 6 (by omega) (fun f q1 q2 => by rw [mdF_b, if_neg (by rw [hasB_hi h7 h1 h2 q1 q2]; decide)])]
  exact sumN_same _ fun f _ => by rw [mdF_b]; rfl
set_option maxHeartbeats 400000 in
set_option maxRecDepth 100000 in
theorem c_charge0 (l : Launch) (D : va_G) (ty : Nat → ClassId) (A : Nat → Prop) (u : Nat → Nat → Prop) (C : Nat → Nat → va_E) (ma : Nat → Nat → Nat) (t0 mi : Nat) (g : Nat → Nat → Int32) (n1 n2 nL n4 n5 : Nat) (th : Int32) (rep bro : Nat → Nat → Int32) (hR : mR ty t0 g n1 n2 nL n4 n5 th rep bro u C ma) (x : Nat) (a : Nat → Int32) (z1 z2 z3 z4 z5 z6 z7 z8 z9 : Int32) (hu1 : u 26 x) (hC1 : C 26 x = eO 10 [.int z1, .int z2, .int z3, .int z4, .int z5, .int z6, .int z7, .int z8, .ref (ma 27 x), .int z9]) (hu2 : u 27 x) (hC2 : C 27 x = eI (ty 0) 6 (row6 a 0)) : Met l yX9_charge wsX9_charge ({ frames := 0, cells := 0, slots := 0, locals := 0 }) (va_Pc [.ref (ma 26 x)] (mI D ty A u C ma t0 mi)) (vp_Si (fun v_ => v_ = sumN a 6)) 0 0 (fun _ => False) := by
  refine zMet (cc := cX9_charge) (maxL := 6) (ret := (some .int)) (by decide) rfl (Nat.le_of_ble_eq_true rfl) ?_
  intro p e s m below meth c hx hb hr hts hown hlocks hml hB ls hl
  obtain ⟨hM, hK, hMS⟩ := hB
  have hS : va_S A s.heap s.heap [] := va_S.rf
  have hbn := hR.I.b1
  have hbs := hR.I.b2
  have hbl := hR.I.bL
  have hbc := hR.I.b4
  have hbr := hR.I.b5
  have hl : lv_has ls 6 [(0, .ref (ma 26 x))] := hl
  have hinX9 : ∀ w ∈ wsX90, w ∈ wsX9_charge := by decide +kernel
  have hk1 := hts (.fieldLink RX9 9 "DatamarketDeskModel$Read" "charges" "[I") (by decide +kernel)
  refine lv_iconst (v := nI 0) hx hb dX9_charge_0 (by decide) ?_
  refine lv_istore_n (lv' := [(1, .int (nI 0)), (0, .ref (ma 26 x))]) hx hb dX9_charge_1 rfl hl (by decide) rfl (fun ls hl => ?_)
  refine lv_aload_n hx hb dX9_charge_2 rfl (lv_at hl 1 rfl) ?_
  refine va_get hx hb hts hinX9 hown hK (hM.Pa hu1 rfl hC1) 0 rfl rfl 8 (by decide) (hk1) (fun _ h9 => h9) rfl dX9_charge_3 ?_
  refine lv_astore_n (lv' := [(2, .ref (ma 27 x)), (1, .int (nI 0)), (0, .ref (ma 26 x))]) hx hb dX9_charge_6 rfl hl (by decide) rfl (fun ls hl => ?_)
  refine lv_aload_n hx hb dX9_charge_7 rfl (lv_at hl 0 rfl) ?_
  refine va_alen hx hb hK (hM.Pa hu2 rfl hC2) 0 0 rfl rfl (v := nI 6) rfl dX9_charge_8 ?_
  refine lv_istore_n (lv' := [(3, .int (nI 6)), (2, .ref (ma 27 x)), (1, .int (nI 0)), (0, .ref (ma 26 x))]) hx hb dX9_charge_9 rfl hl (by decide) rfl (fun ls hl => ?_)
  refine lv_iconst (v := nI 0) hx hb dX9_charge_10 (by decide) ?_
  refine lv_istore (lv' := [(4, .int (nI 0)), (3, .int (nI 6)), (2, .ref (ma 27 x)), (1, .int (nI 0)), (0, .ref (ma 26 x))]) hx hb dX9_charge_11 hl (by decide) rfl (fun ls hl => ?_)
  refine zloopP (τ := Unit) (fun i _ ls => lv_has ls 6 [(1, .int (sumN a i)), (4, .int (nI i)), (3, .int (nI 6)), (2, .ref (ma 27 x)), (0, .ref (ma 26 x))]) 6 ?_ 0 () ls (Nat.zero_le _) (lv_sub hl [3, 0, 1, 2, 4] rfl)
  intro i _ ls hi_i hl ih_i
  have hl : lv_has ls 6 [(1, .int (sumN a i)), (4, .int (nI i)), (3, .int (nI 6)), (2, .ref (ma 27 x)), (0, .ref (ma 26 x))] := hl
  refine lv_iload hx hb dX9_charge_13 (lv_at hl 1 rfl) ?_
  refine lv_iload_n hx hb dX9_charge_15 rfl (lv_at hl 2 rfl) ?_
  refine lv_icmp_ge (tgt := 36) hx hb dX9_charge_16 (by decide) (fun c_1 => ?_) (fun c_1 => ?_)
  · have c_1 := zn_geT (a := i) (b := 6) (by omega) (by omega) c_1
    obtain rfl : i = 6 := by omega
    refine lv_iload_n hx hb dX9_charge_36 rfl (lv_at hl 0 rfl) ?_
    exact W.iret (v := sumN a 6) hx hb hr (fun t ht hW => ⟨_, rfl, rfl, ht⟩) (fun _ h => nomatch h) dX9_charge_37
  · have c_1 := zn_geF (a := i) (b := 6) (by omega) (by omega) c_1
    refine lv_aload_n hx hb dX9_charge_19 rfl (lv_at hl 3 rfl) ?_
    refine lv_iload hx hb dX9_charge_20 (lv_at hl 1 rfl) ?_
    refine zald hx hb hK (hM.Pa hu2 rfl hC2) 0 0 rfl rfl (i := i) (by omega) (by omega) dX9_charge_22 ?_
    refine lv_istore (lv' := [(5, .int ((row6 a 0) i)), (1, .int (sumN a i)), (4, .int (nI i)), (3, .int (nI 6)), (2, .ref (ma 27 x)), (0, .ref (ma 26 x))]) hx hb dX9_charge_23 hl (by decide) rfl (fun ls hl => ?_)
    refine lv_iload_n hx hb dX9_charge_25 rfl (lv_at hl 1 rfl) ?_
    refine lv_iload hx hb dX9_charge_26 (lv_at hl 0 rfl) ?_
    refine lv_iadd hx hb dX9_charge_28 ?_
    refine lv_istore_n (lv' := [(1, .int ((sumN a i) + ((row6 a 0) i))), (5, .int ((row6 a 0) i)), (4, .int (nI i)), (3, .int (nI 6)), (2, .ref (ma 27 x)), (0, .ref (ma 26 x))]) hx hb dX9_charge_29 rfl hl (by decide) rfl (fun ls hl => ?_)
    refine lv_iinc (v := nI (i + 1)) (lv' := [(4, .int (nI (i + 1))), (1, .int ((sumN a i) + ((row6 a 0) i))), (5, .int ((row6 a 0) i)), (3, .int (nI 6)), (2, .ref (ma 27 x)), (0, .ref (ma 26 x))]) hx hb dX9_charge_30 hl (k := 2) rfl (nI_add i 1) (by decide) rfl (fun ls hl => ?_)
    refine lv_goto (tgt := 13) hx hb dX9_charge_33 (by decide) ?_
    refine ih_i () ls (by omega) (show lv_has ls 6 [(1, .int (sumN a (i + 1))), (4, .int (nI (i + 1))), (3, .int (nI 6)), (2, .ref (ma 27 x)), (0, .ref (ma 26 x))] from ?_)
    rw [show sumN a (i + 1) = (sumN a i) + ((row6 a 0) i) from congrArg (fun z => (sumN a i) +  z) (show a i = ((row6 a 0) i) from by rw [row6_at (by omega), Nat.zero_add])]
    exact lv_sub hl [1, 0, 3, 4, 5] rfl
set_option maxHeartbeats 600000 in
set_option maxRecDepth 100000 in
theorem m_quote_x1 (l : Launch) (D : va_G) (ty : Nat → ClassId) (A : Nat → Prop) (u : Nat → Nat → Prop) (C : Nat → Nat → va_E) (ma : Nat → Nat → Nat) (t0 mi : Nat) (g : Nat → Nat → Int32) (n1 n2 nL n4 n5 : Nat) (th : Int32) (rep bro : Nat → Nat → Int32) (hR : mR ty t0 g n1 n2 nL n4 n5 th rep bro u C ma) (y x F rw0 : Int32) (h1 : (bRd y || bNo n1 x) = true) : Met l yX12_quote wsX12_quote ({ frames := 7, cells := 0, slots := 0, locals := 192 }) (va_Pc [.ref (ma 0 0), .int y, .int x, .int F, .int rw0] (mI D ty A u C ma t0 mi)) (va_Qi (fun (v9 : Int32) (C2 : Nat → Nat → va_E) => v9 = nI 0 ∧ mR ty t0 g n1 n2 nL n4 n5 (nI 1) rep bro u C2 ma) (fun C2 t => mI D ty A u C2 ma t0 mi t) A) 0 0 A := by
  refine zMet (cc := cX12_quote) (maxL := 5) (ret := (some .int)) (by decide) rfl (Nat.le_of_ble_eq_true rfl) ?_
  intro p e s m below meth c hx hb hr hts hown hlocks hml hB ls hl
  obtain ⟨hM, hK, hMS⟩ := hB
  have hS : va_S A s.heap s.heap [] := va_S.rf
  have hbn := hR.I.b1
  have hbs := hR.I.b2
  have hbl := hR.I.bL
  have hbc := hR.I.b4
  have hbr := hR.I.b5
  have hl : lv_has ls 5 [(0, .ref (ma 0 0)), (1, .int y), (2, .int x), (3, .int F), (4, .int rw0)] := hl
  refine lv_aload_n hx hb dX12_quote_0 rfl (lv_at hl 0 rfl) ?_
  refine lv_iload_n hx hb dX12_quote_1 rfl (lv_at hl 1 rfl) ?_
  refine zcSi (As := [.int y]) (rest := [.ref (ma 0 0)]) ⟨hx, hb, hml, hown, hts⟩ (c_X12_isNoReader l _ y) (cwS 1 hts gX12_quote_X12_isNoReader rfl rfl rfl (by decide +kernel) ⟨Nat.le_of_ble_eq_true rfl, Nat.le_of_ble_eq_true rfl⟩) (B := fun _ => True) (fun _ _ _ _ _ => trivial) (fun _ _ _ => trivial) rfl hl.1 rfl (Nat.le_of_ble_eq_true rfl) dX12_quote_2 ⟨Nat.le_of_ble_eq_true rfl, Nat.le_of_ble_eq_true rfl⟩ (fun r_1 hr_1 => ?_)
  subst hr_1
  refine lv_if_ne (tgt := 16) hx hb dX12_quote_5 (by decide) (fun c_2 => ?_) (fun c_2 => ?_)
  · have c_2 := bI_t c_2
    refine lv_iconst (v := nI 1) hx hb dX12_quote_16 (by decide) ?_
    refine zeq (show nI 1 = bI true from rfl) ?_
    refine lv_goto (tgt := 21) hx hb dX12_quote_17 (by decide) ?_
    refine lv_iconst (v := nI 1) hx hb dX12_quote_21 (by decide) ?_
    refine va_calli (va_runV (As := [.int (bI true), .int (nI 1)]) (rest := []) ⟨hx, hb, hml, hown, hts⟩ (c_X12_start_t l D ty A u C ma t0 mi g n1 n2 nL n4 n5 th rep bro hR 1 (by omega) (by omega)) (cwV 2 hts gX12_quote_X12_start rfl rfl rfl (by decide +kernel) ⟨Nat.le_of_ble_eq_true rfl, Nat.le_of_ble_eq_true rfl⟩) ⟨zBl mI_blind, (va_recv hK (hM.Pa hR.o.1 rfl hR.o.2) (ci := 13) (q0 := 0) rfl rfl), fun U h1 h2 => ⟨rfl, mI_pre hM hK hMS hS U h1 h2⟩⟩ rfl rfl hl.1 rfl (lv_room (Nat.le_of_ble_eq_true rfl)) dX12_quote_22 ⟨Nat.le_of_ble_eq_true rfl, Nat.le_of_ble_eq_true rfl⟩) hS (fun _ _ h => h) (fun _ h => h) (fun r_4 C_3 t H1 locs ht hvm hw hB9 hz1 hk1 hS => ?_)
    obtain ⟨hr_4, hR_5⟩ := hw
    obtain ⟨hM, -, -⟩ := hB9
    rw [ht] at hM
    clear hk1 hz1 hvm ht
    clear t
    generalize H1 = H at hM hS ⊢
    subst hr_4
    refine lv_if_ne (tgt := 62) hx hb dX12_quote_25 (by decide) (fun c_6 => ?_) (fun c_6 => ?_)
    · have c_6 := bI_t c_6
      refine lv_iconst (v := nI 0) hx hb dX12_quote_62 (by decide) ?_
      refine lv_goto (tgt := 79) hx hb dX12_quote_63 (by decide) ?_
      exact W.iret (v := nI 0) hx hb hr (fun t ht hW => ⟨⟨_, C_3, rfl, ⟨rfl, hR_5⟩, mI_pre hM hK hMS hS t ht hW⟩, hS.F ht⟩) hS.2.2 dX12_quote_79
    · have c_6 := bI_f c_6
      cases c_6
  · have c_2 := bI_f c_2
    refine lv_aload_n hx hb dX12_quote_8 rfl (lv_at hl 0 rfl) ?_
    refine lv_iload_n hx hb dX12_quote_9 rfl (lv_at hl 2 rfl) ?_
    refine zcVi (As := [.int x]) (rest := [.ref (ma 0 0)]) ⟨hx, hb, hml, hown, hts⟩ (c_X12_isNo l D ty A u C ma t0 mi g n1 n2 nL n4 n5 th rep bro hR x) (cwV 1 hts gX12_quote_X12_isNo rfl rfl rfl (by decide +kernel) ⟨Nat.le_of_ble_eq_true rfl, Nat.le_of_ble_eq_true rfl⟩) mI_blind (mI_pre hM hK hMS hS) (va_recv hK (hM.Pa hR.o.1 rfl hR.o.2) (ci := 13) (q0 := 0) rfl rfl) rfl hl.1 rfl (Nat.le_of_ble_eq_true rfl) dX12_quote_10 ⟨Nat.le_of_ble_eq_true rfl, Nat.le_of_ble_eq_true rfl⟩ (fun r_7 hr_7 => ?_)
    subst hr_7
    refine lv_if_eq (tgt := 20) hx hb dX12_quote_13 (by decide) (fun c_8 => ?_) (fun c_8 => ?_)
    · have c_8 := bI_f c_8
      simp only [c_2, c_8, Bool.not_true, Bool.not_false, Bool.and_true, Bool.true_and, Bool.and_false, Bool.false_and, Bool.or_true, Bool.true_or, Bool.or_false, Bool.false_or, Bool.and_self, Bool.or_self, Bool.true_eq_false, Bool.false_eq_true] at h1
    · have c_8 := bI_t c_8
      refine lv_iconst (v := nI 1) hx hb dX12_quote_16 (by decide) ?_
      refine zeq (show nI 1 = bI true from rfl) ?_
      refine lv_goto (tgt := 21) hx hb dX12_quote_17 (by decide) ?_
      refine lv_iconst (v := nI 1) hx hb dX12_quote_21 (by decide) ?_
      refine va_calli (va_runV (As := [.int (bI true), .int (nI 1)]) (rest := []) ⟨hx, hb, hml, hown, hts⟩ (c_X12_start_t l D ty A u C ma t0 mi g n1 n2 nL n4 n5 th rep bro hR 1 (by omega) (by omega)) (cwV 2 hts gX12_quote_X12_start rfl rfl rfl (by decide +kernel) ⟨Nat.le_of_ble_eq_true rfl, Nat.le_of_ble_eq_true rfl⟩) ⟨zBl mI_blind, (va_recv hK (hM.Pa hR.o.1 rfl hR.o.2) (ci := 13) (q0 := 0) rfl rfl), fun U h1 h2 => ⟨rfl, mI_pre hM hK hMS hS U h1 h2⟩⟩ rfl rfl hl.1 rfl (lv_room (Nat.le_of_ble_eq_true rfl)) dX12_quote_22 ⟨Nat.le_of_ble_eq_true rfl, Nat.le_of_ble_eq_true rfl⟩) hS (fun _ _ h => h) (fun _ h => h) (fun r_10 C_9 t H1 locs ht hvm hw hB9 hz1 hk1 hS => ?_)
      obtain ⟨hr_10, hR_11⟩ := hw
      obtain ⟨hM, -, -⟩ := hB9
      rw [ht] at hM
      clear hk1 hz1 hvm ht
      clear t
      generalize H1 = H at hM hS ⊢
      subst hr_10
      refine lv_if_ne (tgt := 62) hx hb dX12_quote_25 (by decide) (fun c_12 => ?_) (fun c_12 => ?_)
      · have c_12 := bI_t c_12
        refine lv_iconst (v := nI 0) hx hb dX12_quote_62 (by decide) ?_
        refine lv_goto (tgt := 79) hx hb dX12_quote_63 (by decide) ?_
        exact W.iret (v := nI 0) hx hb hr (fun t ht hW => ⟨⟨_, C_9, rfl, ⟨rfl, hR_11⟩, mI_pre hM hK hMS hS t ht hW⟩, hS.F ht⟩) hS.2.2 dX12_quote_79
      · have c_12 := bI_f c_12
        cases c_12
set_option maxHeartbeats 600000 in
set_option maxRecDepth 100000 in
theorem m_quote_x2 (l : Launch) (D : va_G) (ty : Nat → ClassId) (A : Nat → Prop) (u : Nat → Nat → Prop) (C : Nat → Nat → va_E) (ma : Nat → Nat → Nat) (t0 mi : Nat) (g : Nat → Nat → Int32) (n1 n2 nL n4 n5 : Nat) (th : Int32) (rep bro : Nat → Nat → Int32) (hR : mR ty t0 g n1 n2 nL n4 n5 th rep bro u C ma) (R i : Nat) (hr6 : R < 6) (hi : i < n1) (F rw0 : Int32) (h2 : (bFds g i F || !inB rw0 (nI 1) (nI 9999)) = true) : Met l yX12_quote wsX12_quote ({ frames := 7, cells := 0, slots := 0, locals := 192 }) (va_Pc [.ref (ma 0 0), .int (nI R), .int (nI i), .int F, .int rw0] (mI D ty A u C ma t0 mi)) (va_Qi (fun (v9 : Int32) (C2 : Nat → Nat → va_E) => v9 = nI 0 ∧ mR ty t0 g n1 n2 nL n4 n5 (nI 2) rep bro u C2 ma) (fun C2 t => mI D ty A u C2 ma t0 mi t) A) 0 0 A := by
  refine zMet (cc := cX12_quote) (maxL := 5) (ret := (some .int)) (by decide) rfl (Nat.le_of_ble_eq_true rfl) ?_
  intro p e s m below meth c hx hb hr hts hown hlocks hml hB ls hl
  obtain ⟨hM, hK, hMS⟩ := hB
  have hS : va_S A s.heap s.heap [] := va_S.rf
  have hbn := hR.I.b1
  have hbs := hR.I.b2
  have hbl := hR.I.bL
  have hbc := hR.I.b4
  have hbr := hR.I.b5
  have h1 : (bRd (nI R) || bNo n1 (nI i)) = false := by rw [bRd_ok hr6, bNo_ok hR.I.b1 hi]; rfl
  have hl : lv_has ls 5 [(0, .ref (ma 0 0)), (1, .int (nI R)), (2, .int (nI i)), (3, .int F), (4, .int rw0)] := hl
  refine lv_aload_n hx hb dX12_quote_0 rfl (lv_at hl 0 rfl) ?_
  refine lv_iload_n hx hb dX12_quote_1 rfl (lv_at hl 1 rfl) ?_
  refine zcSi (As := [.int (nI R)]) (rest := [.ref (ma 0 0)]) ⟨hx, hb, hml, hown, hts⟩ (c_X12_isNoReader l _ (nI R)) (cwS 1 hts gX12_quote_X12_isNoReader rfl rfl rfl (by decide +kernel) ⟨Nat.le_of_ble_eq_true rfl, Nat.le_of_ble_eq_true rfl⟩) (B := fun _ => True) (fun _ _ _ _ _ => trivial) (fun _ _ _ => trivial) rfl hl.1 rfl (Nat.le_of_ble_eq_true rfl) dX12_quote_2 ⟨Nat.le_of_ble_eq_true rfl, Nat.le_of_ble_eq_true rfl⟩ (fun r_1 hr_1 => ?_)
  subst hr_1
  refine lv_if_ne (tgt := 16) hx hb dX12_quote_5 (by decide) (fun c_2 => ?_) (fun c_2 => ?_)
  · have c_2 := bI_t c_2
    simp only [c_2, Bool.not_true, Bool.not_false, Bool.and_true, Bool.true_and, Bool.and_false, Bool.false_and, Bool.or_true, Bool.true_or, Bool.or_false, Bool.false_or, Bool.and_self, Bool.or_self, Bool.true_eq_false, Bool.false_eq_true] at h1
  · have c_2 := bI_f c_2
    refine lv_aload_n hx hb dX12_quote_8 rfl (lv_at hl 0 rfl) ?_
    refine lv_iload_n hx hb dX12_quote_9 rfl (lv_at hl 2 rfl) ?_
    refine zcVi (As := [.int (nI i)]) (rest := [.ref (ma 0 0)]) ⟨hx, hb, hml, hown, hts⟩ (c_X12_isNo l D ty A u C ma t0 mi g n1 n2 nL n4 n5 th rep bro hR (nI i)) (cwV 1 hts gX12_quote_X12_isNo rfl rfl rfl (by decide +kernel) ⟨Nat.le_of_ble_eq_true rfl, Nat.le_of_ble_eq_true rfl⟩) mI_blind (mI_pre hM hK hMS hS) (va_recv hK (hM.Pa hR.o.1 rfl hR.o.2) (ci := 13) (q0 := 0) rfl rfl) rfl hl.1 rfl (Nat.le_of_ble_eq_true rfl) dX12_quote_10 ⟨Nat.le_of_ble_eq_true rfl, Nat.le_of_ble_eq_true rfl⟩ (fun r_3 hr_3 => ?_)
    subst hr_3
    refine lv_if_eq (tgt := 20) hx hb dX12_quote_13 (by decide) (fun c_4 => ?_) (fun c_4 => ?_)
    · have c_4 := bI_f c_4
      refine lv_iconst (v := nI 0) hx hb dX12_quote_20 (by decide) ?_
      refine zeq (show nI 0 = bI false from rfl) ?_
      refine lv_iconst (v := nI 1) hx hb dX12_quote_21 (by decide) ?_
      refine va_calli (va_runV (As := [.int (bI false), .int (nI 1)]) (rest := []) ⟨hx, hb, hml, hown, hts⟩ (c_X12_start_f l D ty A u C ma t0 mi g n1 n2 nL n4 n5 th rep bro hR 1 (by omega) (by omega)) (cwV 2 hts gX12_quote_X12_start rfl rfl rfl (by decide +kernel) ⟨Nat.le_of_ble_eq_true rfl, Nat.le_of_ble_eq_true rfl⟩) ⟨zBl mI_blind, (va_recv hK (hM.Pa hR.o.1 rfl hR.o.2) (ci := 13) (q0 := 0) rfl rfl), fun U h1 h2 => ⟨rfl, mI_pre hM hK hMS hS U h1 h2⟩⟩ rfl rfl hl.1 rfl (lv_room (Nat.le_of_ble_eq_true rfl)) dX12_quote_22 ⟨Nat.le_of_ble_eq_true rfl, Nat.le_of_ble_eq_true rfl⟩) hS (fun _ _ h => h) (fun _ h => h) (fun r_6 C_5 t H1 locs ht hvm hw hB9 hz1 hk1 hS => ?_)
      obtain ⟨hr_6, hR_7⟩ := hw
      obtain ⟨hM, -, -⟩ := hB9
      rw [ht] at hM
      clear hk1 hz1 hvm ht
      clear t
      generalize H1 = H at hM hS ⊢
      subst hr_6
      refine lv_if_ne (tgt := 62) hx hb dX12_quote_25 (by decide) (fun c_8 => ?_) (fun c_8 => ?_)
      · have c_8 := bI_t c_8
        cases c_8
      · have c_8 := bI_f c_8
        refine lv_aload_n hx hb dX12_quote_28 rfl (lv_at hl 0 rfl) ?_
        refine lv_aload_n hx hb dX12_quote_29 rfl (lv_at hl 0 rfl) ?_
        refine lv_iload_n hx hb dX12_quote_30 rfl (lv_at hl 2 rfl) ?_
        refine lv_iload_n hx hb dX12_quote_31 rfl (lv_at hl 3 rfl) ?_
        refine zcVi (As := [.int (nI i), .int F]) (rest := [.ref (ma 0 0)]) ⟨hx, hb, hml, hown, hts⟩ (c_X12_isNoFields l D ty A u C_5 ma t0 mi g n1 n2 nL n4 n5 (nI 0) rep bro hR_7 i (by omega) F) (cwV 2 hts gX12_quote_X12_isNoFields rfl rfl rfl (by decide +kernel) ⟨Nat.le_of_ble_eq_true rfl, Nat.le_of_ble_eq_true rfl⟩) mI_blind (mI_pre hM hK hMS hS) (va_recv hK (hM.Pa hR_7.o.1 rfl hR_7.o.2) (ci := 13) (q0 := 0) rfl rfl) rfl hl.1 rfl (Nat.le_of_ble_eq_true rfl) dX12_quote_32 ⟨Nat.le_of_ble_eq_true rfl, Nat.le_of_ble_eq_true rfl⟩ (fun r_9 hr_9 => ?_)
        subst hr_9
        refine lv_if_ne (tgt := 50) hx hb dX12_quote_35 (by decide) (fun c_10 => ?_) (fun c_10 => ?_)
        · have c_10 := bI_t c_10
          refine lv_iconst (v := nI 1) hx hb dX12_quote_50 (by decide) ?_
          refine zeq (show nI 1 = bI true from rfl) ?_
          refine lv_goto (tgt := 55) hx hb dX12_quote_51 (by decide) ?_
          refine lv_iconst (v := nI 2) hx hb dX12_quote_55 (by decide) ?_
          refine va_calli (va_runV (As := [.int (bI true), .int (nI 2)]) (rest := []) ⟨hx, hb, hml, hown, hts⟩ (c_X12_refuse_t l D ty A u C_5 ma t0 mi g n1 n2 nL n4 n5 (nI 0) rep bro hR_7 rfl 2 (by omega) (by omega)) (cwV 2 hts gX12_quote_X12_refuse rfl rfl rfl (by decide +kernel) ⟨Nat.le_of_ble_eq_true rfl, Nat.le_of_ble_eq_true rfl⟩) ⟨zBl mI_blind, (va_recv hK (hM.Pa hR_7.o.1 rfl hR_7.o.2) (ci := 13) (q0 := 0) rfl rfl), fun U h1 h2 => ⟨rfl, mI_pre hM hK hMS hS U h1 h2⟩⟩ rfl rfl hl.1 rfl (lv_room (Nat.le_of_ble_eq_true rfl)) dX12_quote_56 ⟨Nat.le_of_ble_eq_true rfl, Nat.le_of_ble_eq_true rfl⟩) hS (fun _ _ h => h) (fun _ h => h) (fun r_12 C_11 t H1 locs ht hvm hw hB9 hz1 hk1 hS => ?_)
          obtain ⟨hr_12, hR_13⟩ := hw
          obtain ⟨hM, -, -⟩ := hB9
          rw [ht] at hM
          clear hk1 hz1 hvm ht
          clear t
          generalize H1 = H at hM hS ⊢
          subst hr_12
          refine lv_if_eq (tgt := 66) hx hb dX12_quote_59 (by decide) (fun c_14 => ?_) (fun c_14 => ?_)
          · have c_14 := bI_f c_14
            cases c_14
          · have c_14 := bI_t c_14
            refine lv_iconst (v := nI 0) hx hb dX12_quote_62 (by decide) ?_
            refine lv_goto (tgt := 79) hx hb dX12_quote_63 (by decide) ?_
            exact W.iret (v := nI 0) hx hb hr (fun t ht hW => ⟨⟨_, C_11, rfl, ⟨rfl, hR_13⟩, mI_pre hM hK hMS hS t ht hW⟩, hS.F ht⟩) hS.2.2 dX12_quote_79
        · have c_10 := bI_f c_10
          refine lv_iload hx hb dX12_quote_38 (lv_at hl 4 rfl) ?_
          refine lv_iconst (v := nI 1) hx hb dX12_quote_40 (by decide) ?_
          refine lv_sipush (v := nI 9999) hx hb dX12_quote_41 (by decide) ?_
          refine zcSi (As := [.int rw0, .int (nI 1), .int (nI 9999)]) (rest := [.ref (ma 0 0)]) ⟨hx, hb, hml, hown, hts⟩ (c_X12_isIn l _ rw0 (nI 1) (nI 9999)) (cwS 3 hts gX12_quote_X12_isIn rfl rfl rfl (by decide +kernel) ⟨Nat.le_of_ble_eq_true rfl, Nat.le_of_ble_eq_true rfl⟩) (B := fun _ => True) (fun _ _ _ _ _ => trivial) (fun _ _ _ => trivial) rfl hl.1 rfl (Nat.le_of_ble_eq_true rfl) dX12_quote_44 ⟨Nat.le_of_ble_eq_true rfl, Nat.le_of_ble_eq_true rfl⟩ (fun r_15 hr_15 => ?_)
          subst hr_15
          refine lv_if_ne (tgt := 54) hx hb dX12_quote_47 (by decide) (fun c_16 => ?_) (fun c_16 => ?_)
          · have c_16 := bI_t c_16
            simp only [c_2, c_4, c_8, c_10, c_16, Bool.not_true, Bool.not_false, Bool.and_true, Bool.true_and, Bool.and_false, Bool.false_and, Bool.or_true, Bool.true_or, Bool.or_false, Bool.false_or, Bool.and_self, Bool.or_self, Bool.true_eq_false, Bool.false_eq_true] at h2
          · have c_16 := bI_f c_16
            refine lv_iconst (v := nI 1) hx hb dX12_quote_50 (by decide) ?_
            refine zeq (show nI 1 = bI true from rfl) ?_
            refine lv_goto (tgt := 55) hx hb dX12_quote_51 (by decide) ?_
            refine lv_iconst (v := nI 2) hx hb dX12_quote_55 (by decide) ?_
            refine va_calli (va_runV (As := [.int (bI true), .int (nI 2)]) (rest := []) ⟨hx, hb, hml, hown, hts⟩ (c_X12_refuse_t l D ty A u C_5 ma t0 mi g n1 n2 nL n4 n5 (nI 0) rep bro hR_7 rfl 2 (by omega) (by omega)) (cwV 2 hts gX12_quote_X12_refuse rfl rfl rfl (by decide +kernel) ⟨Nat.le_of_ble_eq_true rfl, Nat.le_of_ble_eq_true rfl⟩) ⟨zBl mI_blind, (va_recv hK (hM.Pa hR_7.o.1 rfl hR_7.o.2) (ci := 13) (q0 := 0) rfl rfl), fun U h1 h2 => ⟨rfl, mI_pre hM hK hMS hS U h1 h2⟩⟩ rfl rfl hl.1 rfl (lv_room (Nat.le_of_ble_eq_true rfl)) dX12_quote_56 ⟨Nat.le_of_ble_eq_true rfl, Nat.le_of_ble_eq_true rfl⟩) hS (fun _ _ h => h) (fun _ h => h) (fun r_18 C_17 t H1 locs ht hvm hw hB9 hz1 hk1 hS => ?_)
            obtain ⟨hr_18, hR_19⟩ := hw
            obtain ⟨hM, -, -⟩ := hB9
            rw [ht] at hM
            clear hk1 hz1 hvm ht
            clear t
            generalize H1 = H at hM hS ⊢
            subst hr_18
            refine lv_if_eq (tgt := 66) hx hb dX12_quote_59 (by decide) (fun c_20 => ?_) (fun c_20 => ?_)
            · have c_20 := bI_f c_20
              cases c_20
            · have c_20 := bI_t c_20
              refine lv_iconst (v := nI 0) hx hb dX12_quote_62 (by decide) ?_
              refine lv_goto (tgt := 79) hx hb dX12_quote_63 (by decide) ?_
              exact W.iret (v := nI 0) hx hb hr (fun t ht hW => ⟨⟨_, C_17, rfl, ⟨rfl, hR_19⟩, mI_pre hM hK hMS hS t ht hW⟩, hS.F ht⟩) hS.2.2 dX12_quote_79
    · have c_4 := bI_t c_4
      simp only [c_2, c_4, Bool.not_true, Bool.not_false, Bool.and_true, Bool.true_and, Bool.and_false, Bool.false_and, Bool.or_true, Bool.true_or, Bool.or_false, Bool.false_or, Bool.and_self, Bool.or_self, Bool.true_eq_false, Bool.false_eq_true] at h1
set_option maxHeartbeats 1000000 in
set_option maxRecDepth 100000 in
theorem m_quote (l : Launch) (D : va_G) (ty : Nat → ClassId) (A : Nat → Prop) (u : Nat → Nat → Prop) (C : Nat → Nat → va_E) (ma : Nat → Nat → Nat) (t0 mi : Nat) (g : Nat → Nat → Int32) (n1 n2 nL n4 n5 : Nat) (th : Int32) (rep bro : Nat → Nat → Int32) (hR : mR ty t0 g n1 n2 nL n4 n5 th rep bro u C ma) (R i : Nat) (hr6 : R < 6) (hi : i < n1) (F rw0 : Int32) (h2 : (bFds g i F || !inB rw0 (nI 1) (nI 9999)) = false) : Met l yX12_quote wsX12_quote ({ frames := 7, cells := 2, slots := 16, locals := 192 }) (va_Pc [.ref (ma 0 0), .int (nI R), .int (nI i), .int F, .int rw0] (mI D ty A u C ma t0 mi)) (va_Qi (fun (v9 : Int32) (S : mSt) => v9 = sumN (mdF g i F rw0 (tierN (sumN (fUn g (nI R) (g 0 0)) n5))) 6 ∧ S.2.2 0 0 = ma 0 0 ∧ mR ty t0 g n1 n2 nL n4 n5 (nI 0) rep bro S.1 S.2.1 S.2.2) (fun S t => mI D ty A S.1 S.2.1 S.2.2 t0 mi t) A) 2 16 A := by
  refine zMet (cc := cX12_quote) (maxL := 5) (ret := (some .int)) (by decide) rfl (Nat.le_of_ble_eq_true rfl) ?_
  intro p e s m below meth c hx hb hr hts hown hlocks hml hB ls hl
  obtain ⟨hM, hK, hMS⟩ := hB
  have hS : va_S A s.heap s.heap [] := va_S.rf
  have hbn := hR.I.b1
  have hbs := hR.I.b2
  have hbl := hR.I.bL
  have hbc := hR.I.b4
  have hbr := hR.I.b5
  have h1 : (bRd (nI R) || bNo n1 (nI i)) = false := by rw [bRd_ok hr6, bNo_ok hR.I.b1 hi]; rfl
  have hl : lv_has ls 5 [(0, .ref (ma 0 0)), (1, .int (nI R)), (2, .int (nI i)), (3, .int F), (4, .int rw0)] := hl
  refine lv_aload_n hx hb dX12_quote_0 rfl (lv_at hl 0 rfl) ?_
  refine lv_iload_n hx hb dX12_quote_1 rfl (lv_at hl 1 rfl) ?_
  refine zcSi (As := [.int (nI R)]) (rest := [.ref (ma 0 0)]) ⟨hx, hb, hml, hown, hts⟩ (c_X12_isNoReader l _ (nI R)) (cwS 1 hts gX12_quote_X12_isNoReader rfl rfl rfl (by decide +kernel) ⟨Nat.le_of_ble_eq_true rfl, Nat.le_of_ble_eq_true rfl⟩) (B := fun _ => True) (fun _ _ _ _ _ => trivial) (fun _ _ _ => trivial) rfl hl.1 rfl (Nat.le_of_ble_eq_true rfl) dX12_quote_2 ⟨Nat.le_of_ble_eq_true rfl, Nat.le_of_ble_eq_true rfl⟩ (fun r_1 hr_1 => ?_)
  subst hr_1
  refine lv_if_ne (tgt := 16) hx hb dX12_quote_5 (by decide) (fun c_2 => ?_) (fun c_2 => ?_)
  · have c_2 := bI_t c_2
    simp only [c_2, Bool.not_true, Bool.not_false, Bool.and_true, Bool.true_and, Bool.and_false, Bool.false_and, Bool.or_true, Bool.true_or, Bool.or_false, Bool.false_or, Bool.and_self, Bool.or_self, Bool.true_eq_false, Bool.false_eq_true] at h1
  · have c_2 := bI_f c_2
    refine lv_aload_n hx hb dX12_quote_8 rfl (lv_at hl 0 rfl) ?_
    refine lv_iload_n hx hb dX12_quote_9 rfl (lv_at hl 2 rfl) ?_
    refine zcVi (As := [.int (nI i)]) (rest := [.ref (ma 0 0)]) ⟨hx, hb, hml, hown, hts⟩ (c_X12_isNo l D ty A u C ma t0 mi g n1 n2 nL n4 n5 th rep bro hR (nI i)) (cwV 1 hts gX12_quote_X12_isNo rfl rfl rfl (by decide +kernel) ⟨Nat.le_of_ble_eq_true rfl, Nat.le_of_ble_eq_true rfl⟩) mI_blind (mI_pre hM hK hMS hS) (va_recv hK (hM.Pa hR.o.1 rfl hR.o.2) (ci := 13) (q0 := 0) rfl rfl) rfl hl.1 rfl (Nat.le_of_ble_eq_true rfl) dX12_quote_10 ⟨Nat.le_of_ble_eq_true rfl, Nat.le_of_ble_eq_true rfl⟩ (fun r_3 hr_3 => ?_)
    subst hr_3
    refine lv_if_eq (tgt := 20) hx hb dX12_quote_13 (by decide) (fun c_4 => ?_) (fun c_4 => ?_)
    · have c_4 := bI_f c_4
      refine lv_iconst (v := nI 0) hx hb dX12_quote_20 (by decide) ?_
      refine zeq (show nI 0 = bI false from rfl) ?_
      refine lv_iconst (v := nI 1) hx hb dX12_quote_21 (by decide) ?_
      refine va_calli (va_runV (As := [.int (bI false), .int (nI 1)]) (rest := []) ⟨hx, hb, hml, hown, hts⟩ (c_X12_start_f l D ty A u C ma t0 mi g n1 n2 nL n4 n5 th rep bro hR 1 (by omega) (by omega)) (cwV 2 hts gX12_quote_X12_start rfl rfl rfl (by decide +kernel) ⟨Nat.le_of_ble_eq_true rfl, Nat.le_of_ble_eq_true rfl⟩) ⟨zBl mI_blind, (va_recv hK (hM.Pa hR.o.1 rfl hR.o.2) (ci := 13) (q0 := 0) rfl rfl), fun U h1 h2 => ⟨rfl, mI_pre hM hK hMS hS U h1 h2⟩⟩ rfl rfl hl.1 rfl (lv_room (Nat.le_of_ble_eq_true rfl)) dX12_quote_22 ⟨Nat.le_of_ble_eq_true rfl, Nat.le_of_ble_eq_true rfl⟩) hS (fun _ _ h => h) (fun _ h => h) (fun r_6 C_5 t H1 locs ht hvm hw hB9 hz1 hk1 hS => ?_)
      obtain ⟨hr_6, hR_7⟩ := hw
      obtain ⟨hM, -, -⟩ := hB9
      rw [ht] at hM
      clear hk1 hz1 hvm ht
      clear t
      generalize H1 = H at hM hS ⊢
      subst hr_6
      refine lv_if_ne (tgt := 62) hx hb dX12_quote_25 (by decide) (fun c_8 => ?_) (fun c_8 => ?_)
      · have c_8 := bI_t c_8
        cases c_8
      · have c_8 := bI_f c_8
        refine lv_aload_n hx hb dX12_quote_28 rfl (lv_at hl 0 rfl) ?_
        refine lv_aload_n hx hb dX12_quote_29 rfl (lv_at hl 0 rfl) ?_
        refine lv_iload_n hx hb dX12_quote_30 rfl (lv_at hl 2 rfl) ?_
        refine lv_iload_n hx hb dX12_quote_31 rfl (lv_at hl 3 rfl) ?_
        refine zcVi (As := [.int (nI i), .int F]) (rest := [.ref (ma 0 0)]) ⟨hx, hb, hml, hown, hts⟩ (c_X12_isNoFields l D ty A u C_5 ma t0 mi g n1 n2 nL n4 n5 (nI 0) rep bro hR_7 i (by omega) F) (cwV 2 hts gX12_quote_X12_isNoFields rfl rfl rfl (by decide +kernel) ⟨Nat.le_of_ble_eq_true rfl, Nat.le_of_ble_eq_true rfl⟩) mI_blind (mI_pre hM hK hMS hS) (va_recv hK (hM.Pa hR_7.o.1 rfl hR_7.o.2) (ci := 13) (q0 := 0) rfl rfl) rfl hl.1 rfl (Nat.le_of_ble_eq_true rfl) dX12_quote_32 ⟨Nat.le_of_ble_eq_true rfl, Nat.le_of_ble_eq_true rfl⟩ (fun r_9 hr_9 => ?_)
        subst hr_9
        refine lv_if_ne (tgt := 50) hx hb dX12_quote_35 (by decide) (fun c_10 => ?_) (fun c_10 => ?_)
        · have c_10 := bI_t c_10
          simp only [c_2, c_4, c_8, c_10, Bool.not_true, Bool.not_false, Bool.and_true, Bool.true_and, Bool.and_false, Bool.false_and, Bool.or_true, Bool.true_or, Bool.or_false, Bool.false_or, Bool.and_self, Bool.or_self, Bool.true_eq_false, Bool.false_eq_true] at h2
        · have c_10 := bI_f c_10
          refine lv_iload hx hb dX12_quote_38 (lv_at hl 4 rfl) ?_
          refine lv_iconst (v := nI 1) hx hb dX12_quote_40 (by decide) ?_
          refine lv_sipush (v := nI 9999) hx hb dX12_quote_41 (by decide) ?_
          refine zcSi (As := [.int rw0, .int (nI 1), .int (nI 9999)]) (rest := [.ref (ma 0 0)]) ⟨hx, hb, hml, hown, hts⟩ (c_X12_isIn l _ rw0 (nI 1) (nI 9999)) (cwS 3 hts gX12_quote_X12_isIn rfl rfl rfl (by decide +kernel) ⟨Nat.le_of_ble_eq_true rfl, Nat.le_of_ble_eq_true rfl⟩) (B := fun _ => True) (fun _ _ _ _ _ => trivial) (fun _ _ _ => trivial) rfl hl.1 rfl (Nat.le_of_ble_eq_true rfl) dX12_quote_44 ⟨Nat.le_of_ble_eq_true rfl, Nat.le_of_ble_eq_true rfl⟩ (fun r_11 hr_11 => ?_)
          subst hr_11
          refine lv_if_ne (tgt := 54) hx hb dX12_quote_47 (by decide) (fun c_12 => ?_) (fun c_12 => ?_)
          · have c_12 := bI_t c_12
            refine lv_iconst (v := nI 0) hx hb dX12_quote_54 (by decide) ?_
            refine zeq (show nI 0 = bI false from rfl) ?_
            refine lv_iconst (v := nI 2) hx hb dX12_quote_55 (by decide) ?_
            refine zcVi (As := [.int (bI false), .int (nI 2)]) (rest := []) ⟨hx, hb, hml, hown, hts⟩ (c_X12_refuse_f l D ty A u C_5 ma t0 mi g n1 n2 nL n4 n5 (nI 0) rep bro hR_7 rfl (nI 2)) (cwV 2 hts gX12_quote_X12_refuse rfl rfl rfl (by decide +kernel) ⟨Nat.le_of_ble_eq_true rfl, Nat.le_of_ble_eq_true rfl⟩) mI_blind (mI_pre hM hK hMS hS) (va_recv hK (hM.Pa hR_7.o.1 rfl hR_7.o.2) (ci := 13) (q0 := 0) rfl rfl) rfl hl.1 rfl (Nat.le_of_ble_eq_true rfl) dX12_quote_56 ⟨Nat.le_of_ble_eq_true rfl, Nat.le_of_ble_eq_true rfl⟩ (fun r_13 hr_13 => ?_)
            subst hr_13
            refine lv_if_eq (tgt := 66) hx hb dX12_quote_59 (by decide) (fun c_14 => ?_) (fun c_14 => ?_)
            · have c_14 := bI_f c_14
              refine lv_aload_n hx hb dX12_quote_66 rfl (lv_at hl 0 rfl) ?_
              refine lv_iload_n hx hb dX12_quote_67 rfl (lv_at hl 1 rfl) ?_
              refine lv_iload_n hx hb dX12_quote_68 rfl (lv_at hl 2 rfl) ?_
              refine lv_iload_n hx hb dX12_quote_69 rfl (lv_at hl 3 rfl) ?_
              refine lv_iload hx hb dX12_quote_70 (lv_at hl 4 rfl) ?_
              refine lv_iconst (v := nI 0) hx hb dX12_quote_72 (by decide) ?_
              refine va_callr (va_runV (As := [.int (nI R), .int (nI i), .int F, .int rw0, .int (nI 0)]) (rest := []) ⟨hx, hb, hml, hown, hts⟩ (c_X12_made l D ty A u C_5 ma t0 mi g n1 n2 nL n4 n5 (nI 0) rep bro hR_7 R i 0 hr6 hi (by omega) (by have := hR.I.b5; omega) F rw0) (cwV 5 hts gX12_quote_X12_made rfl rfl rfl (by decide +kernel) ⟨Nat.le_of_ble_eq_true rfl, Nat.le_of_ble_eq_true rfl⟩) ⟨zBl mI_blind, (va_recv hK (hM.Pa hR_7.o.1 rfl hR_7.o.2) (ci := 13) (q0 := 0) rfl rfl), fun U h1 h2 => ⟨rfl, mI_pre hM hK hMS hS U h1 h2⟩⟩ rfl rfl hl.1 rfl (lv_room (Nat.le_of_ble_eq_true rfl)) dX12_quote_73 ⟨Nat.le_of_ble_eq_true rfl, Nat.le_of_ble_eq_true rfl⟩) hS (fun _ _ h => h) (fun _ h => h) (fun S_15 q_16 t H1 locs ht hvm hw hB9 hz1 hk1 hS => ?_)
              obtain ⟨ha_26, hM, -, -⟩ := hB9
              rw [ht] at hM
              clear hk1 hz1 hvm ht
              clear t
              generalize H1 = H at hM hS ⊢
              obtain ⟨u_17, C_18, ma_19⟩ := S_15
              obtain ⟨hg_21, hR_20, hu_22, hC_23, hu_24, hC_25⟩ := hw
              have hM : mW D A u_17 C_18 ma_19 H := hM
              have hg_21 : ∀ k9 x9, mU g n1 n2 nL n4 n5 k9 x9 → (k9 ≠ 2 ∧ k9 ≠ 4 ∧ k9 ≠ 6 ∧ k9 ≠ 8) → ma_19 k9 x9 = ma k9 x9 := hg_21
              have hR_20 : mR ty t0 g n1 n2 nL n4 n5 (nI 0) rep bro u_17 C_18 ma_19 := hR_20
              have hC_23 : C_18 26 n5 = eO 10 [.int (nI R), .int (nI i), .int (nI (nV g i) - nI 1), .int F, .int rw0, .int (g 0 0), .int (nI 0), .int (tierN (sumN (fUn g (nI R) (g 0 0)) n5)), .ref (ma_19 27 n5), .int 0] := hC_23
              have hC_25 : C_18 27 n5 = eI (ty 0) 6 (row6 (mdF g i F rw0 (tierN (sumN (fUn g (nI R) (g 0 0)) n5))) 0) := hC_25
              have ha_26 : ma_19 26 n5 = q_16 := ha_26.symm
              have h_27 := c_charge0 l D ty A u_17 C_18 ma_19 t0 mi g n1 n2 nL n4 n5 (nI 0) rep bro hR_20 n5 (mdF g i F rw0 (tierN (sumN (fUn g (nI R) (g 0 0)) n5))) _ _ _ _ _ _ _ _ _ hu_22 hC_23 hu_24 hC_25
              first | dsimp only at h_27 | skip
              rw [(show ma_19 26 n5 = q_16 from ha_26)] at h_27
              refine zcVi (As := []) (rest := []) ⟨hx, hb, hml, hown, hts⟩ (h_27) (cwV 0 hts gX12_quote_X9_charge rfl rfl rfl (by decide +kernel) ⟨Nat.le_of_ble_eq_true rfl, Nat.le_of_ble_eq_true rfl⟩) mI_blind (mI_pre hM hK hMS hS) (va_recv hK (hM.Pa hu_22 ha_26 hC_23) (ci := 10) (q0 := 0) rfl rfl) rfl hl.1 rfl (Nat.le_of_ble_eq_true rfl) dX12_quote_76 ⟨Nat.le_of_ble_eq_true rfl, Nat.le_of_ble_eq_true rfl⟩ (fun r_28 hr_28 => ?_)
              subst hr_28
              refine W.widen (k := 2) (n := 16) (by omega) (by omega) ?_
              exact W.iret (v := sumN (mdF g i F rw0 (tierN (sumN (fUn g (nI R) (g 0 0)) n5))) 6) hx hb hr (fun t ht hW => ⟨⟨_, (u_17, C_18, ma_19), rfl, ⟨rfl, (hg_21 0 0 (by unfold mU; omega) (by decide)), hR_20⟩, mI_pre hM hK hMS hS t ht hW⟩, hS.F ht⟩) hS.2.2 dX12_quote_79
            · have c_14 := bI_t c_14
              cases c_14
          · have c_12 := bI_f c_12
            simp only [c_2, c_4, c_8, c_10, c_12, Bool.not_true, Bool.not_false, Bool.and_true, Bool.true_and, Bool.and_false, Bool.false_and, Bool.or_true, Bool.true_or, Bool.or_false, Bool.false_or, Bool.and_self, Bool.or_self, Bool.true_eq_false, Bool.false_eq_true] at h2
    · have c_4 := bI_t c_4
      simp only [c_2, c_4, Bool.not_true, Bool.not_false, Bool.and_true, Bool.true_and, Bool.and_false, Bool.false_and, Bool.or_true, Bool.true_or, Bool.or_false, Bool.false_or, Bool.and_self, Bool.or_self, Bool.true_eq_false, Bool.false_eq_true] at h1
