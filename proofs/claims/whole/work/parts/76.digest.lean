section ZSL
variable {p : Program} {l : Launch} {e : Env} {R : Room} {s : State} {m : MethodId} {args : Array Value} {below : List Frame} {meth : Method} {c : Code} {H : Heap} {locs : List Loc} {cells slots : Nat} {Q : State → Prop}
variable {y : MethodName} {bytes cc : ByteArray} {maxL nL n index pc : Nat} {ret : Option FieldType} {ws : List Cond} {rm : Room} {Ts : List Cond} {own : String} {As rest st0 : List Value} {ls : Array Slot} {B : State → Prop}
theorem zcSl {post : Int64 → Prop} (S : CallFix p m c cc nL s args Ts own) (hM : Met l y ws rm (va_Pc As B) (vp_Sl post) 0 0 (fun _ => False)) (cw : (CallB R s args own index y bytes maxL ret ws rm 0 0 n ∧ (Cond.static y).before args s = true)) (hbl : ∀ (a : Array Value) (U : State) (f : JFrame) (mk : MethodId), B U → B (U.calling f mk a)) (hB : ∀ U : State, U.heap = H → s.WarmedH U.vm → B U) (hn : As.length = n) (hsz : ls.size = nL) (hst : st0 = As.reverse ++ rest) (hW : (rest.map fun v => v.category).sum ≤ 8) (hdg : decode cc pc = .ok (.invokestatic index, 3)) (hc : cells ≤ R.cells ∧ slots ≤ R.slots)
    (kk : ∀ r : Int64, post r → W p l e R s m args below meth c H locs cells slots Q (F0 m (pc + 3) ls (.long r :: rest))) : W p l e R s m args below meth c H locs cells slots Q (F0 m pc ls st0) :=
  vp_callSl (W.runS S hM cw ⟨zBl hbl, fun U h1 h2 => ⟨rfl, hB U h1 h2⟩⟩ rfl hn hsz hst (lv_room hW) hdg hc) kk
end ZSL
set_option maxHeartbeats 4000000 in
set_option maxRecDepth 100000 in
theorem c_X12_add (l : Launch) (B : State → Prop) (d v : Int64) : Met l yX12_add wsX12_add ({ frames := 0, cells := 0, slots := 0, locals := 0 }) (va_Pc [.long d, .long v] (B)) (vp_Sl (fun v_ => v_ = d * 31 + v)) 0 0 (fun _ => False) := by
  refine zMet (cc := cX12_add) (maxL := 4) (ret := (some .long)) (by decide) rfl (Nat.le_of_ble_eq_true rfl) ?_
  intro p e s m below meth c hx hb hr hts hown hlocks hml hB ls hl
  have hl : lv_has ls 4 [(0, .long d), (2, .long v)] := hl
  refine lv_lload_n hx hb dX12_add_0 rfl (lv_at hl 0 rfl) ?_
  refine lv_ldc2 (v := 31) hx hb hown (hts (.constantLong RX12 292 (31)) (by decide +kernel)) dX12_add_1 ?_
  refine lv_lmul hx hb dX12_add_4 ?_
  refine lv_lload_n hx hb dX12_add_5 rfl (lv_at hl 1 rfl) ?_
  refine lv_ladd hx hb dX12_add_6 ?_
  exact W.lret (v := (d * 31) + v) hx hb hr (fun t ht hW => ⟨_, rfl, rfl, ht⟩) (fun _ h => nomatch h) dX12_add_7
set_option maxHeartbeats 600000 in
set_option maxRecDepth 100000 in
theorem c_X12_ofReaderNow_0t (l : Launch) (D : va_G) (ty : Nat → ClassId) (A : Nat → Prop) (u : Nat → Nat → Prop) (C : Nat → Nat → va_E) (ma : Nat → Nat → Nat) (t0 mi : Nat) (g : Nat → Nat → Int32) (n1 n2 nL n4 n5 : Nat) (th : Int32) (rep bro : Nat → Nat → Int32) (hR : mR ty t0 g n1 n2 nL n4 n5 th rep bro u C ma) (ah : Nat) (sz : Nat) (R : Nat) (hr6 : R < 6) : Met l yX12_ofReaderNow wsX12_ofReaderNow ({ frames := 6, cells := 0, slots := 0, locals := 200 }) (va_Pc [.ref (ma 0 0), .ref ah, .int (nI R), .int (nI 0)] (mIhs D ty A u C ma t0 mi ah (g 21) sz)) (mkQ sz (fun v_ => v_ = ofReaderN g n4 n5 R 0)) 0 0 (fun q => sz ≤ q) := by
  refine zMet (cc := cX12_ofReaderNow) (maxL := 8) (ret := (some .int)) (by decide) rfl (Nat.le_of_ble_eq_true rfl) ?_
  intro p e s m below meth c hx hb hr hts hown hlocks hml hB ls hl
  obtain ⟨⟨⟨hM, hK, hMS⟩, ⟨hmb, hmd, hA⟩⟩, hsz⟩ := hB
  subst hsz
  have hS : va_S (fun q => s.heap.size ≤ q) s.heap s.heap [] := va_S.rf
  have hbn := hR.I.b1
  have hbs := hR.I.b2
  have hbl := hR.I.bL
  have hbc := hR.I.b4
  have hbr := hR.I.b5
  have hl : lv_has ls 8 [(0, .ref (ma 0 0)), (1, .ref ah), (2, .int (nI R)), (3, .int (nI 0))] := hl
  refine lv_iload_n hx hb dX12_ofReaderNow_0 rfl (lv_at hl 3 rfl) ?_
  refine lv_if_ne (tgt := 10) hx hb dX12_ofReaderNow_1 (by decide) (fun c_1 => ?_) (fun c_1 => ?_)
  · have c_1 := zq_neT (x := 0) (by omega) c_1
    omega
  · have c_1 := zq_neF (x := 0) (by omega) c_1
    refine lv_aload_n hx hb dX12_ofReaderNow_4 rfl (lv_at hl 0 rfl) ?_
    refine lv_iload_n hx hb dX12_ofReaderNow_5 rfl (lv_at hl 2 rfl) ?_
    refine zcVi (As := [.int (nI R)]) (rest := []) ⟨hx, hb, hml, hown, hts⟩ (c_X12_unitsNow l D ty A u C ma t0 mi g n1 n2 nL n4 n5 th rep bro hR (nI R)) (cwV 1 hts gX12_ofReaderNow_X12_unitsNow rfl rfl rfl (by decide +kernel) ⟨Nat.le_of_ble_eq_true rfl, Nat.le_of_ble_eq_true rfl⟩) (mI_blind) (mI_preN hM hK hMS hS) (va_recv hK ((hM.later hS).Pa hR.o.1 rfl hR.o.2) (ci := 13) (q0 := 0) rfl rfl) rfl hl.1 rfl (Nat.le_of_ble_eq_true rfl) dX12_ofReaderNow_6 ⟨Nat.le_of_ble_eq_true rfl, Nat.le_of_ble_eq_true rfl⟩ (fun r_2 hr_2 => ?_)
    subst hr_2
    refine W.widen (k := 0) (n := 0) (Nat.le_refl _) (Nat.le_refl _) ?_
    exact W.iret (v := sumN (fUn g (nI R) (g 0 0)) n5) hx hb hr (fun t ht hW => ⟨⟨_, (), rfl, rfl, trivial⟩, hS.F ht⟩) hS.2.2 dX12_ofReaderNow_9
set_option maxHeartbeats 600000 in
set_option maxRecDepth 100000 in
theorem c_X12_ofReaderNow_6t (l : Launch) (D : va_G) (ty : Nat → ClassId) (A : Nat → Prop) (u : Nat → Nat → Prop) (C : Nat → Nat → va_E) (ma : Nat → Nat → Nat) (t0 mi : Nat) (g : Nat → Nat → Int32) (n1 n2 nL n4 n5 : Nat) (th : Int32) (rep bro : Nat → Nat → Int32) (hR : mR ty t0 g n1 n2 nL n4 n5 th rep bro u C ma) (ah : Nat) (sz : Nat) (R : Nat) (hr6 : R < 6) : Met l yX12_ofReaderNow wsX12_ofReaderNow ({ frames := 6, cells := 0, slots := 0, locals := 200 }) (va_Pc [.ref (ma 0 0), .ref ah, .int (nI R), .int (nI 6)] (mIhs D ty A u C ma t0 mi ah (g 21) sz)) (mkQ sz (fun v_ => v_ = ofReaderN g n4 n5 R 6)) 0 0 (fun q => sz ≤ q) := by
  refine zMet (cc := cX12_ofReaderNow) (maxL := 8) (ret := (some .int)) (by decide) rfl (Nat.le_of_ble_eq_true rfl) ?_
  intro p e s m below meth c hx hb hr hts hown hlocks hml hB ls hl
  obtain ⟨⟨⟨hM, hK, hMS⟩, ⟨hmb, hmd, hA⟩⟩, hsz⟩ := hB
  subst hsz
  have hS : va_S (fun q => s.heap.size ≤ q) s.heap s.heap [] := va_S.rf
  have hbn := hR.I.b1
  have hbs := hR.I.b2
  have hbl := hR.I.bL
  have hbc := hR.I.b4
  have hbr := hR.I.b5
  have hl : lv_has ls 8 [(0, .ref (ma 0 0)), (1, .ref ah), (2, .int (nI R)), (3, .int (nI 6))] := hl
  refine lv_iload_n hx hb dX12_ofReaderNow_0 rfl (lv_at hl 3 rfl) ?_
  refine lv_if_ne (tgt := 10) hx hb dX12_ofReaderNow_1 (by decide) (fun c_1 => ?_) (fun c_1 => ?_)
  · have c_1 := zq_neT (x := 6) (by omega) c_1
    refine lv_iload_n hx hb dX12_ofReaderNow_10 rfl (lv_at hl 3 rfl) ?_
    refine lv_bipush (v := nI 6) hx hb dX12_ofReaderNow_11 (by decide) ?_
    refine lv_icmp_ne (tgt := 22) hx hb dX12_ofReaderNow_13 (by decide) (fun c_2 => ?_) (fun c_2 => ?_)
    · have c_2 := zn_neT (a := 6) (b := 6) (by omega) (by omega) c_2
      omega
    · have c_2 := zn_neF (a := 6) (b := 6) (by omega) (by omega) c_2
      refine lv_aload_n hx hb dX12_ofReaderNow_16 rfl (lv_at hl 0 rfl) ?_
      refine lv_iload_n hx hb dX12_ofReaderNow_17 rfl (lv_at hl 2 rfl) ?_
      refine zcVi (As := [.int (nI R)]) (rest := []) ⟨hx, hb, hml, hown, hts⟩ (c_X12_contractsOf l D ty A u C ma t0 mi g n1 n2 nL n4 n5 th rep bro hR (nI R)) (cwV 1 hts gX12_ofReaderNow_X12_contractsOf rfl rfl rfl (by decide +kernel) ⟨Nat.le_of_ble_eq_true rfl, Nat.le_of_ble_eq_true rfl⟩) (mI_blind) (mI_preN hM hK hMS hS) (va_recv hK ((hM.later hS).Pa hR.o.1 rfl hR.o.2) (ci := 13) (q0 := 0) rfl rfl) rfl hl.1 rfl (Nat.le_of_ble_eq_true rfl) dX12_ofReaderNow_18 ⟨Nat.le_of_ble_eq_true rfl, Nat.le_of_ble_eq_true rfl⟩ (fun r_3 hr_3 => ?_)
      subst hr_3
      refine W.widen (k := 0) (n := 0) (Nat.le_refl _) (Nat.le_refl _) ?_
      exact W.iret (v := sumN (fOn g (nI R) (g 0 0)) n4) hx hb hr (fun t ht hW => ⟨⟨_, (), rfl, rfl, trivial⟩, hS.F ht⟩) hS.2.2 dX12_ofReaderNow_21
  · have c_1 := zq_neF (x := 6) (by omega) c_1
    omega
set_option maxHeartbeats 2000000 in
set_option maxRecDepth 100000 in
theorem m_digest (l : Launch) (D : va_G) (ty : Nat → ClassId) (A : Nat → Prop) (u : Nat → Nat → Prop) (C : Nat → Nat → va_E) (ma : Nat → Nat → Nat) (t0 mi : Nat) (g : Nat → Nat → Int32) (n1 n2 nL n4 n5 : Nat) (th : Int32) (rep bro : Nat → Nat → Int32) (hR : mR ty t0 g n1 n2 nL n4 n5 th rep bro u C ma) : Met l yX12_digest wsX12_digest ({ frames := 7, cells := (579 + 17 * n5), slots := (3521 + 174 * n5), locals := 227 }) (va_Pc [.ref (ma 0 0)] (mI D ty A u C ma t0 mi)) (va_Ql (fun (v9 : Int64) (C2 : Nat → Nat → va_E) => v9 = digN g n1 n4 n5 ∧ mR ty t0 g n1 n2 nL n4 n5 (nI 0) rep bro u C2 ma) (fun C2 t => mI D ty A u C2 ma t0 mi t) A) (579 + 17 * n5) (3521 + 174 * n5) A := by
  refine zMet (cc := cX12_digest) (maxL := 7) (ret := (some .long)) (by decide) rfl (Nat.le_of_ble_eq_true rfl) ?_
  intro p e s m below meth c hx hb hr hts hown hlocks hml hB ls hl
  obtain ⟨hM, hK, hMS⟩ := hB
  have hS : va_S A s.heap s.heap [] := va_S.rf
  have hbn := hR.I.b1
  have hbs := hR.I.b2
  have hbl := hR.I.bL
  have hbc := hR.I.b4
  have hbr := hR.I.b5
  have hc6 := cntS_le (g := g) (R := 6) (by omega) n5
  have hl : lv_has ls 7 [(0, .ref (ma 0 0))] := hl
  have hinX12 : ∀ w ∈ wsX120, w ∈ wsX12_digest := by decide +kernel
  have hk1 := hts (.fieldLink RX12 25 "DatamarketDeskModel" "thrown" "I") (by decide +kernel)
  have hk2 := hts (.fieldLink RX12 10 "DatamarketDeskModel" "sets" "Ljava/util/ArrayList;") (by decide +kernel)
  have hk3 := hts (.fieldLink RX12 22 "DatamarketDeskModel" "reads" "Ljava/util/ArrayList;") (by decide +kernel)
  have hk4 := hts (.fieldLink RX12 19 "DatamarketDeskModel" "contracts" "Ljava/util/ArrayList;") (by decide +kernel)
  have hk5 := hts (.classLink RX12 152 "DatamarketDeskModel$Read") (by decide +kernel)
  have hk6 := hts (.fieldLink RX12 193 "DatamarketDeskModel" "today" "I") (by decide +kernel)
  have hk7 := hts (.classLink RX12 49 "DatamarketDeskModel$DataSet") (by decide +kernel)
  have hinX7 : ∀ w ∈ wsX70, w ∈ wsX12_digest := by decide +kernel
  have hk9 := hts (.fieldLink RX12 69 "DatamarketDeskModel$DataSet" "versions" "Ljava/util/ArrayList;") (by decide +kernel)
  have hk10 := hts (.fieldLink RX12 51 "DatamarketDeskModel$DataSet" "fields" "I") (by decide +kernel)
  refine lv_aload_n hx hb dX12_digest_0 rfl (lv_at hl 0 rfl) ?_
  refine lv_iconst (v := nI 0) hx hb dX12_digest_1 (by decide) ?_
  refine mput (v := .int (nI 0)) (ty := .int) hx hb hts hinX12 tyX12 tyX12_ok nmX12 hown hK hM hS hR.o.1 rfl hR.o.2 rfl 0 (by decide) (hk1) (fun _ h9 => h9) rfl (by decide +kernel) rfl rfl (Nat.le_of_ble_eq_true rfl) dX12_digest_2 (fun H locs hM hS ho => ?_)
  obtain ⟨C_1, eC_1⟩ : ∃ z, z = up2 C 0 0 (eO 13 [.int (nI 0), .ref (ma 1 0), .ref (ma 3 0), .ref (ma 5 0), .ref (ma 7 0), .int (g 0 0)]) := ⟨_, rfl⟩
  have hM : mW D A u C_1 ma H := by rw [eC_1]; exact hM
  have hC_2 : C_1 0 0 = eO 13 [.int (nI 0), .ref (ma 1 0), .ref (ma 3 0), .ref (ma 5 0), .ref (ma 7 0), .int (g 0 0)] := by rw [eC_1]; exact up2_s _ _ _ _
  have hR_3 : mR ty t0 g n1 n2 nL n4 n5 (nI 0) rep bro u C_1 ma := by rw [eC_1]; exact hR.th _
  refine lv_aload_n hx hb dX12_digest_5 rfl (lv_at hl 0 rfl) ?_
  have hFc : ∀ q : Nat, H.size ≤ q → A q := fun q h => hM.2.2 q h
  refine va_callr (va_runV (As := []) (rest := []) ⟨hx, hb, hml, hown, hts⟩ (c_X12_harms l D ty A u C_1 ma t0 mi g n1 n2 nL n4 n5 (nI 0) rep bro hR_3 H.size) (cwV 0 hts gX12_digest_X12_harms rfl rfl rfl (by decide +kernel) ⟨Nat.le_of_ble_eq_true rfl, Nat.le_of_ble_eq_true rfl⟩) ⟨zBl mIs_blind, (va_recv hK (hM.Pa hR_3.o.1 rfl hR_3.o.2) (ci := 13) (q0 := 0) rfl rfl), fun U h1 h2 => ⟨rfl, mI_pre hM hK hMS hS U h1 h2, by rw [h1]⟩⟩ rfl rfl hl.1 rfl (lv_room (Nat.le_of_ble_eq_true rfl)) dX12_digest_6 ⟨by show _ ≤ 579 + 17 * n5; omega, by show _ ≤ 3521 + 174 * n5; omega⟩) hS (fun q _ h => hFc q h) hFc (fun u9 ah t H1 locs ht hvm hw hB9 hz1 hk1 hS => ?_)
  have ho9 : ∀ q : Nat, q < H.size → H1[q]? = H[q]? := fun q hq => hk1 q hq (Nat.not_le.mpr hq)
  have hM := hM.ext (fun q hq _ => ho9 q hq) hz1
  obtain ⟨hmb, hmd, hA, hAd⟩ := hB9
  rw [ht] at hA
  clear hk1 hz1 hvm ht ho9 hFc
  clear t
  generalize H1 = H at hM hS hA ⊢
  refine lv_astore_n (lv' := [(1, .ref ah), (0, .ref (ma 0 0))]) hx hb dX12_digest_9 rfl hl (by decide) rfl (fun ls hl => ?_)
  refine lv_ldc2 (v := 58124) hx hb hown (hts (.constantLong RX12 294 (58124)) (by decide +kernel)) dX12_digest_10 ?_
  refine lv_lstore_n (lv' := [(2, .long 58124), (1, .ref ah), (0, .ref (ma 0 0))]) hx hb dX12_digest_13 rfl hl (by decide) rfl (fun ls hl => ?_)
  refine lv_iconst (v := nI 0) hx hb dX12_digest_14 (by decide) ?_
  refine lv_istore (lv' := [(4, .int (nI 0)), (2, .long 58124), (1, .ref ah), (0, .ref (ma 0 0))]) hx hb dX12_digest_15 hl (by decide) rfl (fun ls hl => ?_)
  refine zloop (τ := Unit) (fun k _ ls H locs cells slots => cells = 57 + 58 * k ∧ slots = 344 + 353 * k ∧ lv_has ls 7 [(4, .int (nI k)), (2, .long (dgF (manyN g n1 n5) 58124 k)), (1, .ref ah), (0, .ref (ma 0 0))] ∧ mW D A u C_1 ma H ∧ va_S A s.heap H locs ∧ hmX D ty ah (g 21) hmb hmd H) 9 ?_ 0 () ls _ _ _ _ (Nat.zero_le _) ⟨by first | rfl | omega, by first | rfl | omega, lv_sub hl [0, 1, 2, 3] rfl, hM, hS, hA⟩
  intro k _ ls H locs cells slots hi_k hinv ih_k
  obtain ⟨rfl, rfl, hl, hM, hS, hA⟩ := hinv
  have hl : lv_has ls 7 [(4, .int (nI k)), (2, .long (dgF (manyN g n1 n5) 58124 k)), (1, .ref ah), (0, .ref (ma 0 0))] := hl
  refine lv_iload hx hb dX12_digest_17 (lv_at hl 0 rfl) ?_
  refine lv_bipush (v := nI 9) hx hb dX12_digest_19 (by decide) ?_
  refine lv_icmp_ge (tgt := 42) hx hb dX12_digest_21 (by decide) (fun c_5 => ?_) (fun c_5 => ?_)
  · have c_5 := zn_geT (a := k) (b := 9) (by omega) (by omega) c_5
    obtain rfl : k = 9 := by omega
    refine lv_iconst (v := nI 0) hx hb dX12_digest_42 (by decide) ?_
    refine lv_istore (lv' := [(4, .int (nI 0)), (2, .long (dgF (manyN g n1 n5) 58124 9)), (1, .ref ah), (0, .ref (ma 0 0))]) hx hb dX12_digest_43 hl (by decide) rfl (fun ls hl => ?_)
    refine zloopP (τ := Unit) (fun i _ ls => lv_has ls 7 [(4, .int (nI i)), (2, .long (dgG (dgS g n5) (dgF (manyN g n1 n5) 58124 9) i)), (1, .ref ah), (0, .ref (ma 0 0))]) n1 ?_ 0 () ls (Nat.zero_le _) (lv_sub hl [0, 1, 2, 3] rfl)
    intro i _ ls hi_i hl ih_i
    have hl : lv_has ls 7 [(4, .int (nI i)), (2, .long (dgG (dgS g n5) (dgF (manyN g n1 n5) 58124 9) i)), (1, .ref ah), (0, .ref (ma 0 0))] := hl
    refine lv_iload hx hb dX12_digest_45 (lv_at hl 0 rfl) ?_
    refine lv_aload_n hx hb dX12_digest_47 rfl (lv_at hl 3 rfl) ?_
    refine va_get hx hb hts hinX12 hown hK (hM.Pa hR_3.o.1 rfl hR_3.o.2) 0 rfl rfl 1 (by decide) (hk2) (fun _ h9 => h9) rfl dX12_digest_48 ?_
    obtain ⟨huz_6, hnz_6, mz_6, bz_6, hCz_6⟩ := isL.hd hR_3.l1
    refine zcVi (As := []) (rest := [.int (nI i)]) ⟨hx, hb, hml, hown, hts⟩ (c_size l D ty A u C_1 ma t0 mi 1 0 n1 (ma 9) hR_3.l1) (cwV 0 hts gX12_digest_Jx4a65c_size_8abf5 rfl rfl rfl (by decide +kernel) ⟨Nat.le_of_ble_eq_true rfl, Nat.le_of_ble_eq_true rfl⟩) mI_blind (mI_pre hM hK hMS hS) (va_recv hK (hM.Pa huz_6 rfl hCz_6) (ci := 0) (q0 := 0) rfl rfl) rfl hl.1 rfl (Nat.le_of_ble_eq_true rfl) dX12_digest_51 ⟨by show _ ≤ 579 + 17 * n5; omega, by show _ ≤ 3521 + 174 * n5; omega⟩ (fun r_7 hr_7 => ?_)
    subst hr_7
    refine lv_icmp_ge (tgt := 171) hx hb dX12_digest_54 (by decide) (fun c_8 => ?_) (fun c_8 => ?_)
    · have c_8 := zn_geT (a := i) (b := n1) (by omega) (by omega) c_8
      obtain rfl : n1 = i := by omega
      refine lv_iconst (v := nI 0) hx hb dX12_digest_171 (by decide) ?_
      refine lv_istore (lv' := [(4, .int (nI 0)), (2, .long (dgG (dgS g n5) (dgF (manyN g n1 n5) 58124 9) n1)), (1, .ref ah), (0, .ref (ma 0 0))]) hx hb dX12_digest_172 hl (by decide) rfl (fun ls hl => ?_)
      refine zloop (τ := Unit) (fun R _ ls H locs cells slots => cells = 579 + 5 * cntS g n5 R ∧ slots = 3521 + 30 * cntS g n5 R ∧ lv_has ls 7 [(4, .int (nI R)), (2, .long (dgG (dgR g n1 n4 n5) (dgG (dgS g n5) (dgF (manyN g n1 n5) 58124 9) n1) R)), (1, .ref ah), (0, .ref (ma 0 0))] ∧ mW D A u C_1 ma H ∧ va_S A s.heap H locs ∧ hmX D ty ah (g 21) hmb hmd H) 6 ?_ 0 () ls _ _ _ _ (Nat.zero_le _) ⟨by first | rfl | omega, by first | rfl | omega, lv_sub hl [0, 1, 2, 3] rfl, hM, hS, hA⟩
      intro R _ ls H locs cells slots hi_R hinv ih_R
      obtain ⟨rfl, rfl, hl, hM, hS, hA⟩ := hinv
      have hl : lv_has ls 7 [(4, .int (nI R)), (2, .long (dgG (dgR g n1 n4 n5) (dgG (dgS g n5) (dgF (manyN g n1 n5) 58124 9) n1) R)), (1, .ref ah), (0, .ref (ma 0 0))] := hl
      have hcR := cntS_le (g := g) (R := R) hi_R n5
      refine lv_iload hx hb dX12_digest_174 (lv_at hl 0 rfl) ?_
      refine lv_bipush (v := nI 6) hx hb dX12_digest_176 (by decide) ?_
      refine lv_icmp_ge (tgt := 270) hx hb dX12_digest_178 (by decide) (fun c_9 => ?_) (fun c_9 => ?_)
      · have c_9 := zn_geT (a := R) (b := 6) (by omega) (by omega) c_9
        obtain rfl : R = 6 := by omega
        refine lv_iconst (v := nI 0) hx hb dX12_digest_270 (by decide) ?_
        refine lv_istore (lv' := [(4, .int (nI 0)), (2, .long (dgG (dgR g n1 n4 n5) (dgG (dgS g n5) (dgF (manyN g n1 n5) 58124 9) n1) 6)), (1, .ref ah), (0, .ref (ma 0 0))]) hx hb dX12_digest_271 hl (by decide) rfl (fun ls hl => ?_)
        refine zloop (τ := Unit) (fun r _ ls H locs cells slots => cells = 579 + 5 * cntS g n5 6 + 12 * r ∧ slots = 3521 + 30 * cntS g n5 6 + 144 * r ∧ lv_has ls 7 [(4, .int (nI r)), (2, .long (dgG (dgD g) (dgG (dgR g n1 n4 n5) (dgG (dgS g n5) (dgF (manyN g n1 n5) 58124 9) n1) 6) r)), (1, .ref ah), (0, .ref (ma 0 0))] ∧ mW D A u C_1 ma H ∧ va_S A s.heap H locs ∧ hmX D ty ah (g 21) hmb hmd H) n5 ?_ 0 () ls _ _ _ _ (Nat.zero_le _) ⟨by first | rfl | omega, by first | rfl | omega, lv_sub hl [0, 1, 2, 3] rfl, hM, hS, hA⟩
        intro r _ ls H locs cells slots hi_r hinv ih_r
        obtain ⟨rfl, rfl, hl, hM, hS, hA⟩ := hinv
        have hl : lv_has ls 7 [(4, .int (nI r)), (2, .long (dgG (dgD g) (dgG (dgR g n1 n4 n5) (dgG (dgS g n5) (dgF (manyN g n1 n5) 58124 9) n1) 6) r)), (1, .ref ah), (0, .ref (ma 0 0))] := hl
        refine lv_iload hx hb dX12_digest_273 (lv_at hl 0 rfl) ?_
        refine lv_aload_n hx hb dX12_digest_275 rfl (lv_at hl 3 rfl) ?_
        refine va_get hx hb hts hinX12 hown hK (hM.Pa hR_3.o.1 rfl hR_3.o.2) 0 rfl rfl 4 (by decide) (hk3) (fun _ h9 => h9) rfl dX12_digest_276 ?_
        obtain ⟨huz_10, hnz_10, mz_10, bz_10, hCz_10⟩ := isL.hd hR_3.l7
        refine zcVi (As := []) (rest := [.int (nI r)]) ⟨hx, hb, hml, hown, hts⟩ (c_size l D ty A u C_1 ma t0 mi 7 0 n5 (ma 26) hR_3.l7) (cwV 0 hts gX12_digest_Jx4a65c_size_8abf5 rfl rfl rfl (by decide +kernel) ⟨Nat.le_of_ble_eq_true rfl, Nat.le_of_ble_eq_true rfl⟩) mI_blind (mI_pre hM hK hMS hS) (va_recv hK (hM.Pa huz_10 rfl hCz_10) (ci := 0) (q0 := 0) rfl rfl) rfl hl.1 rfl (Nat.le_of_ble_eq_true rfl) dX12_digest_279 ⟨by show _ ≤ 579 + 17 * n5; omega, by show _ ≤ 3521 + 174 * n5; omega⟩ (fun r_11 hr_11 => ?_)
        subst hr_11
        refine lv_icmp_ge (tgt := 331) hx hb dX12_digest_282 (by decide) (fun c_12 => ?_) (fun c_12 => ?_)
        · have c_12 := zn_geT (a := r) (b := n5) (by omega) (by omega) c_12
          obtain rfl : n5 = r := by omega
          refine lv_iconst (v := nI 0) hx hb dX12_digest_331 (by decide) ?_
          refine lv_istore (lv' := [(4, .int (nI 0)), (2, .long (dgG (dgD g) (dgG (dgR g n1 n4 n5) (dgG (dgS g n5) (dgF (manyN g n1 n5) 58124 9) n1) 6) n5)), (1, .ref ah), (0, .ref (ma 0 0))]) hx hb dX12_digest_332 hl (by decide) rfl (fun ls hl => ?_)
          refine zloopP (τ := Unit) (fun c0 _ ls => lv_has ls 7 [(4, .int (nI c0)), (2, .long (dgF (fun c => sumN (fNeed g n4 c) n5) (dgG (dgD g) (dgG (dgR g n1 n4 n5) (dgG (dgS g n5) (dgF (manyN g n1 n5) 58124 9) n1) 6) n5) c0)), (1, .ref ah), (0, .ref (ma 0 0))]) n4 ?_ 0 () ls (Nat.zero_le _) (lv_sub hl [0, 1, 2, 3] rfl)
          intro c0 _ ls hi_c0 hl ih_c0
          have hl : lv_has ls 7 [(4, .int (nI c0)), (2, .long (dgF (fun c => sumN (fNeed g n4 c) n5) (dgG (dgD g) (dgG (dgR g n1 n4 n5) (dgG (dgS g n5) (dgF (manyN g n1 n5) 58124 9) n1) 6) n5) c0)), (1, .ref ah), (0, .ref (ma 0 0))] := hl
          refine lv_iload hx hb dX12_digest_334 (lv_at hl 0 rfl) ?_
          refine lv_aload_n hx hb dX12_digest_336 rfl (lv_at hl 3 rfl) ?_
          refine va_get hx hb hts hinX12 hown hK (hM.Pa hR_3.o.1 rfl hR_3.o.2) 0 rfl rfl 3 (by decide) (hk4) (fun _ h9 => h9) rfl dX12_digest_337 ?_
          obtain ⟨huz_13, hnz_13, mz_13, bz_13, hCz_13⟩ := isL.hd hR_3.l5
          refine zcVi (As := []) (rest := [.int (nI c0)]) ⟨hx, hb, hml, hown, hts⟩ (c_size l D ty A u C_1 ma t0 mi 5 0 n4 (ma 25) hR_3.l5) (cwV 0 hts gX12_digest_Jx4a65c_size_8abf5 rfl rfl rfl (by decide +kernel) ⟨Nat.le_of_ble_eq_true rfl, Nat.le_of_ble_eq_true rfl⟩) mI_blind (mI_pre hM hK hMS hS) (va_recv hK (hM.Pa huz_13 rfl hCz_13) (ci := 0) (q0 := 0) rfl rfl) rfl hl.1 rfl (Nat.le_of_ble_eq_true rfl) dX12_digest_340 ⟨by show _ ≤ 579 + 17 * n5; omega, by show _ ≤ 3521 + 174 * n5; omega⟩ (fun r_14 hr_14 => ?_)
          subst hr_14
          refine lv_icmp_ge (tgt := 364) hx hb dX12_digest_343 (by decide) (fun c_15 => ?_) (fun c_15 => ?_)
          · have c_15 := zn_geT (a := c0) (b := n4) (by omega) (by omega) c_15
            obtain rfl : n4 = c0 := by omega
            refine lv_lload_n hx hb dX12_digest_364 rfl (lv_at hl 1 rfl) ?_
            refine W.widen (k := 579 + 17 * n5) (n := 3521 + 174 * n5) (by omega) (by omega) ?_
            exact W.lret (v := dgF (fun c => sumN (fNeed g n4 c) n5) (dgG (dgD g) (dgG (dgR g n1 n4 n5) (dgG (dgS g n5) (dgF (manyN g n1 n5) 58124 9) n1) 6) n5) n4) hx hb hr (fun t ht hW => ⟨⟨_, C_1, rfl, ⟨rfl, hR_3⟩, mI_pre hM hK hMS hS t ht hW⟩, hS.F ht⟩) hS.2.2 dX12_digest_365
          · have c_15 := zn_geF (a := c0) (b := n4) (by omega) (by omega) c_15
            refine lv_lload_n hx hb dX12_digest_346 rfl (lv_at hl 1 rfl) ?_
            refine lv_aload_n hx hb dX12_digest_347 rfl (lv_at hl 3 rfl) ?_
            refine lv_iload hx hb dX12_digest_348 (lv_at hl 0 rfl) ?_
            refine zcVi (As := [.int (nI c0)]) (rest := [.long (dgF (fun c => sumN (fNeed g n4 c) n5) (dgG (dgD g) (dgG (dgR g n1 n4 n5) (dgG (dgS g n5) (dgF (manyN g n1 n5) 58124 9) n1) 6) n5) c0)]) ⟨hx, hb, hml, hown, hts⟩ (c_X12_neededNow l D ty A u C_1 ma t0 mi g n1 n2 nL n4 n5 (nI 0) rep bro hR_3 c0 (by omega)) (cwV 1 hts gX12_digest_X12_neededNow rfl rfl rfl (by decide +kernel) ⟨Nat.le_of_ble_eq_true rfl, Nat.le_of_ble_eq_true rfl⟩) mI_blind (mI_pre hM hK hMS hS) (va_recv hK (hM.Pa hR_3.o.1 rfl hR_3.o.2) (ci := 13) (q0 := 0) rfl rfl) rfl hl.1 rfl (Nat.le_of_ble_eq_true rfl) dX12_digest_350 ⟨by show _ ≤ 579 + 17 * n5; omega, by show _ ≤ 3521 + 174 * n5; omega⟩ (fun r_16 hr_16 => ?_)
            subst hr_16
            refine lv_i2l hx hb dX12_digest_353 rfl ?_
            refine zcSl (As := [.long (dgF (fun c => sumN (fNeed g n4 c) n5) (dgG (dgD g) (dgG (dgR g n1 n4 n5) (dgG (dgS g n5) (dgF (manyN g n1 n5) 58124 9) n1) 6) n5) c0), .long ((sumN (fNeed g n4 c0) n5).toInt64)]) (rest := []) ⟨hx, hb, hml, hown, hts⟩ (c_X12_add l _ (dgF (fun c => sumN (fNeed g n4 c) n5) (dgG (dgD g) (dgG (dgR g n1 n4 n5) (dgG (dgS g n5) (dgF (manyN g n1 n5) 58124 9) n1) 6) n5) c0) ((sumN (fNeed g n4 c0) n5).toInt64)) (cwS 2 hts gX12_digest_X12_add rfl rfl rfl (by decide +kernel) ⟨Nat.le_of_ble_eq_true rfl, Nat.le_of_ble_eq_true rfl⟩) (B := fun _ => True) (fun _ _ _ _ _ => trivial) (fun _ _ _ => trivial) rfl hl.1 rfl (Nat.le_of_ble_eq_true rfl) dX12_digest_354 ⟨by show _ ≤ 579 + 17 * n5; omega, by show _ ≤ 3521 + 174 * n5; omega⟩ (fun r_17 hr_17 => ?_)
            subst hr_17
            refine lv_lstore_n (lv' := [(2, .long ((dgF (fun c => sumN (fNeed g n4 c) n5) (dgG (dgD g) (dgG (dgR g n1 n4 n5) (dgG (dgS g n5) (dgF (manyN g n1 n5) 58124 9) n1) 6) n5) c0) * 31 + ((sumN (fNeed g n4 c0) n5).toInt64))), (4, .int (nI c0)), (1, .ref ah), (0, .ref (ma 0 0))]) hx hb dX12_digest_357 rfl hl (by decide) rfl (fun ls hl => ?_)
            refine lv_iinc (v := nI (c0 + 1)) (lv' := [(4, .int (nI (c0 + 1))), (2, .long ((dgF (fun c => sumN (fNeed g n4 c) n5) (dgG (dgD g) (dgG (dgR g n1 n4 n5) (dgG (dgS g n5) (dgF (manyN g n1 n5) 58124 9) n1) 6) n5) c0) * 31 + ((sumN (fNeed g n4 c0) n5).toInt64))), (1, .ref ah), (0, .ref (ma 0 0))]) hx hb dX12_digest_358 hl (k := 1) rfl (nI_add c0 1) (by decide) rfl (fun ls hl => ?_)
            refine lv_goto (tgt := 334) hx hb dX12_digest_361 (by decide) ?_
            exact ih_c0 () ls (by omega) (show lv_has ls 7 [(4, .int (nI (c0 + 1))), (2, .long (dgF (fun c => sumN (fNeed g n4 c) n5) (dgG (dgD g) (dgG (dgR g n1 n4 n5) (dgG (dgS g n5) (dgF (manyN g n1 n5) 58124 9) n1) 6) n5) (c0 + 1))), (1, .ref ah), (0, .ref (ma 0 0))] from lv_sub hl [0, 1, 2, 3] rfl)
        · have c_12 := zn_geF (a := r) (b := n5) (by omega) (by omega) c_12
          refine lv_iconst (v := nI 0) hx hb dX12_digest_285 (by decide) ?_
          refine lv_istore (lv' := [(5, .int (nI 0)), (4, .int (nI r)), (2, .long (dgG (dgD g) (dgG (dgR g n1 n4 n5) (dgG (dgS g n5) (dgF (manyN g n1 n5) 58124 9) n1) 6) r)), (1, .ref ah), (0, .ref (ma 0 0))]) hx hb dX12_digest_286 hl (by decide) rfl (fun ls hl => ?_)
          refine zloop (τ := Unit) (fun w9 _ ls H locs cells slots => cells = 579 + 5 * cntS g n5 6 + 12 * r + w9 ∧ slots = 3521 + 30 * cntS g n5 6 + 144 * r + 12 * w9 ∧ lv_has ls 7 [(5, .int (nI w9)), (2, .long (dgF (ofReadN g r) (dgG (dgD g) (dgG (dgR g n1 n4 n5) (dgG (dgS g n5) (dgF (manyN g n1 n5) 58124 9) n1) 6) r) w9)), (4, .int (nI r)), (1, .ref ah), (0, .ref (ma 0 0))] ∧ mW D A u C_1 ma H ∧ va_S A s.heap H locs ∧ hmX D ty ah (g 21) hmb hmd H) 12 ?_ 0 () ls _ _ _ _ (Nat.zero_le _) ⟨by first | rfl | omega, by first | rfl | omega, lv_sub hl [0, 2, 1, 3, 4] rfl, hM, hS, hA⟩
          intro w9 _ ls H locs cells slots hi_w9 hinv ih_w9
          obtain ⟨rfl, rfl, hl, hM, hS, hA⟩ := hinv
          have hl : lv_has ls 7 [(5, .int (nI w9)), (2, .long (dgF (ofReadN g r) (dgG (dgD g) (dgG (dgR g n1 n4 n5) (dgG (dgS g n5) (dgF (manyN g n1 n5) 58124 9) n1) 6) r) w9)), (4, .int (nI r)), (1, .ref ah), (0, .ref (ma 0 0))] := hl
          refine lv_iload hx hb dX12_digest_288 (lv_at hl 0 rfl) ?_
          refine lv_bipush (v := nI 12) hx hb dX12_digest_290 (by decide) ?_
          refine lv_icmp_ge (tgt := 325) hx hb dX12_digest_292 (by decide) (fun c_18 => ?_) (fun c_18 => ?_)
          · have c_18 := zn_geT (a := w9) (b := 12) (by omega) (by omega) c_18
            obtain rfl : w9 = 12 := by omega
            refine lv_iinc (v := nI (r + 1)) (lv' := [(4, .int (nI (r + 1))), (5, .int (nI 12)), (2, .long (dgF (ofReadN g r) (dgG (dgD g) (dgG (dgR g n1 n4 n5) (dgG (dgS g n5) (dgF (manyN g n1 n5) 58124 9) n1) 6) r) 12)), (1, .ref ah), (0, .ref (ma 0 0))]) hx hb dX12_digest_325 hl (k := 2) rfl (nI_add r 1) (by decide) rfl (fun ls hl => ?_)
            refine lv_goto (tgt := 273) hx hb dX12_digest_328 (by decide) ?_
            exact ih_r () ls _ _ _ _ (by omega) ⟨by first | rfl | omega, by first | rfl | omega, show lv_has ls 7 [(4, .int (nI (r + 1))), (2, .long (dgG (dgD g) (dgG (dgR g n1 n4 n5) (dgG (dgS g n5) (dgF (manyN g n1 n5) 58124 9) n1) 6) (r + 1))), (1, .ref ah), (0, .ref (ma 0 0))] from lv_sub hl [0, 2, 3, 4] rfl, hM, hS, hA⟩
          · have c_18 := zn_geF (a := w9) (b := 12) (by omega) (by omega) c_18
            refine lv_lload_n hx hb dX12_digest_295 rfl (lv_at hl 1 rfl) ?_
            refine lv_aload_n hx hb dX12_digest_296 rfl (lv_at hl 3 rfl) ?_
            refine lv_aload_n hx hb dX12_digest_297 rfl (lv_at hl 4 rfl) ?_
            refine va_get hx hb hts hinX12 hown hK (hM.Pa hR_3.o.1 rfl hR_3.o.2) 0 rfl rfl 4 (by decide) (hk3) (fun _ h9 => h9) rfl dX12_digest_298 ?_
            refine lv_iload hx hb dX12_digest_301 (lv_at hl 2 rfl) ?_
            obtain ⟨huz_19, hnz_19, mz_19, bz_19, hCz_19⟩ := isL.hd hR_3.l7
            refine zcVr (x := .ref (ma 26 r)) (As := [.int (nI r)]) (rest := [.ref ah, .long (dgF (ofReadN g r) (dgG (dgD g) (dgG (dgR g n1 n4 n5) (dgG (dgS g n5) (dgF (manyN g n1 n5) 58124 9) n1) 6) r) w9)]) ⟨hx, hb, hml, hown, hts⟩ (c_get l D ty A u C_1 ma t0 mi 7 0 n5 (ma 26) hR_3.l7 r (by omega)) (cwV 1 hts gX12_digest_Jx4a65c_get_915e3 rfl rfl rfl (by decide +kernel) ⟨Nat.le_of_ble_eq_true rfl, Nat.le_of_ble_eq_true rfl⟩) mI_blind (mI_pre hM hK hMS hS) (va_recv hK (hM.Pa huz_19 rfl hCz_19) (ci := 0) (q0 := 0) rfl rfl) rfl hl.1 rfl (Nat.le_of_ble_eq_true rfl) dX12_digest_303 ⟨by show _ ≤ 579 + 17 * n5; omega, by show _ ≤ 3521 + 174 * n5; omega⟩ ?_
            refine va_castS hx hb hown (hk5) ((hK.1 10 _ rfl).2) (va_recv hK (hM.Pa (hR_3.r26 (r := r) (by omega)).1 rfl (hR_3.r26 (r := r) (by omega)).2) (ci := 10) (q0 := 0) rfl rfl) dX12_digest_306 ?_
            refine lv_iload hx hb dX12_digest_309 (lv_at hl 0 rfl) ?_
            have hFc : ∀ q : Nat, H.size ≤ q → A q := fun q h => hM.2.2 q h
            refine va_calli (va_runS (As := [.ref ah, .ref (ma 26 r), .int (nI w9)]) (rest := [.long (dgF (ofReadN g r) (dgG (dgD g) (dgG (dgR g n1 n4 n5) (dgG (dgS g n5) (dgF (manyN g n1 n5) 58124 9) n1) 6) r) w9)]) ⟨hx, hb, hml, hown, hts⟩ (c_X12_ofReadNow l D ty A u C_1 ma t0 mi g n1 n2 nL n4 n5 (nI 0) rep bro hR_3 _ H.size r (by omega) w9 (by omega)) (cwS 3 hts gX12_digest_X12_ofReadNow rfl rfl rfl (by decide +kernel) ⟨Nat.le_of_ble_eq_true rfl, Nat.le_of_ble_eq_true rfl⟩) ⟨zBl mIhs_blind, fun U h1 h2 => ⟨rfl, mIh_pre hM hK hMS hS hA U h1 h2, by rw [h1]⟩⟩ rfl rfl hl.1 rfl (lv_room (Nat.le_of_ble_eq_true rfl)) dX12_digest_311 ⟨by show _ ≤ 579 + 17 * n5; omega, by show _ ≤ 3521 + 174 * n5; omega⟩) hS (fun q _ h => hFc q h) hFc (fun r_21 u9 t H1 locs ht hvm hw hB9 hz1 hk1 hS => ?_)
            have ho9 : ∀ q : Nat, q < H.size → H1[q]? = H[q]? := fun q hq => hk1 q hq (Nat.not_le.mpr hq)
            have hM := hM.ext (fun q hq _ => ho9 q hq) hz1
            have hA := hA.kept ho9
            clear hk1 hz1 hvm ht hB9 ho9 hFc
            clear t
            generalize H1 = H at hM hS hA ⊢
            have hr_21 := hw
            subst hr_21
            refine lv_i2l hx hb dX12_digest_314 rfl ?_
            refine zcSl (As := [.long (dgF (ofReadN g r) (dgG (dgD g) (dgG (dgR g n1 n4 n5) (dgG (dgS g n5) (dgF (manyN g n1 n5) 58124 9) n1) 6) r) w9), .long ((ofReadN g r w9).toInt64)]) (rest := []) ⟨hx, hb, hml, hown, hts⟩ (c_X12_add l _ (dgF (ofReadN g r) (dgG (dgD g) (dgG (dgR g n1 n4 n5) (dgG (dgS g n5) (dgF (manyN g n1 n5) 58124 9) n1) 6) r) w9) ((ofReadN g r w9).toInt64)) (cwS 2 hts gX12_digest_X12_add rfl rfl rfl (by decide +kernel) ⟨Nat.le_of_ble_eq_true rfl, Nat.le_of_ble_eq_true rfl⟩) (B := fun _ => True) (fun _ _ _ _ _ => trivial) (fun _ _ _ => trivial) rfl hl.1 rfl (Nat.le_of_ble_eq_true rfl) dX12_digest_315 ⟨by show _ ≤ 579 + 17 * n5; omega, by show _ ≤ 3521 + 174 * n5; omega⟩ (fun r_22 hr_22 => ?_)
            subst hr_22
            refine lv_lstore_n (lv' := [(2, .long ((dgF (ofReadN g r) (dgG (dgD g) (dgG (dgR g n1 n4 n5) (dgG (dgS g n5) (dgF (manyN g n1 n5) 58124 9) n1) 6) r) w9) * 31 + ((ofReadN g r w9).toInt64))), (5, .int (nI w9)), (4, .int (nI r)), (1, .ref ah), (0, .ref (ma 0 0))]) hx hb dX12_digest_318 rfl hl (by decide) rfl (fun ls hl => ?_)
            refine lv_iinc (v := nI (w9 + 1)) (lv' := [(5, .int (nI (w9 + 1))), (2, .long ((dgF (ofReadN g r) (dgG (dgD g) (dgG (dgR g n1 n4 n5) (dgG (dgS g n5) (dgF (manyN g n1 n5) 58124 9) n1) 6) r) w9) * 31 + ((ofReadN g r w9).toInt64))), (4, .int (nI r)), (1, .ref ah), (0, .ref (ma 0 0))]) hx hb dX12_digest_319 hl (k := 1) rfl (nI_add w9 1) (by decide) rfl (fun ls hl => ?_)
            refine lv_goto (tgt := 288) hx hb dX12_digest_322 (by decide) ?_
            exact ih_w9 () ls _ _ _ _ (by omega) ⟨by first | rfl | omega, by first | rfl | omega, show lv_has ls 7 [(5, .int (nI (w9 + 1))), (2, .long (dgF (ofReadN g r) (dgG (dgD g) (dgG (dgR g n1 n4 n5) (dgG (dgS g n5) (dgF (manyN g n1 n5) 58124 9) n1) 6) r) (w9 + 1))), (4, .int (nI r)), (1, .ref ah), (0, .ref (ma 0 0))] from lv_sub hl [0, 1, 2, 3, 4] rfl, hM, hS, hA⟩
      · have c_9 := zn_geF (a := R) (b := 6) (by omega) (by omega) c_9
        have hcS := cntS_le (g := g) (R := R + 1) (by omega) n5
        have hcE : cntS g n5 (R + 1) = cntS g n5 R + cntR g R n5 := rfl
        refine lv_iconst (v := nI 0) hx hb dX12_digest_181 (by decide) ?_
        refine lv_istore (lv' := [(5, .int (nI 0)), (4, .int (nI R)), (2, .long (dgG (dgR g n1 n4 n5) (dgG (dgS g n5) (dgF (manyN g n1 n5) 58124 9) n1) R)), (1, .ref ah), (0, .ref (ma 0 0))]) hx hb dX12_digest_182 hl (by decide) rfl (fun ls hl => ?_)
        refine lv_iload hx hb dX12_digest_184 (lv_at hl 0 rfl) ?_
        refine lv_bipush (v := nI 7) hx hb dX12_digest_186 (by decide) ?_
        refine lv_icmp_ge (tgt := 212) hx hb dX12_digest_188 (by decide) (fun c_23 => ?_) (fun c_23 => ?_)
        · have c_23 := zn_geT (a := 0) (b := 7) (by omega) (by omega) c_23
          omega
        · have c_23 := zn_geF (a := 0) (b := 7) (by omega) (by omega) c_23
          refine lv_lload_n hx hb dX12_digest_191 rfl (lv_at hl 2 rfl) ?_
          refine lv_aload_n hx hb dX12_digest_192 rfl (lv_at hl 4 rfl) ?_
          refine lv_aload_n hx hb dX12_digest_193 rfl (lv_at hl 3 rfl) ?_
          refine lv_iload hx hb dX12_digest_194 (lv_at hl 1 rfl) ?_
          refine lv_iload hx hb dX12_digest_196 (lv_at hl 0 rfl) ?_
          have hFc : ∀ q : Nat, H.size ≤ q → A q := fun q h => hM.2.2 q h
          refine va_calli (va_runV (As := [.ref ah, .int (nI R), .int (nI 0)]) (rest := [.long (dgG (dgR g n1 n4 n5) (dgG (dgS g n5) (dgF (manyN g n1 n5) 58124 9) n1) R)]) ⟨hx, hb, hml, hown, hts⟩ (c_X12_ofReaderNow_0t l D ty A u C_1 ma t0 mi g n1 n2 nL n4 n5 (nI 0) rep bro hR_3 _ H.size R (by omega)) (cwV 3 hts gX12_digest_X12_ofReaderNow rfl rfl rfl (by decide +kernel) ⟨Nat.le_of_ble_eq_true rfl, Nat.le_of_ble_eq_true rfl⟩) ⟨zBl mIhs_blind, (va_recv hK (hM.Pa hR_3.o.1 rfl hR_3.o.2) (ci := 13) (q0 := 0) rfl rfl), fun U h1 h2 => ⟨rfl, mIh_pre hM hK hMS hS hA U h1 h2, by rw [h1]⟩⟩ rfl rfl hl.1 rfl (lv_room (Nat.le_of_ble_eq_true rfl)) dX12_digest_198 ⟨by show _ ≤ 579 + 17 * n5; omega, by show _ ≤ 3521 + 174 * n5; omega⟩) hS (fun q _ h => hFc q h) hFc (fun r_24 u9 t H1 locs ht hvm hw hB9 hz1 hk1 hS => ?_)
          have ho9 : ∀ q : Nat, q < H.size → H1[q]? = H[q]? := fun q hq => hk1 q hq (Nat.not_le.mpr hq)
          have hM := hM.ext (fun q hq _ => ho9 q hq) hz1
          have hA := hA.kept ho9
          clear hk1 hz1 hvm ht hB9 ho9 hFc
          clear t
          generalize H1 = H at hM hS hA ⊢
          have hr_24 := hw
          subst hr_24
          refine lv_i2l hx hb dX12_digest_201 rfl ?_
          refine zcSl (As := [.long (dgG (dgR g n1 n4 n5) (dgG (dgS g n5) (dgF (manyN g n1 n5) 58124 9) n1) R), .long ((ofReaderN g n4 n5 R 0).toInt64)]) (rest := []) ⟨hx, hb, hml, hown, hts⟩ (c_X12_add l _ (dgG (dgR g n1 n4 n5) (dgG (dgS g n5) (dgF (manyN g n1 n5) 58124 9) n1) R) ((ofReaderN g n4 n5 R 0).toInt64)) (cwS 2 hts gX12_digest_X12_add rfl rfl rfl (by decide +kernel) ⟨Nat.le_of_ble_eq_true rfl, Nat.le_of_ble_eq_true rfl⟩) (B := fun _ => True) (fun _ _ _ _ _ => trivial) (fun _ _ _ => trivial) rfl hl.1 rfl (Nat.le_of_ble_eq_true rfl) dX12_digest_202 ⟨by show _ ≤ 579 + 17 * n5; omega, by show _ ≤ 3521 + 174 * n5; omega⟩ (fun r_25 hr_25 => ?_)
          subst hr_25
          refine lv_lstore_n (lv' := [(2, .long ((dgG (dgR g n1 n4 n5) (dgG (dgS g n5) (dgF (manyN g n1 n5) 58124 9) n1) R) * 31 + ((ofReaderN g n4 n5 R 0).toInt64))), (5, .int (nI 0)), (4, .int (nI R)), (1, .ref ah), (0, .ref (ma 0 0))]) hx hb dX12_digest_205 rfl hl (by decide) rfl (fun ls hl => ?_)
          refine lv_iinc (v := nI 1) (lv' := [(5, .int (nI 1)), (2, .long ((dgG (dgR g n1 n4 n5) (dgG (dgS g n5) (dgF (manyN g n1 n5) 58124 9) n1) R) * 31 + ((ofReaderN g n4 n5 R 0).toInt64))), (4, .int (nI R)), (1, .ref ah), (0, .ref (ma 0 0))]) hx hb dX12_digest_206 hl (k := 1) rfl (nI_add 0 1) (by decide) rfl (fun ls hl => ?_)
          refine lv_goto (tgt := 184) hx hb dX12_digest_209 (by decide) ?_
          refine lv_iload hx hb dX12_digest_184 (lv_at hl 0 rfl) ?_
          refine lv_bipush (v := nI 7) hx hb dX12_digest_186 (by decide) ?_
          refine lv_icmp_ge (tgt := 212) hx hb dX12_digest_188 (by decide) (fun c_26 => ?_) (fun c_26 => ?_)
          · have c_26 := zn_geT (a := 1) (b := 7) (by omega) (by omega) c_26
            omega
          · have c_26 := zn_geF (a := 1) (b := 7) (by omega) (by omega) c_26
            refine lv_lload_n hx hb dX12_digest_191 rfl (lv_at hl 1 rfl) ?_
            refine lv_aload_n hx hb dX12_digest_192 rfl (lv_at hl 4 rfl) ?_
            refine lv_aload_n hx hb dX12_digest_193 rfl (lv_at hl 3 rfl) ?_
            refine lv_iload hx hb dX12_digest_194 (lv_at hl 2 rfl) ?_
            refine lv_iload hx hb dX12_digest_196 (lv_at hl 0 rfl) ?_
            have hFc : ∀ q : Nat, H.size ≤ q → A q := fun q h => hM.2.2 q h
            refine va_calli (va_runV (As := [.ref ah, .int (nI R), .int (nI 1)]) (rest := [.long ((dgG (dgR g n1 n4 n5) (dgG (dgS g n5) (dgF (manyN g n1 n5) 58124 9) n1) R) * 31 + ((ofReaderN g n4 n5 R 0).toInt64))]) ⟨hx, hb, hml, hown, hts⟩ (c_X12_ofReaderNow_1 l D ty A u C_1 ma t0 mi g n1 n2 nL n4 n5 (nI 0) rep bro hR_3 _ H.size R (by omega)) (cwV 3 hts gX12_digest_X12_ofReaderNow rfl rfl rfl (by decide +kernel) ⟨Nat.le_of_ble_eq_true rfl, Nat.le_of_ble_eq_true rfl⟩) ⟨zBl mIhs_blind, (va_recv hK (hM.Pa hR_3.o.1 rfl hR_3.o.2) (ci := 13) (q0 := 0) rfl rfl), fun U h1 h2 => ⟨rfl, mIh_pre hM hK hMS hS hA U h1 h2, by rw [h1]⟩⟩ rfl rfl hl.1 rfl (lv_room (Nat.le_of_ble_eq_true rfl)) dX12_digest_198 ⟨by show _ ≤ 579 + 17 * n5; omega, by show _ ≤ 3521 + 174 * n5; omega⟩) hS (fun q _ h => hFc q h) hFc (fun r_27 u9 t H1 locs ht hvm hw hB9 hz1 hk1 hS => ?_)
            have ho9 : ∀ q : Nat, q < H.size → H1[q]? = H[q]? := fun q hq => hk1 q hq (Nat.not_le.mpr hq)
            have hM := hM.ext (fun q hq _ => ho9 q hq) hz1
            have hA := hA.kept ho9
            clear hk1 hz1 hvm ht hB9 ho9 hFc
            clear t
            generalize H1 = H at hM hS hA ⊢
            have hr_27 := hw
            subst hr_27
            refine lv_i2l hx hb dX12_digest_201 rfl ?_
            refine zcSl (As := [.long ((dgG (dgR g n1 n4 n5) (dgG (dgS g n5) (dgF (manyN g n1 n5) 58124 9) n1) R) * 31 + ((ofReaderN g n4 n5 R 0).toInt64)), .long ((ofReaderN g n4 n5 R 1).toInt64)]) (rest := []) ⟨hx, hb, hml, hown, hts⟩ (c_X12_add l _ ((dgG (dgR g n1 n4 n5) (dgG (dgS g n5) (dgF (manyN g n1 n5) 58124 9) n1) R) * 31 + ((ofReaderN g n4 n5 R 0).toInt64)) ((ofReaderN g n4 n5 R 1).toInt64)) (cwS 2 hts gX12_digest_X12_add rfl rfl rfl (by decide +kernel) ⟨Nat.le_of_ble_eq_true rfl, Nat.le_of_ble_eq_true rfl⟩) (B := fun _ => True) (fun _ _ _ _ _ => trivial) (fun _ _ _ => trivial) rfl hl.1 rfl (Nat.le_of_ble_eq_true rfl) dX12_digest_202 ⟨by show _ ≤ 579 + 17 * n5; omega, by show _ ≤ 3521 + 174 * n5; omega⟩ (fun r_28 hr_28 => ?_)
            subst hr_28
            refine lv_lstore_n (lv' := [(2, .long (((dgG (dgR g n1 n4 n5) (dgG (dgS g n5) (dgF (manyN g n1 n5) 58124 9) n1) R) * 31 + ((ofReaderN g n4 n5 R 0).toInt64)) * 31 + ((ofReaderN g n4 n5 R 1).toInt64))), (5, .int (nI 1)), (4, .int (nI R)), (1, .ref ah), (0, .ref (ma 0 0))]) hx hb dX12_digest_205 rfl hl (by decide) rfl (fun ls hl => ?_)
            refine lv_iinc (v := nI 2) (lv' := [(5, .int (nI 2)), (2, .long (((dgG (dgR g n1 n4 n5) (dgG (dgS g n5) (dgF (manyN g n1 n5) 58124 9) n1) R) * 31 + ((ofReaderN g n4 n5 R 0).toInt64)) * 31 + ((ofReaderN g n4 n5 R 1).toInt64))), (4, .int (nI R)), (1, .ref ah), (0, .ref (ma 0 0))]) hx hb dX12_digest_206 hl (k := 1) rfl (nI_add 1 1) (by decide) rfl (fun ls hl => ?_)
            refine lv_goto (tgt := 184) hx hb dX12_digest_209 (by decide) ?_
            refine lv_iload hx hb dX12_digest_184 (lv_at hl 0 rfl) ?_
            refine lv_bipush (v := nI 7) hx hb dX12_digest_186 (by decide) ?_
            refine lv_icmp_ge (tgt := 212) hx hb dX12_digest_188 (by decide) (fun c_29 => ?_) (fun c_29 => ?_)
            · have c_29 := zn_geT (a := 2) (b := 7) (by omega) (by omega) c_29
              omega
            · have c_29 := zn_geF (a := 2) (b := 7) (by omega) (by omega) c_29
              refine lv_lload_n hx hb dX12_digest_191 rfl (lv_at hl 1 rfl) ?_
              refine lv_aload_n hx hb dX12_digest_192 rfl (lv_at hl 4 rfl) ?_
              refine lv_aload_n hx hb dX12_digest_193 rfl (lv_at hl 3 rfl) ?_
              refine lv_iload hx hb dX12_digest_194 (lv_at hl 2 rfl) ?_
              refine lv_iload hx hb dX12_digest_196 (lv_at hl 0 rfl) ?_
              have hFc : ∀ q : Nat, H.size ≤ q → A q := fun q h => hM.2.2 q h
              refine va_calli (va_runV (As := [.ref ah, .int (nI R), .int (nI 2)]) (rest := [.long (((dgG (dgR g n1 n4 n5) (dgG (dgS g n5) (dgF (manyN g n1 n5) 58124 9) n1) R) * 31 + ((ofReaderN g n4 n5 R 0).toInt64)) * 31 + ((ofReaderN g n4 n5 R 1).toInt64))]) ⟨hx, hb, hml, hown, hts⟩ (c_X12_ofReaderNow_2 l D ty A u C_1 ma t0 mi g n1 n2 nL n4 n5 (nI 0) rep bro hR_3 _ H.size R (by omega)) (cwV 3 hts gX12_digest_X12_ofReaderNow rfl rfl rfl (by decide +kernel) ⟨Nat.le_of_ble_eq_true rfl, Nat.le_of_ble_eq_true rfl⟩) ⟨zBl mIhs_blind, (va_recv hK (hM.Pa hR_3.o.1 rfl hR_3.o.2) (ci := 13) (q0 := 0) rfl rfl), fun U h1 h2 => ⟨rfl, mIh_pre hM hK hMS hS hA U h1 h2, by rw [h1]⟩⟩ rfl rfl hl.1 rfl (lv_room (Nat.le_of_ble_eq_true rfl)) dX12_digest_198 ⟨by show _ ≤ 579 + 17 * n5; omega, by show _ ≤ 3521 + 174 * n5; omega⟩) hS (fun q _ h => hFc q h) hFc (fun r_30 u9 t H1 locs ht hvm hw hB9 hz1 hk1 hS => ?_)
              have ho9 : ∀ q : Nat, q < H.size → H1[q]? = H[q]? := fun q hq => hk1 q hq (Nat.not_le.mpr hq)
              have hM := hM.ext (fun q hq _ => ho9 q hq) hz1
              have hA := hA.kept ho9
              clear hk1 hz1 hvm ht hB9 ho9 hFc
              clear t
              generalize H1 = H at hM hS hA ⊢
              have hr_30 := hw
              subst hr_30
              refine lv_i2l hx hb dX12_digest_201 rfl ?_
              refine zcSl (As := [.long (((dgG (dgR g n1 n4 n5) (dgG (dgS g n5) (dgF (manyN g n1 n5) 58124 9) n1) R) * 31 + ((ofReaderN g n4 n5 R 0).toInt64)) * 31 + ((ofReaderN g n4 n5 R 1).toInt64)), .long ((ofReaderN g n4 n5 R 2).toInt64)]) (rest := []) ⟨hx, hb, hml, hown, hts⟩ (c_X12_add l _ (((dgG (dgR g n1 n4 n5) (dgG (dgS g n5) (dgF (manyN g n1 n5) 58124 9) n1) R) * 31 + ((ofReaderN g n4 n5 R 0).toInt64)) * 31 + ((ofReaderN g n4 n5 R 1).toInt64)) ((ofReaderN g n4 n5 R 2).toInt64)) (cwS 2 hts gX12_digest_X12_add rfl rfl rfl (by decide +kernel) ⟨Nat.le_of_ble_eq_true rfl, Nat.le_of_ble_eq_true rfl⟩) (B := fun _ => True) (fun _ _ _ _ _ => trivial) (fun _ _ _ => trivial) rfl hl.1 rfl (Nat.le_of_ble_eq_true rfl) dX12_digest_202 ⟨by show _ ≤ 579 + 17 * n5; omega, by show _ ≤ 3521 + 174 * n5; omega⟩ (fun r_31 hr_31 => ?_)
              subst hr_31
              refine lv_lstore_n (lv' := [(2, .long ((((dgG (dgR g n1 n4 n5) (dgG (dgS g n5) (dgF (manyN g n1 n5) 58124 9) n1) R) * 31 + ((ofReaderN g n4 n5 R 0).toInt64)) * 31 + ((ofReaderN g n4 n5 R 1).toInt64)) * 31 + ((ofReaderN g n4 n5 R 2).toInt64))), (5, .int (nI 2)), (4, .int (nI R)), (1, .ref ah), (0, .ref (ma 0 0))]) hx hb dX12_digest_205 rfl hl (by decide) rfl (fun ls hl => ?_)
              refine lv_iinc (v := nI 3) (lv' := [(5, .int (nI 3)), (2, .long ((((dgG (dgR g n1 n4 n5) (dgG (dgS g n5) (dgF (manyN g n1 n5) 58124 9) n1) R) * 31 + ((ofReaderN g n4 n5 R 0).toInt64)) * 31 + ((ofReaderN g n4 n5 R 1).toInt64)) * 31 + ((ofReaderN g n4 n5 R 2).toInt64))), (4, .int (nI R)), (1, .ref ah), (0, .ref (ma 0 0))]) hx hb dX12_digest_206 hl (k := 1) rfl (nI_add 2 1) (by decide) rfl (fun ls hl => ?_)
              refine lv_goto (tgt := 184) hx hb dX12_digest_209 (by decide) ?_
              refine lv_iload hx hb dX12_digest_184 (lv_at hl 0 rfl) ?_
              refine lv_bipush (v := nI 7) hx hb dX12_digest_186 (by decide) ?_
              refine lv_icmp_ge (tgt := 212) hx hb dX12_digest_188 (by decide) (fun c_32 => ?_) (fun c_32 => ?_)
              · have c_32 := zn_geT (a := 3) (b := 7) (by omega) (by omega) c_32
                omega
              · have c_32 := zn_geF (a := 3) (b := 7) (by omega) (by omega) c_32
                refine lv_lload_n hx hb dX12_digest_191 rfl (lv_at hl 1 rfl) ?_
                refine lv_aload_n hx hb dX12_digest_192 rfl (lv_at hl 4 rfl) ?_
                refine lv_aload_n hx hb dX12_digest_193 rfl (lv_at hl 3 rfl) ?_
                refine lv_iload hx hb dX12_digest_194 (lv_at hl 2 rfl) ?_
                refine lv_iload hx hb dX12_digest_196 (lv_at hl 0 rfl) ?_
                have hFc : ∀ q : Nat, H.size ≤ q → A q := fun q h => hM.2.2 q h
                refine va_calli (va_runV (As := [.ref ah, .int (nI R), .int (nI 3)]) (rest := [.long ((((dgG (dgR g n1 n4 n5) (dgG (dgS g n5) (dgF (manyN g n1 n5) 58124 9) n1) R) * 31 + ((ofReaderN g n4 n5 R 0).toInt64)) * 31 + ((ofReaderN g n4 n5 R 1).toInt64)) * 31 + ((ofReaderN g n4 n5 R 2).toInt64))]) ⟨hx, hb, hml, hown, hts⟩ (c_X12_ofReaderNow_3 l D ty A u C_1 ma t0 mi g n1 n2 nL n4 n5 (nI 0) rep bro hR_3 _ H.size R (by omega)) (cwV 3 hts gX12_digest_X12_ofReaderNow rfl rfl rfl (by decide +kernel) ⟨Nat.le_of_ble_eq_true rfl, Nat.le_of_ble_eq_true rfl⟩) ⟨zBl mIhs_blind, (va_recv hK (hM.Pa hR_3.o.1 rfl hR_3.o.2) (ci := 13) (q0 := 0) rfl rfl), fun U h1 h2 => ⟨rfl, mIh_pre hM hK hMS hS hA U h1 h2, by rw [h1]⟩⟩ rfl rfl hl.1 rfl (lv_room (Nat.le_of_ble_eq_true rfl)) dX12_digest_198 ⟨by show _ ≤ 579 + 17 * n5; omega, by show _ ≤ 3521 + 174 * n5; omega⟩) hS (fun q _ h => hFc q h) hFc (fun r_33 u9 t H1 locs ht hvm hw hB9 hz1 hk1 hS => ?_)
                have ho9 : ∀ q : Nat, q < H.size → H1[q]? = H[q]? := fun q hq => hk1 q hq (Nat.not_le.mpr hq)
                have hM := hM.ext (fun q hq _ => ho9 q hq) hz1
                have hA := hA.kept ho9
                clear hk1 hz1 hvm ht hB9 ho9 hFc
                clear t
                generalize H1 = H at hM hS hA ⊢
                have hr_33 := hw
                subst hr_33
                refine lv_i2l hx hb dX12_digest_201 rfl ?_
                refine zcSl (As := [.long ((((dgG (dgR g n1 n4 n5) (dgG (dgS g n5) (dgF (manyN g n1 n5) 58124 9) n1) R) * 31 + ((ofReaderN g n4 n5 R 0).toInt64)) * 31 + ((ofReaderN g n4 n5 R 1).toInt64)) * 31 + ((ofReaderN g n4 n5 R 2).toInt64)), .long ((ofReaderN g n4 n5 R 3).toInt64)]) (rest := []) ⟨hx, hb, hml, hown, hts⟩ (c_X12_add l _ ((((dgG (dgR g n1 n4 n5) (dgG (dgS g n5) (dgF (manyN g n1 n5) 58124 9) n1) R) * 31 + ((ofReaderN g n4 n5 R 0).toInt64)) * 31 + ((ofReaderN g n4 n5 R 1).toInt64)) * 31 + ((ofReaderN g n4 n5 R 2).toInt64)) ((ofReaderN g n4 n5 R 3).toInt64)) (cwS 2 hts gX12_digest_X12_add rfl rfl rfl (by decide +kernel) ⟨Nat.le_of_ble_eq_true rfl, Nat.le_of_ble_eq_true rfl⟩) (B := fun _ => True) (fun _ _ _ _ _ => trivial) (fun _ _ _ => trivial) rfl hl.1 rfl (Nat.le_of_ble_eq_true rfl) dX12_digest_202 ⟨by show _ ≤ 579 + 17 * n5; omega, by show _ ≤ 3521 + 174 * n5; omega⟩ (fun r_34 hr_34 => ?_)
                subst hr_34
                refine lv_lstore_n (lv' := [(2, .long (((((dgG (dgR g n1 n4 n5) (dgG (dgS g n5) (dgF (manyN g n1 n5) 58124 9) n1) R) * 31 + ((ofReaderN g n4 n5 R 0).toInt64)) * 31 + ((ofReaderN g n4 n5 R 1).toInt64)) * 31 + ((ofReaderN g n4 n5 R 2).toInt64)) * 31 + ((ofReaderN g n4 n5 R 3).toInt64))), (5, .int (nI 3)), (4, .int (nI R)), (1, .ref ah), (0, .ref (ma 0 0))]) hx hb dX12_digest_205 rfl hl (by decide) rfl (fun ls hl => ?_)
                refine lv_iinc (v := nI 4) (lv' := [(5, .int (nI 4)), (2, .long (((((dgG (dgR g n1 n4 n5) (dgG (dgS g n5) (dgF (manyN g n1 n5) 58124 9) n1) R) * 31 + ((ofReaderN g n4 n5 R 0).toInt64)) * 31 + ((ofReaderN g n4 n5 R 1).toInt64)) * 31 + ((ofReaderN g n4 n5 R 2).toInt64)) * 31 + ((ofReaderN g n4 n5 R 3).toInt64))), (4, .int (nI R)), (1, .ref ah), (0, .ref (ma 0 0))]) hx hb dX12_digest_206 hl (k := 1) rfl (nI_add 3 1) (by decide) rfl (fun ls hl => ?_)
                refine lv_goto (tgt := 184) hx hb dX12_digest_209 (by decide) ?_
                refine lv_iload hx hb dX12_digest_184 (lv_at hl 0 rfl) ?_
                refine lv_bipush (v := nI 7) hx hb dX12_digest_186 (by decide) ?_
                refine lv_icmp_ge (tgt := 212) hx hb dX12_digest_188 (by decide) (fun c_35 => ?_) (fun c_35 => ?_)
                · have c_35 := zn_geT (a := 4) (b := 7) (by omega) (by omega) c_35
                  omega
                · have c_35 := zn_geF (a := 4) (b := 7) (by omega) (by omega) c_35
                  refine lv_lload_n hx hb dX12_digest_191 rfl (lv_at hl 1 rfl) ?_
                  refine lv_aload_n hx hb dX12_digest_192 rfl (lv_at hl 4 rfl) ?_
                  refine lv_aload_n hx hb dX12_digest_193 rfl (lv_at hl 3 rfl) ?_
                  refine lv_iload hx hb dX12_digest_194 (lv_at hl 2 rfl) ?_
                  refine lv_iload hx hb dX12_digest_196 (lv_at hl 0 rfl) ?_
                  have hFc : ∀ q : Nat, H.size ≤ q → A q := fun q h => hM.2.2 q h
                  refine va_calli (va_runV (As := [.ref ah, .int (nI R), .int (nI 4)]) (rest := [.long (((((dgG (dgR g n1 n4 n5) (dgG (dgS g n5) (dgF (manyN g n1 n5) 58124 9) n1) R) * 31 + ((ofReaderN g n4 n5 R 0).toInt64)) * 31 + ((ofReaderN g n4 n5 R 1).toInt64)) * 31 + ((ofReaderN g n4 n5 R 2).toInt64)) * 31 + ((ofReaderN g n4 n5 R 3).toInt64))]) ⟨hx, hb, hml, hown, hts⟩ (c_X12_ofReaderNow_4 l D ty A u C_1 ma t0 mi g n1 n2 nL n4 n5 (nI 0) rep bro hR_3 _ H.size R (by omega)) (cwV 3 hts gX12_digest_X12_ofReaderNow rfl rfl rfl (by decide +kernel) ⟨Nat.le_of_ble_eq_true rfl, Nat.le_of_ble_eq_true rfl⟩) ⟨zBl mIhs_blind, (va_recv hK (hM.Pa hR_3.o.1 rfl hR_3.o.2) (ci := 13) (q0 := 0) rfl rfl), fun U h1 h2 => ⟨rfl, mIh_pre hM hK hMS hS hA U h1 h2, by rw [h1]⟩⟩ rfl rfl hl.1 rfl (lv_room (Nat.le_of_ble_eq_true rfl)) dX12_digest_198 ⟨by show _ ≤ 579 + 17 * n5; omega, by show _ ≤ 3521 + 174 * n5; omega⟩) hS (fun q _ h => hFc q h) hFc (fun r_36 u9 t H1 locs ht hvm hw hB9 hz1 hk1 hS => ?_)
                  have ho9 : ∀ q : Nat, q < H.size → H1[q]? = H[q]? := fun q hq => hk1 q hq (Nat.not_le.mpr hq)
                  have hM := hM.ext (fun q hq _ => ho9 q hq) hz1
                  have hA := hA.kept ho9
                  clear hk1 hz1 hvm ht hB9 ho9 hFc
                  clear t
                  generalize H1 = H at hM hS hA ⊢
                  have hr_36 := hw
                  subst hr_36
                  refine lv_i2l hx hb dX12_digest_201 rfl ?_
                  refine zcSl (As := [.long (((((dgG (dgR g n1 n4 n5) (dgG (dgS g n5) (dgF (manyN g n1 n5) 58124 9) n1) R) * 31 + ((ofReaderN g n4 n5 R 0).toInt64)) * 31 + ((ofReaderN g n4 n5 R 1).toInt64)) * 31 + ((ofReaderN g n4 n5 R 2).toInt64)) * 31 + ((ofReaderN g n4 n5 R 3).toInt64)), .long ((ofReaderN g n4 n5 R 4).toInt64)]) (rest := []) ⟨hx, hb, hml, hown, hts⟩ (c_X12_add l _ (((((dgG (dgR g n1 n4 n5) (dgG (dgS g n5) (dgF (manyN g n1 n5) 58124 9) n1) R) * 31 + ((ofReaderN g n4 n5 R 0).toInt64)) * 31 + ((ofReaderN g n4 n5 R 1).toInt64)) * 31 + ((ofReaderN g n4 n5 R 2).toInt64)) * 31 + ((ofReaderN g n4 n5 R 3).toInt64)) ((ofReaderN g n4 n5 R 4).toInt64)) (cwS 2 hts gX12_digest_X12_add rfl rfl rfl (by decide +kernel) ⟨Nat.le_of_ble_eq_true rfl, Nat.le_of_ble_eq_true rfl⟩) (B := fun _ => True) (fun _ _ _ _ _ => trivial) (fun _ _ _ => trivial) rfl hl.1 rfl (Nat.le_of_ble_eq_true rfl) dX12_digest_202 ⟨by show _ ≤ 579 + 17 * n5; omega, by show _ ≤ 3521 + 174 * n5; omega⟩ (fun r_37 hr_37 => ?_)
                  subst hr_37
                  refine lv_lstore_n (lv' := [(2, .long ((((((dgG (dgR g n1 n4 n5) (dgG (dgS g n5) (dgF (manyN g n1 n5) 58124 9) n1) R) * 31 + ((ofReaderN g n4 n5 R 0).toInt64)) * 31 + ((ofReaderN g n4 n5 R 1).toInt64)) * 31 + ((ofReaderN g n4 n5 R 2).toInt64)) * 31 + ((ofReaderN g n4 n5 R 3).toInt64)) * 31 + ((ofReaderN g n4 n5 R 4).toInt64))), (5, .int (nI 4)), (4, .int (nI R)), (1, .ref ah), (0, .ref (ma 0 0))]) hx hb dX12_digest_205 rfl hl (by decide) rfl (fun ls hl => ?_)
                  refine lv_iinc (v := nI 5) (lv' := [(5, .int (nI 5)), (2, .long ((((((dgG (dgR g n1 n4 n5) (dgG (dgS g n5) (dgF (manyN g n1 n5) 58124 9) n1) R) * 31 + ((ofReaderN g n4 n5 R 0).toInt64)) * 31 + ((ofReaderN g n4 n5 R 1).toInt64)) * 31 + ((ofReaderN g n4 n5 R 2).toInt64)) * 31 + ((ofReaderN g n4 n5 R 3).toInt64)) * 31 + ((ofReaderN g n4 n5 R 4).toInt64))), (4, .int (nI R)), (1, .ref ah), (0, .ref (ma 0 0))]) hx hb dX12_digest_206 hl (k := 1) rfl (nI_add 4 1) (by decide) rfl (fun ls hl => ?_)
                  refine lv_goto (tgt := 184) hx hb dX12_digest_209 (by decide) ?_
                  refine lv_iload hx hb dX12_digest_184 (lv_at hl 0 rfl) ?_
                  refine lv_bipush (v := nI 7) hx hb dX12_digest_186 (by decide) ?_
                  refine lv_icmp_ge (tgt := 212) hx hb dX12_digest_188 (by decide) (fun c_38 => ?_) (fun c_38 => ?_)
                  · have c_38 := zn_geT (a := 5) (b := 7) (by omega) (by omega) c_38
                    omega
                  · have c_38 := zn_geF (a := 5) (b := 7) (by omega) (by omega) c_38
                    refine lv_lload_n hx hb dX12_digest_191 rfl (lv_at hl 1 rfl) ?_
                    refine lv_aload_n hx hb dX12_digest_192 rfl (lv_at hl 4 rfl) ?_
                    refine lv_aload_n hx hb dX12_digest_193 rfl (lv_at hl 3 rfl) ?_
                    refine lv_iload hx hb dX12_digest_194 (lv_at hl 2 rfl) ?_
                    refine lv_iload hx hb dX12_digest_196 (lv_at hl 0 rfl) ?_
                    have hFc : ∀ q : Nat, H.size ≤ q → A q := fun q h => hM.2.2 q h
                    refine va_calli (va_runV (As := [.ref ah, .int (nI R), .int (nI 5)]) (rest := [.long ((((((dgG (dgR g n1 n4 n5) (dgG (dgS g n5) (dgF (manyN g n1 n5) 58124 9) n1) R) * 31 + ((ofReaderN g n4 n5 R 0).toInt64)) * 31 + ((ofReaderN g n4 n5 R 1).toInt64)) * 31 + ((ofReaderN g n4 n5 R 2).toInt64)) * 31 + ((ofReaderN g n4 n5 R 3).toInt64)) * 31 + ((ofReaderN g n4 n5 R 4).toInt64))]) ⟨hx, hb, hml, hown, hts⟩ (c_X12_ofReaderNow_5 l D ty A u C_1 ma t0 mi g n1 n2 nL n4 n5 (nI 0) rep bro hR_3 _ H.size R (by omega)) (cwV 3 hts gX12_digest_X12_ofReaderNow rfl rfl rfl (by decide +kernel) ⟨Nat.le_of_ble_eq_true rfl, Nat.le_of_ble_eq_true rfl⟩) ⟨zBl mIhs_blind, (va_recv hK (hM.Pa hR_3.o.1 rfl hR_3.o.2) (ci := 13) (q0 := 0) rfl rfl), fun U h1 h2 => ⟨rfl, mIh_pre hM hK hMS hS hA U h1 h2, by rw [h1]⟩⟩ rfl rfl hl.1 rfl (lv_room (Nat.le_of_ble_eq_true rfl)) dX12_digest_198 ⟨by show _ ≤ 579 + 17 * n5; omega, by show _ ≤ 3521 + 174 * n5; omega⟩) hS (fun q _ h => hFc q h) hFc (fun r_39 u9 t H1 locs ht hvm hw hB9 hz1 hk1 hS => ?_)
                    have ho9 : ∀ q : Nat, q < H.size → H1[q]? = H[q]? := fun q hq => hk1 q hq (Nat.not_le.mpr hq)
                    have hM := hM.ext (fun q hq _ => ho9 q hq) hz1
                    have hA := hA.kept ho9
                    clear hk1 hz1 hvm ht hB9 ho9 hFc
                    clear t
                    generalize H1 = H at hM hS hA ⊢
                    have hr_39 := hw
                    subst hr_39
                    refine lv_i2l hx hb dX12_digest_201 rfl ?_
                    refine zcSl (As := [.long ((((((dgG (dgR g n1 n4 n5) (dgG (dgS g n5) (dgF (manyN g n1 n5) 58124 9) n1) R) * 31 + ((ofReaderN g n4 n5 R 0).toInt64)) * 31 + ((ofReaderN g n4 n5 R 1).toInt64)) * 31 + ((ofReaderN g n4 n5 R 2).toInt64)) * 31 + ((ofReaderN g n4 n5 R 3).toInt64)) * 31 + ((ofReaderN g n4 n5 R 4).toInt64)), .long ((ofReaderN g n4 n5 R 5).toInt64)]) (rest := []) ⟨hx, hb, hml, hown, hts⟩ (c_X12_add l _ ((((((dgG (dgR g n1 n4 n5) (dgG (dgS g n5) (dgF (manyN g n1 n5) 58124 9) n1) R) * 31 + ((ofReaderN g n4 n5 R 0).toInt64)) * 31 + ((ofReaderN g n4 n5 R 1).toInt64)) * 31 + ((ofReaderN g n4 n5 R 2).toInt64)) * 31 + ((ofReaderN g n4 n5 R 3).toInt64)) * 31 + ((ofReaderN g n4 n5 R 4).toInt64)) ((ofReaderN g n4 n5 R 5).toInt64)) (cwS 2 hts gX12_digest_X12_add rfl rfl rfl (by decide +kernel) ⟨Nat.le_of_ble_eq_true rfl, Nat.le_of_ble_eq_true rfl⟩) (B := fun _ => True) (fun _ _ _ _ _ => trivial) (fun _ _ _ => trivial) rfl hl.1 rfl (Nat.le_of_ble_eq_true rfl) dX12_digest_202 ⟨by show _ ≤ 579 + 17 * n5; omega, by show _ ≤ 3521 + 174 * n5; omega⟩ (fun r_40 hr_40 => ?_)
                    subst hr_40
                    refine lv_lstore_n (lv' := [(2, .long (((((((dgG (dgR g n1 n4 n5) (dgG (dgS g n5) (dgF (manyN g n1 n5) 58124 9) n1) R) * 31 + ((ofReaderN g n4 n5 R 0).toInt64)) * 31 + ((ofReaderN g n4 n5 R 1).toInt64)) * 31 + ((ofReaderN g n4 n5 R 2).toInt64)) * 31 + ((ofReaderN g n4 n5 R 3).toInt64)) * 31 + ((ofReaderN g n4 n5 R 4).toInt64)) * 31 + ((ofReaderN g n4 n5 R 5).toInt64))), (5, .int (nI 5)), (4, .int (nI R)), (1, .ref ah), (0, .ref (ma 0 0))]) hx hb dX12_digest_205 rfl hl (by decide) rfl (fun ls hl => ?_)
                    refine lv_iinc (v := nI 6) (lv' := [(5, .int (nI 6)), (2, .long (((((((dgG (dgR g n1 n4 n5) (dgG (dgS g n5) (dgF (manyN g n1 n5) 58124 9) n1) R) * 31 + ((ofReaderN g n4 n5 R 0).toInt64)) * 31 + ((ofReaderN g n4 n5 R 1).toInt64)) * 31 + ((ofReaderN g n4 n5 R 2).toInt64)) * 31 + ((ofReaderN g n4 n5 R 3).toInt64)) * 31 + ((ofReaderN g n4 n5 R 4).toInt64)) * 31 + ((ofReaderN g n4 n5 R 5).toInt64))), (4, .int (nI R)), (1, .ref ah), (0, .ref (ma 0 0))]) hx hb dX12_digest_206 hl (k := 1) rfl (nI_add 5 1) (by decide) rfl (fun ls hl => ?_)
                    refine lv_goto (tgt := 184) hx hb dX12_digest_209 (by decide) ?_
                    refine lv_iload hx hb dX12_digest_184 (lv_at hl 0 rfl) ?_
                    refine lv_bipush (v := nI 7) hx hb dX12_digest_186 (by decide) ?_
                    refine lv_icmp_ge (tgt := 212) hx hb dX12_digest_188 (by decide) (fun c_41 => ?_) (fun c_41 => ?_)
                    · have c_41 := zn_geT (a := 6) (b := 7) (by omega) (by omega) c_41
                      omega
                    · have c_41 := zn_geF (a := 6) (b := 7) (by omega) (by omega) c_41
                      refine lv_lload_n hx hb dX12_digest_191 rfl (lv_at hl 1 rfl) ?_
                      refine lv_aload_n hx hb dX12_digest_192 rfl (lv_at hl 4 rfl) ?_
                      refine lv_aload_n hx hb dX12_digest_193 rfl (lv_at hl 3 rfl) ?_
                      refine lv_iload hx hb dX12_digest_194 (lv_at hl 2 rfl) ?_
                      refine lv_iload hx hb dX12_digest_196 (lv_at hl 0 rfl) ?_
                      have hFc : ∀ q : Nat, H.size ≤ q → A q := fun q h => hM.2.2 q h
                      refine va_calli (va_runV (As := [.ref ah, .int (nI R), .int (nI 6)]) (rest := [.long (((((((dgG (dgR g n1 n4 n5) (dgG (dgS g n5) (dgF (manyN g n1 n5) 58124 9) n1) R) * 31 + ((ofReaderN g n4 n5 R 0).toInt64)) * 31 + ((ofReaderN g n4 n5 R 1).toInt64)) * 31 + ((ofReaderN g n4 n5 R 2).toInt64)) * 31 + ((ofReaderN g n4 n5 R 3).toInt64)) * 31 + ((ofReaderN g n4 n5 R 4).toInt64)) * 31 + ((ofReaderN g n4 n5 R 5).toInt64))]) ⟨hx, hb, hml, hown, hts⟩ (c_X12_ofReaderNow_6t l D ty A u C_1 ma t0 mi g n1 n2 nL n4 n5 (nI 0) rep bro hR_3 _ H.size R (by omega)) (cwV 3 hts gX12_digest_X12_ofReaderNow rfl rfl rfl (by decide +kernel) ⟨Nat.le_of_ble_eq_true rfl, Nat.le_of_ble_eq_true rfl⟩) ⟨zBl mIhs_blind, (va_recv hK (hM.Pa hR_3.o.1 rfl hR_3.o.2) (ci := 13) (q0 := 0) rfl rfl), fun U h1 h2 => ⟨rfl, mIh_pre hM hK hMS hS hA U h1 h2, by rw [h1]⟩⟩ rfl rfl hl.1 rfl (lv_room (Nat.le_of_ble_eq_true rfl)) dX12_digest_198 ⟨by show _ ≤ 579 + 17 * n5; omega, by show _ ≤ 3521 + 174 * n5; omega⟩) hS (fun q _ h => hFc q h) hFc (fun r_42 u9 t H1 locs ht hvm hw hB9 hz1 hk1 hS => ?_)
                      have ho9 : ∀ q : Nat, q < H.size → H1[q]? = H[q]? := fun q hq => hk1 q hq (Nat.not_le.mpr hq)
                      have hM := hM.ext (fun q hq _ => ho9 q hq) hz1
                      have hA := hA.kept ho9
                      clear hk1 hz1 hvm ht hB9 ho9 hFc
                      clear t
                      generalize H1 = H at hM hS hA ⊢
                      have hr_42 := hw
                      subst hr_42
                      refine lv_i2l hx hb dX12_digest_201 rfl ?_
                      refine zcSl (As := [.long (((((((dgG (dgR g n1 n4 n5) (dgG (dgS g n5) (dgF (manyN g n1 n5) 58124 9) n1) R) * 31 + ((ofReaderN g n4 n5 R 0).toInt64)) * 31 + ((ofReaderN g n4 n5 R 1).toInt64)) * 31 + ((ofReaderN g n4 n5 R 2).toInt64)) * 31 + ((ofReaderN g n4 n5 R 3).toInt64)) * 31 + ((ofReaderN g n4 n5 R 4).toInt64)) * 31 + ((ofReaderN g n4 n5 R 5).toInt64)), .long ((ofReaderN g n4 n5 R 6).toInt64)]) (rest := []) ⟨hx, hb, hml, hown, hts⟩ (c_X12_add l _ (((((((dgG (dgR g n1 n4 n5) (dgG (dgS g n5) (dgF (manyN g n1 n5) 58124 9) n1) R) * 31 + ((ofReaderN g n4 n5 R 0).toInt64)) * 31 + ((ofReaderN g n4 n5 R 1).toInt64)) * 31 + ((ofReaderN g n4 n5 R 2).toInt64)) * 31 + ((ofReaderN g n4 n5 R 3).toInt64)) * 31 + ((ofReaderN g n4 n5 R 4).toInt64)) * 31 + ((ofReaderN g n4 n5 R 5).toInt64)) ((ofReaderN g n4 n5 R 6).toInt64)) (cwS 2 hts gX12_digest_X12_add rfl rfl rfl (by decide +kernel) ⟨Nat.le_of_ble_eq_true rfl, Nat.le_of_ble_eq_true rfl⟩) (B := fun _ => True) (fun _ _ _ _ _ => trivial) (fun _ _ _ => trivial) rfl hl.1 rfl (Nat.le_of_ble_eq_true rfl) dX12_digest_202 ⟨by show _ ≤ 579 + 17 * n5; omega, by show _ ≤ 3521 + 174 * n5; omega⟩ (fun r_43 hr_43 => ?_)
                      subst hr_43
                      refine lv_lstore_n (lv' := [(2, .long ((((((((dgG (dgR g n1 n4 n5) (dgG (dgS g n5) (dgF (manyN g n1 n5) 58124 9) n1) R) * 31 + ((ofReaderN g n4 n5 R 0).toInt64)) * 31 + ((ofReaderN g n4 n5 R 1).toInt64)) * 31 + ((ofReaderN g n4 n5 R 2).toInt64)) * 31 + ((ofReaderN g n4 n5 R 3).toInt64)) * 31 + ((ofReaderN g n4 n5 R 4).toInt64)) * 31 + ((ofReaderN g n4 n5 R 5).toInt64)) * 31 + ((ofReaderN g n4 n5 R 6).toInt64))), (5, .int (nI 6)), (4, .int (nI R)), (1, .ref ah), (0, .ref (ma 0 0))]) hx hb dX12_digest_205 rfl hl (by decide) rfl (fun ls hl => ?_)
                      refine lv_iinc (v := nI 7) (lv' := [(5, .int (nI 7)), (2, .long ((((((((dgG (dgR g n1 n4 n5) (dgG (dgS g n5) (dgF (manyN g n1 n5) 58124 9) n1) R) * 31 + ((ofReaderN g n4 n5 R 0).toInt64)) * 31 + ((ofReaderN g n4 n5 R 1).toInt64)) * 31 + ((ofReaderN g n4 n5 R 2).toInt64)) * 31 + ((ofReaderN g n4 n5 R 3).toInt64)) * 31 + ((ofReaderN g n4 n5 R 4).toInt64)) * 31 + ((ofReaderN g n4 n5 R 5).toInt64)) * 31 + ((ofReaderN g n4 n5 R 6).toInt64))), (4, .int (nI R)), (1, .ref ah), (0, .ref (ma 0 0))]) hx hb dX12_digest_206 hl (k := 1) rfl (nI_add 6 1) (by decide) rfl (fun ls hl => ?_)
                      refine lv_goto (tgt := 184) hx hb dX12_digest_209 (by decide) ?_
                      refine lv_iload hx hb dX12_digest_184 (lv_at hl 0 rfl) ?_
                      refine lv_bipush (v := nI 7) hx hb dX12_digest_186 (by decide) ?_
                      refine lv_icmp_ge (tgt := 212) hx hb dX12_digest_188 (by decide) (fun c_44 => ?_) (fun c_44 => ?_)
                      · have c_44 := zn_geT (a := 7) (b := 7) (by omega) (by omega) c_44
                        refine lv_iconst (v := nI 0) hx hb dX12_digest_212 (by decide) ?_
                        refine lv_istore (lv' := [(5, .int (nI 0)), (2, .long ((((((((dgG (dgR g n1 n4 n5) (dgG (dgS g n5) (dgF (manyN g n1 n5) 58124 9) n1) R) * 31 + ((ofReaderN g n4 n5 R 0).toInt64)) * 31 + ((ofReaderN g n4 n5 R 1).toInt64)) * 31 + ((ofReaderN g n4 n5 R 2).toInt64)) * 31 + ((ofReaderN g n4 n5 R 3).toInt64)) * 31 + ((ofReaderN g n4 n5 R 4).toInt64)) * 31 + ((ofReaderN g n4 n5 R 5).toInt64)) * 31 + ((ofReaderN g n4 n5 R 6).toInt64))), (4, .int (nI R)), (1, .ref ah), (0, .ref (ma 0 0))]) hx hb dX12_digest_213 hl (by decide) rfl (fun ls hl => ?_)
                        refine zloopP (τ := Unit) (fun j _ ls => lv_has ls 7 [(5, .int (nI j)), (2, .long (dgG (dgC g n4 R) (dgF (ofReaderN g n4 n5 R) (dgG (dgR g n1 n4 n5) (dgG (dgS g n5) (dgF (manyN g n1 n5) 58124 9) n1) R) 7) j)), (4, .int (nI R)), (1, .ref ah), (0, .ref (ma 0 0))]) n1 ?_ 0 () ls (Nat.zero_le _) (lv_sub hl [0, 1, 2, 3, 4] rfl)
                        intro j _ ls hi_j hl ih_j
                        have hl : lv_has ls 7 [(5, .int (nI j)), (2, .long (dgG (dgC g n4 R) (dgF (ofReaderN g n4 n5 R) (dgG (dgR g n1 n4 n5) (dgG (dgS g n5) (dgF (manyN g n1 n5) 58124 9) n1) R) 7) j)), (4, .int (nI R)), (1, .ref ah), (0, .ref (ma 0 0))] := hl
                        refine lv_iload hx hb dX12_digest_215 (lv_at hl 0 rfl) ?_
                        refine lv_aload_n hx hb dX12_digest_217 rfl (lv_at hl 4 rfl) ?_
                        refine va_get hx hb hts hinX12 hown hK (hM.Pa hR_3.o.1 rfl hR_3.o.2) 0 rfl rfl 1 (by decide) (hk2) (fun _ h9 => h9) rfl dX12_digest_218 ?_
                        obtain ⟨huz_45, hnz_45, mz_45, bz_45, hCz_45⟩ := isL.hd hR_3.l1
                        refine zcVi (As := []) (rest := [.int (nI j)]) ⟨hx, hb, hml, hown, hts⟩ (c_size l D ty A u C_1 ma t0 mi 1 0 n1 (ma 9) hR_3.l1) (cwV 0 hts gX12_digest_Jx4a65c_size_8abf5 rfl rfl rfl (by decide +kernel) ⟨Nat.le_of_ble_eq_true rfl, Nat.le_of_ble_eq_true rfl⟩) mI_blind (mI_pre hM hK hMS hS) (va_recv hK (hM.Pa huz_45 rfl hCz_45) (ci := 0) (q0 := 0) rfl rfl) rfl hl.1 rfl (Nat.le_of_ble_eq_true rfl) dX12_digest_221 ⟨by show _ ≤ 579 + 17 * n5; omega, by show _ ≤ 3521 + 174 * n5; omega⟩ (fun r_46 hr_46 => ?_)
                        subst hr_46
                        refine lv_icmp_ge (tgt := 264) hx hb dX12_digest_224 (by decide) (fun c_47 => ?_) (fun c_47 => ?_)
                        · have c_47 := zn_geT (a := j) (b := n1) (by omega) (by omega) c_47
                          obtain rfl : n1 = j := by omega
                          refine lv_iinc (v := nI (R + 1)) (lv' := [(4, .int (nI (R + 1))), (5, .int (nI n1)), (2, .long (dgG (dgC g n4 R) (dgF (ofReaderN g n4 n5 R) (dgG (dgR g n1 n4 n5) (dgG (dgS g n5) (dgF (manyN g n1 n5) 58124 9) n1) R) 7) n1)), (1, .ref ah), (0, .ref (ma 0 0))]) hx hb dX12_digest_264 hl (k := 2) rfl (nI_add R 1) (by decide) rfl (fun ls hl => ?_)
                          refine lv_goto (tgt := 174) hx hb dX12_digest_267 (by decide) ?_
                          exact ih_R () ls _ _ _ _ (by omega) ⟨by first | rfl | omega, by first | rfl | omega, show lv_has ls 7 [(4, .int (nI (R + 1))), (2, .long (dgG (dgR g n1 n4 n5) (dgG (dgS g n5) (dgF (manyN g n1 n5) 58124 9) n1) (R + 1))), (1, .ref ah), (0, .ref (ma 0 0))] from lv_sub hl [0, 2, 3, 4] rfl, hM, hS, hA⟩
                        · have c_47 := zn_geF (a := j) (b := n1) (by omega) (by omega) c_47
                          refine lv_lload_n hx hb dX12_digest_227 rfl (lv_at hl 1 rfl) ?_
                          refine lv_aload_n hx hb dX12_digest_228 rfl (lv_at hl 4 rfl) ?_
                          refine lv_iload hx hb dX12_digest_229 (lv_at hl 2 rfl) ?_
                          refine lv_iload hx hb dX12_digest_231 (lv_at hl 0 rfl) ?_
                          refine lv_iconst (v := nI 0) hx hb dX12_digest_233 (by decide) ?_
                          refine lv_aload_n hx hb dX12_digest_234 rfl (lv_at hl 4 rfl) ?_
                          refine va_get hx hb hts hinX12 hown hK (hM.Pa hR_3.o.1 rfl hR_3.o.2) 0 rfl rfl 5 (by decide) (hk6) (fun _ h9 => h9) rfl dX12_digest_235 ?_
                          refine zcVi (As := [.int (nI R), .int (nI j), .int (nI 0), .int (g 0 0)]) (rest := [.long (dgG (dgC g n4 R) (dgF (ofReaderN g n4 n5 R) (dgG (dgR g n1 n4 n5) (dgG (dgS g n5) (dgF (manyN g n1 n5) 58124 9) n1) R) 7) j)]) ⟨hx, hb, hml, hown, hts⟩ (c_X12_coveredNow l D ty A u C_1 ma t0 mi g n1 n2 nL n4 n5 (nI 0) rep bro hR_3 (nI R) (nI j) (nI 0) (g 0 0)) (cwV 4 hts gX12_digest_X12_coveredNow rfl rfl rfl (by decide +kernel) ⟨Nat.le_of_ble_eq_true rfl, Nat.le_of_ble_eq_true rfl⟩) mI_blind (mI_pre hM hK hMS hS) (va_recv hK (hM.Pa hR_3.o.1 rfl hR_3.o.2) (ci := 13) (q0 := 0) rfl rfl) rfl hl.1 rfl (Nat.le_of_ble_eq_true rfl) dX12_digest_238 ⟨by show _ ≤ 579 + 17 * n5; omega, by show _ ≤ 3521 + 174 * n5; omega⟩ (fun r_48 hr_48 => ?_)
                          subst hr_48
                          refine lv_i2l hx hb dX12_digest_241 rfl ?_
                          refine zcSl (As := [.long (dgG (dgC g n4 R) (dgF (ofReaderN g n4 n5 R) (dgG (dgR g n1 n4 n5) (dgG (dgS g n5) (dgF (manyN g n1 n5) 58124 9) n1) R) 7) j), .long ((covP g n4 (nI R) (nI j) (g 0 0) (nI 0)).toInt64)]) (rest := []) ⟨hx, hb, hml, hown, hts⟩ (c_X12_add l _ (dgG (dgC g n4 R) (dgF (ofReaderN g n4 n5 R) (dgG (dgR g n1 n4 n5) (dgG (dgS g n5) (dgF (manyN g n1 n5) 58124 9) n1) R) 7) j) ((covP g n4 (nI R) (nI j) (g 0 0) (nI 0)).toInt64)) (cwS 2 hts gX12_digest_X12_add rfl rfl rfl (by decide +kernel) ⟨Nat.le_of_ble_eq_true rfl, Nat.le_of_ble_eq_true rfl⟩) (B := fun _ => True) (fun _ _ _ _ _ => trivial) (fun _ _ _ => trivial) rfl hl.1 rfl (Nat.le_of_ble_eq_true rfl) dX12_digest_242 ⟨by show _ ≤ 579 + 17 * n5; omega, by show _ ≤ 3521 + 174 * n5; omega⟩ (fun r_49 hr_49 => ?_)
                          subst hr_49
                          refine lv_aload_n hx hb dX12_digest_245 rfl (lv_at hl 4 rfl) ?_
                          refine lv_iload hx hb dX12_digest_246 (lv_at hl 2 rfl) ?_
                          refine lv_iload hx hb dX12_digest_248 (lv_at hl 0 rfl) ?_
                          refine zcVi (As := [.int (nI R), .int (nI j)]) (rest := [.long ((dgG (dgC g n4 R) (dgF (ofReaderN g n4 n5 R) (dgG (dgR g n1 n4 n5) (dgG (dgS g n5) (dgF (manyN g n1 n5) 58124 9) n1) R) 7) j) * 31 + ((covP g n4 (nI R) (nI j) (g 0 0) (nI 0)).toInt64))]) ⟨hx, hb, hml, hown, hts⟩ (c_X12_previewsNow l D ty A u C_1 ma t0 mi g n1 n2 nL n4 n5 (nI 0) rep bro hR_3 R j (by omega) (by omega)) (cwV 2 hts gX12_digest_X12_previewsNow rfl rfl rfl (by decide +kernel) ⟨Nat.le_of_ble_eq_true rfl, Nat.le_of_ble_eq_true rfl⟩) mI_blind (mI_pre hM hK hMS hS) (va_recv hK (hM.Pa hR_3.o.1 rfl hR_3.o.2) (ci := 13) (q0 := 0) rfl rfl) rfl hl.1 rfl (Nat.le_of_ble_eq_true rfl) dX12_digest_250 ⟨by show _ ≤ 579 + 17 * n5; omega, by show _ ≤ 3521 + 174 * n5; omega⟩ (fun r_50 hr_50 => ?_)
                          subst hr_50
                          refine lv_i2l hx hb dX12_digest_253 rfl ?_
                          refine zcSl (As := [.long ((dgG (dgC g n4 R) (dgF (ofReaderN g n4 n5 R) (dgG (dgR g n1 n4 n5) (dgG (dgS g n5) (dgF (manyN g n1 n5) 58124 9) n1) R) 7) j) * 31 + ((covP g n4 (nI R) (nI j) (g 0 0) (nI 0)).toInt64)), .long ((prevN g n4 R j).toInt64)]) (rest := []) ⟨hx, hb, hml, hown, hts⟩ (c_X12_add l _ ((dgG (dgC g n4 R) (dgF (ofReaderN g n4 n5 R) (dgG (dgR g n1 n4 n5) (dgG (dgS g n5) (dgF (manyN g n1 n5) 58124 9) n1) R) 7) j) * 31 + ((covP g n4 (nI R) (nI j) (g 0 0) (nI 0)).toInt64)) ((prevN g n4 R j).toInt64)) (cwS 2 hts gX12_digest_X12_add rfl rfl rfl (by decide +kernel) ⟨Nat.le_of_ble_eq_true rfl, Nat.le_of_ble_eq_true rfl⟩) (B := fun _ => True) (fun _ _ _ _ _ => trivial) (fun _ _ _ => trivial) rfl hl.1 rfl (Nat.le_of_ble_eq_true rfl) dX12_digest_254 ⟨by show _ ≤ 579 + 17 * n5; omega, by show _ ≤ 3521 + 174 * n5; omega⟩ (fun r_51 hr_51 => ?_)
                          subst hr_51
                          refine lv_lstore_n (lv' := [(2, .long (((dgG (dgC g n4 R) (dgF (ofReaderN g n4 n5 R) (dgG (dgR g n1 n4 n5) (dgG (dgS g n5) (dgF (manyN g n1 n5) 58124 9) n1) R) 7) j) * 31 + ((covP g n4 (nI R) (nI j) (g 0 0) (nI 0)).toInt64)) * 31 + ((prevN g n4 R j).toInt64))), (5, .int (nI j)), (4, .int (nI R)), (1, .ref ah), (0, .ref (ma 0 0))]) hx hb dX12_digest_257 rfl hl (by decide) rfl (fun ls hl => ?_)
                          refine lv_iinc (v := nI (j + 1)) (lv' := [(5, .int (nI (j + 1))), (2, .long (((dgG (dgC g n4 R) (dgF (ofReaderN g n4 n5 R) (dgG (dgR g n1 n4 n5) (dgG (dgS g n5) (dgF (manyN g n1 n5) 58124 9) n1) R) 7) j) * 31 + ((covP g n4 (nI R) (nI j) (g 0 0) (nI 0)).toInt64)) * 31 + ((prevN g n4 R j).toInt64))), (4, .int (nI R)), (1, .ref ah), (0, .ref (ma 0 0))]) hx hb dX12_digest_258 hl (k := 1) rfl (nI_add j 1) (by decide) rfl (fun ls hl => ?_)
                          refine lv_goto (tgt := 215) hx hb dX12_digest_261 (by decide) ?_
                          exact ih_j () ls (by omega) (show lv_has ls 7 [(5, .int (nI (j + 1))), (2, .long (dgG (dgC g n4 R) (dgF (ofReaderN g n4 n5 R) (dgG (dgR g n1 n4 n5) (dgG (dgS g n5) (dgF (manyN g n1 n5) 58124 9) n1) R) 7) (j + 1))), (4, .int (nI R)), (1, .ref ah), (0, .ref (ma 0 0))] from lv_sub hl [0, 1, 2, 3, 4] rfl)
                      · have c_44 := zn_geF (a := 7) (b := 7) (by omega) (by omega) c_44
                        omega
    · have c_8 := zn_geF (a := i) (b := n1) (by omega) (by omega) c_8
      have hf7 := (hR.I.f7 (i := i) (by omega)).2.2
      have hv7 := (hR.I.v7 (i := i) (by omega)).2
      refine lv_iconst (v := nI 0) hx hb dX12_digest_57 (by decide) ?_
      refine lv_istore (lv' := [(5, .int (nI 0)), (4, .int (nI i)), (2, .long (dgG (dgS g n5) (dgF (manyN g n1 n5) 58124 9) i)), (1, .ref ah), (0, .ref (ma 0 0))]) hx hb dX12_digest_58 hl (by decide) rfl (fun ls hl => ?_)
      refine zloopP (τ := Unit) (fun w9 _ ls => lv_has ls 7 [(5, .int (nI w9)), (2, .long (dgF (ofSetN g n5 i) (dgG (dgS g n5) (dgF (manyN g n1 n5) 58124 9) i) w9)), (4, .int (nI i)), (1, .ref ah), (0, .ref (ma 0 0))]) 7 ?_ 0 () ls (Nat.zero_le _) (lv_sub hl [0, 2, 1, 3, 4] rfl)
      intro w9 _ ls hi_w9 hl ih_w9
      have hl : lv_has ls 7 [(5, .int (nI w9)), (2, .long (dgF (ofSetN g n5 i) (dgG (dgS g n5) (dgF (manyN g n1 n5) 58124 9) i) w9)), (4, .int (nI i)), (1, .ref ah), (0, .ref (ma 0 0))] := hl
      refine lv_iload hx hb dX12_digest_60 (lv_at hl 0 rfl) ?_
      refine lv_bipush (v := nI 7) hx hb dX12_digest_62 (by decide) ?_
      refine lv_icmp_ge (tgt := 88) hx hb dX12_digest_64 (by decide) (fun c_52 => ?_) (fun c_52 => ?_)
      · have c_52 := zn_geT (a := w9) (b := 7) (by omega) (by omega) c_52
        obtain rfl : w9 = 7 := by omega
        refine lv_iconst (v := nI 0) hx hb dX12_digest_88 (by decide) ?_
        refine lv_istore (lv' := [(5, .int (nI 0)), (2, .long (dgF (ofSetN g n5 i) (dgG (dgS g n5) (dgF (manyN g n1 n5) 58124 9) i) 7)), (4, .int (nI i)), (1, .ref ah), (0, .ref (ma 0 0))]) hx hb dX12_digest_89 hl (by decide) rfl (fun ls hl => ?_)
        refine zloopP (τ := Unit) (fun v _ ls => lv_has ls 7 [(5, .int (nI v)), (2, .long (dgG (dgV g i) (dgF (ofSetN g n5 i) (dgG (dgS g n5) (dgF (manyN g n1 n5) 58124 9) i) 7) v)), (4, .int (nI i)), (1, .ref ah), (0, .ref (ma 0 0))]) (nV g i) ?_ 0 () ls (Nat.zero_le _) (lv_sub hl [0, 1, 2, 3, 4] rfl)
        intro v _ ls hi_v hl ih_v
        have hl : lv_has ls 7 [(5, .int (nI v)), (2, .long (dgG (dgV g i) (dgF (ofSetN g n5 i) (dgG (dgS g n5) (dgF (manyN g n1 n5) 58124 9) i) 7) v)), (4, .int (nI i)), (1, .ref ah), (0, .ref (ma 0 0))] := hl
        refine lv_iload hx hb dX12_digest_91 (lv_at hl 0 rfl) ?_
        refine lv_aload_n hx hb dX12_digest_93 rfl (lv_at hl 4 rfl) ?_
        refine va_get hx hb hts hinX12 hown hK (hM.Pa hR_3.o.1 rfl hR_3.o.2) 0 rfl rfl 1 (by decide) (hk2) (fun _ h9 => h9) rfl dX12_digest_94 ?_
        refine lv_iload hx hb dX12_digest_97 (lv_at hl 2 rfl) ?_
        obtain ⟨huz_53, hnz_53, mz_53, bz_53, hCz_53⟩ := isL.hd hR_3.l1
        refine zcVr (x := .ref (ma 9 i)) (As := [.int (nI i)]) (rest := [.int (nI v)]) ⟨hx, hb, hml, hown, hts⟩ (c_get l D ty A u C_1 ma t0 mi 1 0 n1 (ma 9) hR_3.l1 i (by omega)) (cwV 1 hts gX12_digest_Jx4a65c_get_915e3 rfl rfl rfl (by decide +kernel) ⟨Nat.le_of_ble_eq_true rfl, Nat.le_of_ble_eq_true rfl⟩) mI_blind (mI_pre hM hK hMS hS) (va_recv hK (hM.Pa huz_53 rfl hCz_53) (ci := 0) (q0 := 0) rfl rfl) rfl hl.1 rfl (Nat.le_of_ble_eq_true rfl) dX12_digest_99 ⟨by show _ ≤ 579 + 17 * n5; omega, by show _ ≤ 3521 + 174 * n5; omega⟩ ?_
        refine va_castS hx hb hown (hk7) ((hK.1 8 _ rfl).2) (va_recv hK (hM.Pa (hR_3.s9 (i := i) (by omega)).1 rfl (hR_3.s9 (i := i) (by omega)).2) (ci := 8) (q0 := 0) rfl rfl) dX12_digest_102 ?_
        refine va_get hx hb hts hinX7 hown hK (hM.Pa (hR_3.s9 (i := i) (by omega)).1 rfl (hR_3.s9 (i := i) (by omega)).2) 0 rfl rfl 3 (by decide) (hk9) (fun _ h9 => h9) rfl dX12_digest_105 ?_
        obtain ⟨huz_55, hnz_55, mz_55, bz_55, hCz_55⟩ := isL.hd (hR_3.s12 (i := i) (by omega))
        refine zcVi (As := []) (rest := [.int (nI v)]) ⟨hx, hb, hml, hown, hts⟩ (c_size l D ty A u C_1 ma t0 mi 12 i (nV g i) (fun v => ma 15 (i * 6 + v)) (hR_3.s12 (i := i) (by omega))) (cwV 0 hts gX12_digest_Jx4a65c_size_8abf5 rfl rfl rfl (by decide +kernel) ⟨Nat.le_of_ble_eq_true rfl, Nat.le_of_ble_eq_true rfl⟩) mI_blind (mI_pre hM hK hMS hS) (va_recv hK (hM.Pa huz_55 rfl hCz_55) (ci := 0) (q0 := 0) rfl rfl) rfl hl.1 rfl (Nat.le_of_ble_eq_true rfl) dX12_digest_108 ⟨by show _ ≤ 579 + 17 * n5; omega, by show _ ≤ 3521 + 174 * n5; omega⟩ (fun r_56 hr_56 => ?_)
        subst hr_56
        refine lv_icmp_ge (tgt := 165) hx hb dX12_digest_111 (by decide) (fun c_57 => ?_) (fun c_57 => ?_)
        · have c_57 := zn_geT (a := v) (b := (nV g i)) (by omega) (by omega) c_57
          obtain e9 : v = nV g i := by omega
          subst e9
          refine lv_iinc (v := nI (i + 1)) (lv' := [(4, .int (nI (i + 1))), (5, .int (nI (nV g i))), (2, .long (dgG (dgV g i) (dgF (ofSetN g n5 i) (dgG (dgS g n5) (dgF (manyN g n1 n5) 58124 9) i) 7) (nV g i))), (1, .ref ah), (0, .ref (ma 0 0))]) hx hb dX12_digest_165 hl (k := 2) rfl (nI_add i 1) (by decide) rfl (fun ls hl => ?_)
          refine lv_goto (tgt := 45) hx hb dX12_digest_168 (by decide) ?_
          exact ih_i () ls (by omega) (show lv_has ls 7 [(4, .int (nI (i + 1))), (2, .long (dgG (dgS g n5) (dgF (manyN g n1 n5) 58124 9) (i + 1))), (1, .ref ah), (0, .ref (ma 0 0))] from lv_sub hl [0, 2, 3, 4] rfl)
        · have c_57 := zn_geF (a := v) (b := (nV g i)) (by omega) (by omega) c_57
          refine lv_iconst (v := nI 0) hx hb dX12_digest_114 (by decide) ?_
          refine lv_istore (lv' := [(6, .int (nI 0)), (5, .int (nI v)), (2, .long (dgG (dgV g i) (dgF (ofSetN g n5 i) (dgG (dgS g n5) (dgF (manyN g n1 n5) 58124 9) i) 7) v)), (4, .int (nI i)), (1, .ref ah), (0, .ref (ma 0 0))]) hx hb dX12_digest_115 hl (by decide) rfl (fun ls hl => ?_)
          refine zloopP (τ := Unit) (fun f _ ls => lv_has ls 7 [(6, .int (nI f)), (2, .long (dgF (fun f9 => g 21 (plc i v f9)) (dgG (dgV g i) (dgF (ofSetN g n5 i) (dgG (dgS g n5) (dgF (manyN g n1 n5) 58124 9) i) 7) v) f)), (5, .int (nI v)), (4, .int (nI i)), (1, .ref ah), (0, .ref (ma 0 0))]) (nF g i) ?_ 0 () ls (Nat.zero_le _) (lv_sub hl [0, 2, 1, 3, 4, 5] rfl)
          intro f _ ls hi_f hl ih_f
          have hl : lv_has ls 7 [(6, .int (nI f)), (2, .long (dgF (fun f9 => g 21 (plc i v f9)) (dgG (dgV g i) (dgF (ofSetN g n5 i) (dgG (dgS g n5) (dgF (manyN g n1 n5) 58124 9) i) 7) v) f)), (5, .int (nI v)), (4, .int (nI i)), (1, .ref ah), (0, .ref (ma 0 0))] := hl
          refine lv_iload hx hb dX12_digest_117 (lv_at hl 0 rfl) ?_
          refine lv_aload_n hx hb dX12_digest_119 rfl (lv_at hl 5 rfl) ?_
          refine va_get hx hb hts hinX12 hown hK (hM.Pa hR_3.o.1 rfl hR_3.o.2) 0 rfl rfl 1 (by decide) (hk2) (fun _ h9 => h9) rfl dX12_digest_120 ?_
          refine lv_iload hx hb dX12_digest_123 (lv_at hl 3 rfl) ?_
          obtain ⟨huz_58, hnz_58, mz_58, bz_58, hCz_58⟩ := isL.hd hR_3.l1
          refine zcVr (x := .ref (ma 9 i)) (As := [.int (nI i)]) (rest := [.int (nI f)]) ⟨hx, hb, hml, hown, hts⟩ (c_get l D ty A u C_1 ma t0 mi 1 0 n1 (ma 9) hR_3.l1 i (by omega)) (cwV 1 hts gX12_digest_Jx4a65c_get_915e3 rfl rfl rfl (by decide +kernel) ⟨Nat.le_of_ble_eq_true rfl, Nat.le_of_ble_eq_true rfl⟩) mI_blind (mI_pre hM hK hMS hS) (va_recv hK (hM.Pa huz_58 rfl hCz_58) (ci := 0) (q0 := 0) rfl rfl) rfl hl.1 rfl (Nat.le_of_ble_eq_true rfl) dX12_digest_125 ⟨by show _ ≤ 579 + 17 * n5; omega, by show _ ≤ 3521 + 174 * n5; omega⟩ ?_
          refine va_castS hx hb hown (hk7) ((hK.1 8 _ rfl).2) (va_recv hK (hM.Pa (hR_3.s9 (i := i) (by omega)).1 rfl (hR_3.s9 (i := i) (by omega)).2) (ci := 8) (q0 := 0) rfl rfl) dX12_digest_128 ?_
          refine va_get hx hb hts hinX7 hown hK (hM.Pa (hR_3.s9 (i := i) (by omega)).1 rfl (hR_3.s9 (i := i) (by omega)).2) 0 rfl rfl 0 (by decide) (hk10) (fun _ h9 => h9) rfl dX12_digest_131 ?_
          refine zeq ((hR.I.f7 (i := i) (by omega)).1) ?_
          refine lv_icmp_ge (tgt := 159) hx hb dX12_digest_134 (by decide) (fun c_60 => ?_) (fun c_60 => ?_)
          · have c_60 := zn_geT (a := f) (b := (nF g i)) (by omega) (by omega) c_60
            obtain e9 : f = nF g i := by omega
            subst e9
            refine lv_iinc (v := nI (v + 1)) (lv' := [(5, .int (nI (v + 1))), (6, .int (nI (nF g i))), (2, .long (dgF (fun f9 => g 21 (plc i v f9)) (dgG (dgV g i) (dgF (ofSetN g n5 i) (dgG (dgS g n5) (dgF (manyN g n1 n5) 58124 9) i) 7) v) (nF g i))), (4, .int (nI i)), (1, .ref ah), (0, .ref (ma 0 0))]) hx hb dX12_digest_159 hl (k := 2) rfl (nI_add v 1) (by decide) rfl (fun ls hl => ?_)
            refine lv_goto (tgt := 91) hx hb dX12_digest_162 (by decide) ?_
            exact ih_v () ls (by omega) (show lv_has ls 7 [(5, .int (nI (v + 1))), (2, .long (dgG (dgV g i) (dgF (ofSetN g n5 i) (dgG (dgS g n5) (dgF (manyN g n1 n5) 58124 9) i) 7) (v + 1))), (4, .int (nI i)), (1, .ref ah), (0, .ref (ma 0 0))] from lv_sub hl [0, 2, 3, 4, 5] rfl)
          · have c_60 := zn_geF (a := f) (b := (nF g i)) (by omega) (by omega) c_60
            refine lv_lload_n hx hb dX12_digest_137 rfl (lv_at hl 1 rfl) ?_
            refine lv_aload_n hx hb dX12_digest_138 rfl (lv_at hl 4 rfl) ?_
            refine lv_iload hx hb dX12_digest_139 (lv_at hl 3 rfl) ?_
            refine maldq hx hb hK (va_P1 hA.1) 0 4 rfl rfl (vp_in_nI (by omega) (by omega)) dX12_digest_141 ?_
            refine zeqv (y := .ref (hmb i)) (by rw [nI_clamp (by omega)]; rfl) ?_
            refine lv_iload hx hb dX12_digest_142 (lv_at hl 2 rfl) ?_
            refine maldq hx hb hK (va_P1 (hA.2.1 (i) (by omega))) 0 3 rfl rfl (vp_in_nI (by omega) (by omega)) dX12_digest_144 ?_
            refine zeqv (y := .ref (hmd (i * 6 + v))) (by rw [nI_clamp (by omega)]; rfl) ?_
            refine lv_iload hx hb dX12_digest_145 (lv_at hl 0 rfl) ?_
            refine zald hx hb hK (va_P1 (hA.2.2 (i * 6 + v) (by omega))) 0 0 rfl rfl (i := f) (by omega) (by omega) dX12_digest_147 ?_
            refine zeq (row6_at (by omega)) ?_
            refine lv_i2l hx hb dX12_digest_148 rfl ?_
            refine zcSl (As := [.long (dgF (fun f9 => g 21 (plc i v f9)) (dgG (dgV g i) (dgF (ofSetN g n5 i) (dgG (dgS g n5) (dgF (manyN g n1 n5) 58124 9) i) 7) v) f), .long ((g 21 ((i * 6 + v) * 6 + f)).toInt64)]) (rest := []) ⟨hx, hb, hml, hown, hts⟩ (c_X12_add l _ (dgF (fun f9 => g 21 (plc i v f9)) (dgG (dgV g i) (dgF (ofSetN g n5 i) (dgG (dgS g n5) (dgF (manyN g n1 n5) 58124 9) i) 7) v) f) ((g 21 ((i * 6 + v) * 6 + f)).toInt64)) (cwS 2 hts gX12_digest_X12_add rfl rfl rfl (by decide +kernel) ⟨Nat.le_of_ble_eq_true rfl, Nat.le_of_ble_eq_true rfl⟩) (B := fun _ => True) (fun _ _ _ _ _ => trivial) (fun _ _ _ => trivial) rfl hl.1 rfl (Nat.le_of_ble_eq_true rfl) dX12_digest_149 ⟨by show _ ≤ 579 + 17 * n5; omega, by show _ ≤ 3521 + 174 * n5; omega⟩ (fun r_61 hr_61 => ?_)
            subst hr_61
            refine lv_lstore_n (lv' := [(2, .long ((dgF (fun f9 => g 21 (plc i v f9)) (dgG (dgV g i) (dgF (ofSetN g n5 i) (dgG (dgS g n5) (dgF (manyN g n1 n5) 58124 9) i) 7) v) f) * 31 + ((g 21 ((i * 6 + v) * 6 + f)).toInt64))), (6, .int (nI f)), (5, .int (nI v)), (4, .int (nI i)), (1, .ref ah), (0, .ref (ma 0 0))]) hx hb dX12_digest_152 rfl hl (by decide) rfl (fun ls hl => ?_)
            refine lv_iinc (v := nI (f + 1)) (lv' := [(6, .int (nI (f + 1))), (2, .long ((dgF (fun f9 => g 21 (plc i v f9)) (dgG (dgV g i) (dgF (ofSetN g n5 i) (dgG (dgS g n5) (dgF (manyN g n1 n5) 58124 9) i) 7) v) f) * 31 + ((g 21 ((i * 6 + v) * 6 + f)).toInt64))), (5, .int (nI v)), (4, .int (nI i)), (1, .ref ah), (0, .ref (ma 0 0))]) hx hb dX12_digest_153 hl (k := 1) rfl (nI_add f 1) (by decide) rfl (fun ls hl => ?_)
            refine lv_goto (tgt := 117) hx hb dX12_digest_156 (by decide) ?_
            exact ih_f () ls (by omega) (show lv_has ls 7 [(6, .int (nI (f + 1))), (2, .long (dgF (fun f9 => g 21 (plc i v f9)) (dgG (dgV g i) (dgF (ofSetN g n5 i) (dgG (dgS g n5) (dgF (manyN g n1 n5) 58124 9) i) 7) v) (f + 1))), (5, .int (nI v)), (4, .int (nI i)), (1, .ref ah), (0, .ref (ma 0 0))] from lv_sub hl [0, 1, 2, 3, 4, 5] rfl)
      · have c_52 := zn_geF (a := w9) (b := 7) (by omega) (by omega) c_52
        refine lv_lload_n hx hb dX12_digest_67 rfl (lv_at hl 1 rfl) ?_
        refine lv_aload_n hx hb dX12_digest_68 rfl (lv_at hl 4 rfl) ?_
        refine lv_aload_n hx hb dX12_digest_69 rfl (lv_at hl 3 rfl) ?_
        refine lv_iload hx hb dX12_digest_70 (lv_at hl 2 rfl) ?_
        refine lv_iload hx hb dX12_digest_72 (lv_at hl 0 rfl) ?_
        refine zcVi (As := [.ref ah, .int (nI i), .int (nI w9)]) (rest := [.long (dgF (ofSetN g n5 i) (dgG (dgS g n5) (dgF (manyN g n1 n5) 58124 9) i) w9)]) ⟨hx, hb, hml, hown, hts⟩ (c_X12_ofSetNow l D ty A u C_1 ma t0 mi g n1 n2 nL n4 n5 (nI 0) rep bro hR_3 _ i (by omega) w9 (by omega)) (cwV 3 hts gX12_digest_X12_ofSetNow rfl rfl rfl (by decide +kernel) ⟨Nat.le_of_ble_eq_true rfl, Nat.le_of_ble_eq_true rfl⟩) mIh_blind (mIh_pre hM hK hMS hS hA) (va_recv hK (hM.Pa hR_3.o.1 rfl hR_3.o.2) (ci := 13) (q0 := 0) rfl rfl) rfl hl.1 rfl (Nat.le_of_ble_eq_true rfl) dX12_digest_74 ⟨by show _ ≤ 579 + 17 * n5; omega, by show _ ≤ 3521 + 174 * n5; omega⟩ (fun r_62 hr_62 => ?_)
        subst hr_62
        refine lv_i2l hx hb dX12_digest_77 rfl ?_
        refine zcSl (As := [.long (dgF (ofSetN g n5 i) (dgG (dgS g n5) (dgF (manyN g n1 n5) 58124 9) i) w9), .long ((ofSetN g n5 i w9).toInt64)]) (rest := []) ⟨hx, hb, hml, hown, hts⟩ (c_X12_add l _ (dgF (ofSetN g n5 i) (dgG (dgS g n5) (dgF (manyN g n1 n5) 58124 9) i) w9) ((ofSetN g n5 i w9).toInt64)) (cwS 2 hts gX12_digest_X12_add rfl rfl rfl (by decide +kernel) ⟨Nat.le_of_ble_eq_true rfl, Nat.le_of_ble_eq_true rfl⟩) (B := fun _ => True) (fun _ _ _ _ _ => trivial) (fun _ _ _ => trivial) rfl hl.1 rfl (Nat.le_of_ble_eq_true rfl) dX12_digest_78 ⟨by show _ ≤ 579 + 17 * n5; omega, by show _ ≤ 3521 + 174 * n5; omega⟩ (fun r_63 hr_63 => ?_)
        subst hr_63
        refine lv_lstore_n (lv' := [(2, .long ((dgF (ofSetN g n5 i) (dgG (dgS g n5) (dgF (manyN g n1 n5) 58124 9) i) w9) * 31 + ((ofSetN g n5 i w9).toInt64))), (5, .int (nI w9)), (4, .int (nI i)), (1, .ref ah), (0, .ref (ma 0 0))]) hx hb dX12_digest_81 rfl hl (by decide) rfl (fun ls hl => ?_)
        refine lv_iinc (v := nI (w9 + 1)) (lv' := [(5, .int (nI (w9 + 1))), (2, .long ((dgF (ofSetN g n5 i) (dgG (dgS g n5) (dgF (manyN g n1 n5) 58124 9) i) w9) * 31 + ((ofSetN g n5 i w9).toInt64))), (4, .int (nI i)), (1, .ref ah), (0, .ref (ma 0 0))]) hx hb dX12_digest_82 hl (k := 1) rfl (nI_add w9 1) (by decide) rfl (fun ls hl => ?_)
        refine lv_goto (tgt := 60) hx hb dX12_digest_85 (by decide) ?_
        exact ih_w9 () ls (by omega) (show lv_has ls 7 [(5, .int (nI (w9 + 1))), (2, .long (dgF (ofSetN g n5 i) (dgG (dgS g n5) (dgF (manyN g n1 n5) 58124 9) i) (w9 + 1))), (4, .int (nI i)), (1, .ref ah), (0, .ref (ma 0 0))] from lv_sub hl [0, 1, 2, 3, 4] rfl)
  · have c_5 := zn_geF (a := k) (b := 9) (by omega) (by omega) c_5
    refine lv_lload_n hx hb dX12_digest_24 rfl (lv_at hl 1 rfl) ?_
    refine lv_aload_n hx hb dX12_digest_25 rfl (lv_at hl 3 rfl) ?_
    refine lv_iload hx hb dX12_digest_26 (lv_at hl 0 rfl) ?_
    have hFc : ∀ q : Nat, H.size ≤ q → A q := fun q h => hM.2.2 q h
    refine va_calli (va_runV (As := [.int (nI k)]) (rest := [.long (dgF (manyN g n1 n5) 58124 k)]) ⟨hx, hb, hml, hown, hts⟩ (c_X12_count l D ty A u C_1 ma t0 mi g n1 n2 nL n4 n5 (nI 0) rep bro hR_3 H.size k (by omega)) (cwV 1 hts gX12_digest_X12_count rfl rfl rfl (by decide +kernel) ⟨Nat.le_of_ble_eq_true rfl, Nat.le_of_ble_eq_true rfl⟩) ⟨zBl mIs_blind, (va_recv hK (hM.Pa hR_3.o.1 rfl hR_3.o.2) (ci := 13) (q0 := 0) rfl rfl), fun U h1 h2 => ⟨rfl, mI_pre hM hK hMS hS U h1 h2, by rw [h1]⟩⟩ rfl rfl hl.1 rfl (lv_room (Nat.le_of_ble_eq_true rfl)) dX12_digest_28 ⟨by show _ ≤ 579 + 17 * n5; omega, by show _ ≤ 3521 + 174 * n5; omega⟩) hS (fun q _ h => hFc q h) hFc (fun r_64 u9 t H1 locs ht hvm hw hB9 hz1 hk1 hS => ?_)
    have ho9 : ∀ q : Nat, q < H.size → H1[q]? = H[q]? := fun q hq => hk1 q hq (Nat.not_le.mpr hq)
    have hM := hM.ext (fun q hq _ => ho9 q hq) hz1
    have hA := hA.kept ho9
    clear hk1 hz1 hvm ht hB9 ho9 hFc
    clear t
    generalize H1 = H at hM hS hA ⊢
    have hr_64 := hw
    subst hr_64
    refine lv_i2l hx hb dX12_digest_31 rfl ?_
    refine zcSl (As := [.long (dgF (manyN g n1 n5) 58124 k), .long ((manyN g n1 n5 k).toInt64)]) (rest := []) ⟨hx, hb, hml, hown, hts⟩ (c_X12_add l _ (dgF (manyN g n1 n5) 58124 k) ((manyN g n1 n5 k).toInt64)) (cwS 2 hts gX12_digest_X12_add rfl rfl rfl (by decide +kernel) ⟨Nat.le_of_ble_eq_true rfl, Nat.le_of_ble_eq_true rfl⟩) (B := fun _ => True) (fun _ _ _ _ _ => trivial) (fun _ _ _ => trivial) rfl hl.1 rfl (Nat.le_of_ble_eq_true rfl) dX12_digest_32 ⟨by show _ ≤ 579 + 17 * n5; omega, by show _ ≤ 3521 + 174 * n5; omega⟩ (fun r_65 hr_65 => ?_)
    subst hr_65
    refine lv_lstore_n (lv' := [(2, .long ((dgF (manyN g n1 n5) 58124 k) * 31 + ((manyN g n1 n5 k).toInt64))), (4, .int (nI k)), (1, .ref ah), (0, .ref (ma 0 0))]) hx hb dX12_digest_35 rfl hl (by decide) rfl (fun ls hl => ?_)
    refine lv_iinc (v := nI (k + 1)) (lv' := [(4, .int (nI (k + 1))), (2, .long ((dgF (manyN g n1 n5) 58124 k) * 31 + ((manyN g n1 n5 k).toInt64))), (1, .ref ah), (0, .ref (ma 0 0))]) hx hb dX12_digest_36 hl (k := 1) rfl (nI_add k 1) (by decide) rfl (fun ls hl => ?_)
    refine lv_goto (tgt := 17) hx hb dX12_digest_39 (by decide) ?_
    exact ih_k () ls _ _ _ _ (by omega) ⟨by first | rfl | omega, by first | rfl | omega, show lv_has ls 7 [(4, .int (nI (k + 1))), (2, .long (dgF (manyN g n1 n5) 58124 (k + 1))), (1, .ref ah), (0, .ref (ma 0 0))] from lv_sub hl [0, 1, 2, 3] rfl, hM, hS, hA⟩
