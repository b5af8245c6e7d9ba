set_option maxHeartbeats 4000000 in
set_option maxRecDepth 100000 in
theorem c_X12_harms (l : Launch) (D : va_G) (ty : Nat → ClassId) (A : Nat → Prop) (u : Nat → Nat → Prop) (C : Nat → Nat → va_E) (ma : Nat → Nat → Nat) (t0 mi : Nat) (g : Nat → Nat → Int32) (n1 n2 nL n4 n5 : Nat) (th : Int32) (rep bro : Nat → Nat → Int32) (hR : mR ty t0 g n1 n2 nL n4 n5 th rep bro u C ma) (sz : Nat) : Met l yX12_harms wsX12_harms ({ frames := 3, cells := 57, slots := 344, locals := 64 }) (va_Pc [.ref (ma 0 0)] (fun U => mI D ty A u C ma t0 mi U ∧ U.heap.size = sz)) (va_Qr (fun _ : Unit => True) (fun _ q t => ∃ b d, hmX D ty q (g 21) b d t.heap ∧ sz ≤ q ∧ (∀ i, i < 8 → sz ≤ b i) ∧ ∀ x, x < 48 → sz ≤ d x) (fun q => sz ≤ q)) 57 344 (fun q => sz ≤ q) := by
  refine zMet (cc := cX12_harms) (maxL := 10) (ret := (some (.array (.array (.array .int))))) (by decide) rfl (Nat.le_of_ble_eq_true rfl) ?_
  intro p e s m below meth c hx hb hr hts hown hlocks hml hB ls hl
  obtain ⟨⟨hM, hK, hMS⟩, hsz⟩ := hB
  subst hsz
  have hS : va_S (fun q => s.heap.size ≤ q) s.heap s.heap [] := va_S.rf
  have hbn := hR.I.b1
  have hbs := hR.I.b2
  have hbl := hR.I.bL
  have hbc := hR.I.b4
  have hbr := hR.I.b5
  have hl : lv_has ls 10 [(0, .ref (ma 0 0))] := hl
  have hinX12 : ∀ w ∈ wsX120, w ∈ wsX12_harms := by decide +kernel
  have hk1 := hts (.fieldLink RX12 10 "DatamarketDeskModel" "sets" "Ljava/util/ArrayList;") (by decide +kernel)
  have hk2 := hts (.classLink RX12 49 "DatamarketDeskModel$DataSet") (by decide +kernel)
  have hinX7 : ∀ w ∈ wsX70, w ∈ wsX12_harms := by decide +kernel
  have hk4 := hts (.fieldLink RX12 69 "DatamarketDeskModel$DataSet" "versions" "Ljava/util/ArrayList;") (by decide +kernel)
  have hk5 := hts (.classLink RX12 72 "DatamarketDeskModel$Version") (by decide +kernel)
  have hinX11 : ∀ w ∈ wsX110, w ∈ wsX12_harms := by decide +kernel
  have hk7 := hts (.fieldLink RX12 74 "DatamarketDeskModel$Version" "reported" "[I") (by decide +kernel)
  have hk8 := hts (.fieldLink RX12 78 "DatamarketDeskModel$Version" "broken" "[I") (by decide +kernel)
  have hk9 := hts (.fieldLink RX12 87 "DatamarketDeskModel$Version" "links" "Ljava/util/ArrayList;") (by decide +kernel)
  have hk10 := hts (.classLink RX12 7 "java/util/ArrayList") (by decide +kernel)
  have hk11 := hts (.classLink RX12 90 "DatamarketDeskModel$Link") (by decide +kernel)
  have hinX8 : ∀ w ∈ wsX80, w ∈ wsX12_harms := by decide +kernel
  have hk13 := hts (.fieldLink RX12 92 "DatamarketDeskModel$Link" "set" "I") (by decide +kernel)
  have hk14 := hts (.fieldLink RX12 95 "DatamarketDeskModel$Link" "version" "I") (by decide +kernel)
  have hk15 := hts (.fieldLink RX12 98 "DatamarketDeskModel$Link" "field" "I") (by decide +kernel)
  have hk16 := hts (.fieldLink RX12 101 "DatamarketDeskModel$Link" "share" "I") (by decide +kernel)
  refine lv_bipush (v := nI 8) hx hb dX12_harms_0 (by decide) ?_
  refine lv_bipush (v := nI 6) hx hb dX12_harms_2 (by decide) ?_
  refine lv_bipush (v := nI 6) hx hb dX12_harms_4 (by decide) ?_
  refine mmulti hx hb hown rfl rfl hMS.2.2.2.2.2.2 hK hS (fun q h => h) (Nat.le_of_ble_eq_true rfl) (Nat.le_of_ble_eq_true rfl) dX12_harms_6 (fun H locs a b d hM2 hS _ _ => ?_)
  refine lv_astore_n (lv' := [(1, .ref a), (0, .ref (ma 0 0))]) hx hb dX12_harms_10 rfl hl (by decide) rfl (fun ls hl => ?_)
  refine lv_iconst (v := nI 0) hx hb dX12_harms_11 (by decide) ?_
  refine lv_istore_n (lv' := [(2, .int (nI 0)), (1, .ref a), (0, .ref (ma 0 0))]) hx hb dX12_harms_12 rfl hl (by decide) rfl (fun ls hl => ?_)
  refine zloop (τ := Unit) (fun i _ ls H locs cells slots => cells = 57 ∧ slots = 344 ∧ lv_has ls 10 [(2, .int (nI i)), (1, .ref a), (0, .ref (ma 0 0))] ∧ mW D (fun q => s.heap.size ≤ q) hmu (hmC ty b d (hmP g (i * 36))) (hma a b d) H ∧ va_S (fun q => s.heap.size ≤ q) s.heap H locs) n1 ?_ 0 () ls _ _ _ _ (Nat.zero_le _) ⟨rfl, rfl, lv_sub hl [0, 1, 2] rfl, (by rw [Nat.zero_mul, hmP_0]; exact hM2), hS⟩
  intro i _ ls H locs cells slots hi_i hinv ih_i
  obtain ⟨rfl, rfl, hl, hM2, hS⟩ := hinv
  have hl : lv_has ls 10 [(2, .int (nI i)), (1, .ref a), (0, .ref (ma 0 0))] := hl
  refine lv_iload_n hx hb dX12_harms_13 rfl (lv_at hl 0 rfl) ?_
  refine lv_aload_n hx hb dX12_harms_14 rfl (lv_at hl 2 rfl) ?_
  refine va_get hx hb hts hinX12 hown hK ((hM.later hS).Pa hR.o.1 rfl hR.o.2) 0 rfl rfl 1 (by decide) (hk1) (fun _ h9 => h9) rfl dX12_harms_15 ?_
  obtain ⟨huz_1, hnz_1, mz_1, bz_1, hCz_1⟩ := isL.hd hR.l1
  refine zcVi (As := []) (rest := [.int (nI i)]) ⟨hx, hb, hml, hown, hts⟩ (c_size l D ty A u C ma t0 mi 1 0 n1 (ma 9) hR.l1) (cwV 0 hts gX12_harms_Jx4a65c_size_8abf5 rfl rfl rfl (by decide +kernel) ⟨Nat.le_of_ble_eq_true rfl, Nat.le_of_ble_eq_true rfl⟩) (mI_blind) (mI_preN hM hK hMS hS) (va_recv hK ((hM.later hS).Pa huz_1 rfl hCz_1) (ci := 0) (q0 := 0) rfl rfl) rfl hl.1 rfl (Nat.le_of_ble_eq_true rfl) dX12_harms_18 ⟨Nat.le_of_ble_eq_true rfl, Nat.le_of_ble_eq_true rfl⟩ (fun r_2 hr_2 => ?_)
  subst hr_2
  refine lv_icmp_ge (tgt := 223) hx hb dX12_harms_21 (by decide) (fun c_3 => ?_) (fun c_3 => ?_)
  · have c_3 := zn_geT (a := i) (b := n1) (by omega) (by omega) c_3
    refine lv_aload_n hx hb dX12_harms_223 rfl (lv_at hl 1 rfl) ?_
    have hM2 := hmW_h (h' := g 21) hM2 (fun p hp => by
      unfold hmP cpy; by_cases h1 : p < i * 36
      · rw [if_pos h1]
      · rw [if_neg h1]; exact gI_none hR.I hp (fun z => by have z1 := z.1; omega))
    exact W.aret hx hb hr (Or.inr ⟨_, rfl⟩) (Or.inr ⟨_, rfl⟩) (fun t ht hW => ⟨⟨(), a, rfl, trivial, b, d, by rw [ht]; exact hmW_X hM2, hmW_A hM2⟩, hS.F ht⟩) hS.2.2 dX12_harms_224
  · have c_3 := zn_geF (a := i) (b := n1) (by omega) (by omega) c_3
    have hv7 := (hR.I.v7 (i := i) (by omega)).2
    refine lv_aload_n hx hb dX12_harms_24 rfl (lv_at hl 2 rfl) ?_
    refine va_get hx hb hts hinX12 hown hK ((hM.later hS).Pa hR.o.1 rfl hR.o.2) 0 rfl rfl 1 (by decide) (hk1) (fun _ h9 => h9) rfl dX12_harms_25 ?_
    refine lv_iload_n hx hb dX12_harms_28 rfl (lv_at hl 0 rfl) ?_
    obtain ⟨huz_4, hnz_4, mz_4, bz_4, hCz_4⟩ := isL.hd hR.l1
    refine zcVr (x := .ref (ma 9 i)) (As := [.int (nI i)]) (rest := []) ⟨hx, hb, hml, hown, hts⟩ (c_get l D ty A u C ma t0 mi 1 0 n1 (ma 9) hR.l1 i (by omega)) (cwV 1 hts gX12_harms_Jx4a65c_get_915e3 rfl rfl rfl (by decide +kernel) ⟨Nat.le_of_ble_eq_true rfl, Nat.le_of_ble_eq_true rfl⟩) (mI_blind) (mI_preN hM hK hMS hS) (va_recv hK ((hM.later hS).Pa huz_4 rfl hCz_4) (ci := 0) (q0 := 0) rfl rfl) rfl hl.1 rfl (Nat.le_of_ble_eq_true rfl) dX12_harms_29 ⟨Nat.le_of_ble_eq_true rfl, Nat.le_of_ble_eq_true rfl⟩ ?_
    refine va_castS hx hb hown (hk2) ((hK.1 8 _ rfl).2) (va_recv hK ((hM.later hS).Pa (hR.s9 (i := i) (by omega)).1 rfl (hR.s9 (i := i) (by omega)).2) (ci := 8) (q0 := 0) rfl rfl) dX12_harms_32 ?_
    refine va_get hx hb hts hinX7 hown hK ((hM.later hS).Pa (hR.s9 (i := i) (by omega)).1 rfl (hR.s9 (i := i) (by omega)).2) 0 rfl rfl 3 (by decide) (hk4) (fun _ h9 => h9) rfl dX12_harms_35 ?_
    refine lv_astore_n (lv' := [(3, .ref (ma 12 i)), (2, .int (nI i)), (1, .ref a), (0, .ref (ma 0 0))]) hx hb dX12_harms_38 rfl hl (by decide) rfl (fun ls hl => ?_)
    refine lv_iconst (v := nI 0) hx hb dX12_harms_39 (by decide) ?_
    refine lv_istore (lv' := [(4, .int (nI 0)), (3, .ref (ma 12 i)), (2, .int (nI i)), (1, .ref a), (0, .ref (ma 0 0))]) hx hb dX12_harms_40 hl (by decide) rfl (fun ls hl => ?_)
    refine zloop (τ := Unit) (fun v _ ls H locs cells slots => cells = 57 ∧ slots = 344 ∧ lv_has ls 10 [(4, .int (nI v)), (3, .ref (ma 12 i)), (2, .int (nI i)), (1, .ref a), (0, .ref (ma 0 0))] ∧ mW D (fun q => s.heap.size ≤ q) hmu (hmC ty b d (hmP g (i * 36 + v * 6))) (hma a b d) H ∧ va_S (fun q => s.heap.size ≤ q) s.heap H locs) (nV g i) ?_ 0 () ls _ _ _ _ (Nat.zero_le _) ⟨rfl, rfl, lv_sub hl [0, 1, 2, 3, 4] rfl, (by rw [Nat.zero_mul, Nat.add_zero]; exact hM2), hS⟩
    intro v _ ls H locs cells slots hi_v hinv ih_v
    obtain ⟨rfl, rfl, hl, hM2, hS⟩ := hinv
    have hl : lv_has ls 10 [(4, .int (nI v)), (3, .ref (ma 12 i)), (2, .int (nI i)), (1, .ref a), (0, .ref (ma 0 0))] := hl
    refine lv_iload hx hb dX12_harms_42 (lv_at hl 0 rfl) ?_
    refine lv_aload_n hx hb dX12_harms_44 rfl (lv_at hl 1 rfl) ?_
    obtain ⟨huz_6, hnz_6, mz_6, bz_6, hCz_6⟩ := isL.hd (hR.s12 (i := i) (by omega))
    refine zcVi (As := []) (rest := [.int (nI v)]) ⟨hx, hb, hml, hown, hts⟩ (c_size l D ty A u C ma t0 mi 12 i (nV g i) (fun v => ma 15 (i * 6 + v)) (hR.s12 (i := i) (by omega))) (cwV 0 hts gX12_harms_Jx4a65c_size_8abf5 rfl rfl rfl (by decide +kernel) ⟨Nat.le_of_ble_eq_true rfl, Nat.le_of_ble_eq_true rfl⟩) (mI_blind) (mI_preN hM hK hMS hS) (va_recv hK ((hM.later hS).Pa huz_6 rfl hCz_6) (ci := 0) (q0 := 0) rfl rfl) rfl hl.1 rfl (Nat.le_of_ble_eq_true rfl) dX12_harms_45 ⟨Nat.le_of_ble_eq_true rfl, Nat.le_of_ble_eq_true rfl⟩ (fun r_7 hr_7 => ?_)
    subst hr_7
    refine lv_icmp_ge (tgt := 217) hx hb dX12_harms_48 (by decide) (fun c_8 => ?_) (fun c_8 => ?_)
    · have c_8 := zn_geT (a := v) (b := (nV g i)) (by omega) (by omega) c_8
      refine lv_iinc (v := nI (i + 1)) (lv' := [(2, .int (nI (i + 1))), (4, .int (nI v)), (3, .ref (ma 12 i)), (1, .ref a), (0, .ref (ma 0 0))]) hx hb dX12_harms_217 hl (k := 2) rfl (nI_add i 1) (by decide) rfl (fun ls hl => ?_)
      refine lv_goto (tgt := 13) hx hb dX12_harms_220 (by decide) ?_
      exact ih_i () ls _ _ _ _ (by omega) ⟨rfl, rfl, show lv_has ls 10 [(2, .int (nI (i + 1))), (1, .ref a), (0, .ref (ma 0 0))] from lv_sub hl [0, 3, 4] rfl, (hmW_h hM2 (hmP_gap (by omega) (fun p h1 h2 h3 => gI_none hR.I h3 (fun z => by have z1 := z.1; have z2 := z.2; rw [show p / 36 = i by omega] at z2; omega)))), hS⟩
    · have c_8 := zn_geF (a := v) (b := (nV g i)) (by omega) (by omega) c_8
      refine lv_aload_n hx hb dX12_harms_51 rfl (lv_at hl 1 rfl) ?_
      refine lv_iload hx hb dX12_harms_52 (lv_at hl 0 rfl) ?_
      obtain ⟨huz_9, hnz_9, mz_9, bz_9, hCz_9⟩ := isL.hd (hR.s12 (i := i) (by omega))
      refine zcVr (x := .ref (ma 15 (i * 6 + v))) (As := [.int (nI v)]) (rest := []) ⟨hx, hb, hml, hown, hts⟩ (c_get l D ty A u C ma t0 mi 12 i (nV g i) (fun v => ma 15 (i * 6 + v)) (hR.s12 (i := i) (by omega)) v (by omega)) (cwV 1 hts gX12_harms_Jx4a65c_get_915e3 rfl rfl rfl (by decide +kernel) ⟨Nat.le_of_ble_eq_true rfl, Nat.le_of_ble_eq_true rfl⟩) (mI_blind) (mI_preN hM hK hMS hS) (va_recv hK ((hM.later hS).Pa huz_9 rfl hCz_9) (ci := 0) (q0 := 0) rfl rfl) rfl hl.1 rfl (Nat.le_of_ble_eq_true rfl) dX12_harms_54 ⟨Nat.le_of_ble_eq_true rfl, Nat.le_of_ble_eq_true rfl⟩ ?_
      refine va_castS hx hb hown (hk5) ((hK.1 12 _ rfl).2) (va_recv hK ((hM.later hS).Pa (hR.v15 (i := i) (v := v) (by omega) (by omega)).1 rfl (hR.v15 (i := i) (v := v) (by omega) (by omega)).2) (ci := 12) (q0 := 0) rfl rfl) dX12_harms_57 ?_
      refine lv_astore (lv' := [(5, .ref (ma 15 (i * 6 + v))), (4, .int (nI v)), (3, .ref (ma 12 i)), (2, .int (nI i)), (1, .ref a), (0, .ref (ma 0 0))]) hx hb dX12_harms_60 hl (by decide) rfl (fun ls hl => ?_)
      refine lv_iconst (v := nI 0) hx hb dX12_harms_62 (by decide) ?_
      refine lv_istore (lv' := [(6, .int (nI 0)), (5, .ref (ma 15 (i * 6 + v))), (4, .int (nI v)), (3, .ref (ma 12 i)), (2, .int (nI i)), (1, .ref a), (0, .ref (ma 0 0))]) hx hb dX12_harms_63 hl (by decide) rfl (fun ls hl => ?_)
      refine zloop (τ := Unit) (fun f _ ls H locs cells slots => cells = 57 ∧ slots = 344 ∧ lv_has ls 10 [(6, .int (nI f)), (5, .ref (ma 15 (i * 6 + v))), (4, .int (nI v)), (3, .ref (ma 12 i)), (2, .int (nI i)), (1, .ref a), (0, .ref (ma 0 0))] ∧ mW D (fun q => s.heap.size ≤ q) hmu (hmC ty b d (hmP g (i * 36 + v * 6 + f))) (hma a b d) H ∧ va_S (fun q => s.heap.size ≤ q) s.heap H locs) 6 ?_ 0 () ls _ _ _ _ (Nat.zero_le _) ⟨rfl, rfl, lv_sub hl [0, 1, 2, 3, 4, 5, 6] rfl, hM2, hS⟩
      intro f _ ls H locs cells slots hi_f hinv ih_f
      obtain ⟨rfl, rfl, hl, hM2, hS⟩ := hinv
      have hl : lv_has ls 10 [(6, .int (nI f)), (5, .ref (ma 15 (i * 6 + v))), (4, .int (nI v)), (3, .ref (ma 12 i)), (2, .int (nI i)), (1, .ref a), (0, .ref (ma 0 0))] := hl
      refine lv_iload hx hb dX12_harms_65 (lv_at hl 0 rfl) ?_
      refine lv_bipush (v := nI 6) hx hb dX12_harms_67 (by decide) ?_
      refine lv_icmp_ge (tgt := 211) hx hb dX12_harms_69 (by decide) (fun c_11 => ?_) (fun c_11 => ?_)
      · have c_11 := zn_geT (a := f) (b := 6) (by omega) (by omega) c_11
        refine lv_iinc (v := nI (v + 1)) (lv' := [(4, .int (nI (v + 1))), (6, .int (nI f)), (5, .ref (ma 15 (i * 6 + v))), (3, .ref (ma 12 i)), (2, .int (nI i)), (1, .ref a), (0, .ref (ma 0 0))]) hx hb dX12_harms_211 hl (k := 2) rfl (nI_add v 1) (by decide) rfl (fun ls hl => ?_)
        refine lv_goto (tgt := 42) hx hb dX12_harms_214 (by decide) ?_
        exact ih_v () ls _ _ _ _ (by omega) ⟨rfl, rfl, show lv_has ls 10 [(4, .int (nI (v + 1))), (3, .ref (ma 12 i)), (2, .int (nI i)), (1, .ref a), (0, .ref (ma 0 0))] from lv_sub hl [0, 3, 4, 5, 6] rfl, (by rw [show i * 36 + (v + 1) * 6 = i * 36 + v * 6 + f by omega]; exact hM2), hS⟩
      · have c_11 := zn_geF (a := f) (b := 6) (by omega) (by omega) c_11
        refine lv_aload hx hb dX12_harms_72 (lv_at hl 1 rfl) ?_
        refine va_get hx hb hts hinX11 hown hK ((hM.later hS).Pa (hR.v15 (i := i) (v := v) (by omega) (by omega)).1 rfl (hR.v15 (i := i) (v := v) (by omega) (by omega)).2) 0 rfl rfl 1 (by decide) (hk7) (fun _ h9 => h9) rfl dX12_harms_74 ?_
        refine lv_iload hx hb dX12_harms_77 (lv_at hl 0 rfl) ?_
        refine zald hx hb hK ((hM.later hS).Pa (hR.v16 (i := i) (v := v) (by omega) (by omega)).1 rfl (hR.v16 (i := i) (v := v) (by omega) (by omega)).2) 0 0 rfl rfl (i := f) (by omega) (by omega) dX12_harms_79 ?_
        refine lv_aload hx hb dX12_harms_80 (lv_at hl 1 rfl) ?_
        refine va_get hx hb hts hinX11 hown hK ((hM.later hS).Pa (hR.v15 (i := i) (v := v) (by omega) (by omega)).1 rfl (hR.v15 (i := i) (v := v) (by omega) (by omega)).2) 0 rfl rfl 2 (by decide) (hk8) (fun _ h9 => h9) rfl dX12_harms_82 ?_
        refine lv_iload hx hb dX12_harms_85 (lv_at hl 0 rfl) ?_
        refine zald hx hb hK ((hM.later hS).Pa (hR.v17 (i := i) (v := v) (by omega) (by omega)).1 rfl (hR.v17 (i := i) (v := v) (by omega) (by omega)).2) 0 0 rfl rfl (i := f) (by omega) (by omega) dX12_harms_87 ?_
        refine va_mmax hx hb (hml.trans hl.1.symm) hown (hts (.methodLink RX12 81 Lib.Math.max.name) (by decide +kernel)) (hts (.static Lib.Math.max.name) (by decide +kernel)) (hts (.initialized "java/lang/Math") (by decide +kernel)) (hts (.code Lib.Math.max.name Lib.Math.max.code 2 (some .int)) (by decide +kernel)) (Nat.le_of_ble_eq_true rfl) (Nat.le_of_ble_eq_true rfl) (Nat.le_of_ble_eq_true rfl) (Nat.le_of_ble_eq_true rfl) dX12_harms_88 ?_
        refine zeq (zmax_def ((rep (i * 6 + v)) f) ((bro (i * 6 + v)) f)).symm ?_
        refine zeq (hR.own (i := i) (v := v) (f := f) (by omega) (by omega) (by omega)) ?_
        refine lv_istore (lv' := [(7, .int (g 19 ((i * 6 + v) * 6 + f))), (6, .int (nI f)), (5, .ref (ma 15 (i * 6 + v))), (4, .int (nI v)), (3, .ref (ma 12 i)), (2, .int (nI i)), (1, .ref a), (0, .ref (ma 0 0))]) hx hb dX12_harms_91 hl (by decide) rfl (fun ls hl => ?_)
        refine lv_aload hx hb dX12_harms_93 (lv_at hl 2 rfl) ?_
        refine va_get hx hb hts hinX11 hown hK ((hM.later hS).Pa (hR.v15 (i := i) (v := v) (by omega) (by omega)).1 rfl (hR.v15 (i := i) (v := v) (by omega) (by omega)).2) 0 rfl rfl 4 (by decide) (hk9) (fun _ h9 => h9) rfl dX12_harms_95 ?_
        refine lv_iload hx hb dX12_harms_98 (lv_at hl 1 rfl) ?_
        obtain ⟨huz_12, hnz_12, mz_12, bz_12, hCz_12⟩ := isL.hd (hR.v19 (i := i) (v := v) (by omega) (by omega))
        refine zcVr (x := .ref (ma 21 ((i * 6 + v) * 6 + f))) (As := [.int (nI f)]) (rest := []) ⟨hx, hb, hml, hown, hts⟩ (c_get l D ty A u C ma t0 mi 19 (i * 6 + v) 6 (fun f => ma 21 ((i * 6 + v) * 6 + f)) (hR.v19 (i := i) (v := v) (by omega) (by omega)) f (by omega)) (cwV 1 hts gX12_harms_Jx4a65c_get_915e3 rfl rfl rfl (by decide +kernel) ⟨Nat.le_of_ble_eq_true rfl, Nat.le_of_ble_eq_true rfl⟩) (mI_blind) (mI_preN hM hK hMS hS) (va_recv hK ((hM.later hS).Pa huz_12 rfl hCz_12) (ci := 0) (q0 := 0) rfl rfl) rfl hl.1 rfl (Nat.le_of_ble_eq_true rfl) dX12_harms_100 ⟨Nat.le_of_ble_eq_true rfl, Nat.le_of_ble_eq_true rfl⟩ ?_
        obtain ⟨huz_14, hnz_14, mz_14, bz_14, hCz_14⟩ := isL.hd (hR.v21 (i := i) (v := v) (f := f) (by omega) (by omega) (by omega))
        refine va_castS hx hb hown (hk10) ((hK.1 0 _ rfl).2) (va_recv hK ((hM.later hS).Pa huz_14 rfl hCz_14) (ci := 0) (q0 := 0) rfl rfl) dX12_harms_103 ?_
        refine lv_astore (lv' := [(8, .ref (ma 21 ((i * 6 + v) * 6 + f))), (7, .int (g 19 ((i * 6 + v) * 6 + f))), (6, .int (nI f)), (5, .ref (ma 15 (i * 6 + v))), (4, .int (nI v)), (3, .ref (ma 12 i)), (2, .int (nI i)), (1, .ref a), (0, .ref (ma 0 0))]) hx hb dX12_harms_106 hl (by decide) rfl (fun ls hl => ?_)
        refine lv_iconst (v := nI 0) hx hb dX12_harms_108 (by decide) ?_
        refine lv_istore (lv' := [(9, .int (nI 0)), (8, .ref (ma 21 ((i * 6 + v) * 6 + f))), (7, .int (g 19 ((i * 6 + v) * 6 + f))), (6, .int (nI f)), (5, .ref (ma 15 (i * 6 + v))), (4, .int (nI v)), (3, .ref (ma 12 i)), (2, .int (nI i)), (1, .ref a), (0, .ref (ma 0 0))]) hx hb dX12_harms_109 hl (by decide) rfl (fun ls hl => ?_)
        refine zloopP (τ := Unit) (fun k _ ls => lv_has ls 10 [(9, .int (nI k)), (8, .ref (ma 21 ((i * 6 + v) * 6 + f))), (7, .int (wst g (g 21) (g 19 ((i * 6 + v) * 6 + f)) ((lkl g nL ((i * 6 + v) * 6 + f)).take k))), (6, .int (nI f)), (5, .ref (ma 15 (i * 6 + v))), (4, .int (nI v)), (3, .ref (ma 12 i)), (2, .int (nI i)), (1, .ref a), (0, .ref (ma 0 0))]) ((lkl g nL ((i * 6 + v) * 6 + f)).length) ?_ 0 () ls (Nat.zero_le _) (lv_sub hl [0, 1, 2, 3, 4, 5, 6, 7, 8, 9] rfl)
        intro k _ ls hi_k hl ih_k
        have hl : lv_has ls 10 [(9, .int (nI k)), (8, .ref (ma 21 ((i * 6 + v) * 6 + f))), (7, .int (wst g (g 21) (g 19 ((i * 6 + v) * 6 + f)) ((lkl g nL ((i * 6 + v) * 6 + f)).take k))), (6, .int (nI f)), (5, .ref (ma 15 (i * 6 + v))), (4, .int (nI v)), (3, .ref (ma 12 i)), (2, .int (nI i)), (1, .ref a), (0, .ref (ma 0 0))] := hl
        refine lv_iload hx hb dX12_harms_111 (lv_at hl 0 rfl) ?_
        refine lv_aload hx hb dX12_harms_113 (lv_at hl 1 rfl) ?_
        obtain ⟨huz_15, hnz_15, mz_15, bz_15, hCz_15⟩ := isL.hd (hR.v21 (i := i) (v := v) (f := f) (by omega) (by omega) (by omega))
        refine zcVi (As := []) (rest := [.int (nI k)]) ⟨hx, hb, hml, hown, hts⟩ (c_size l D ty A u C ma t0 mi 21 ((i * 6 + v) * 6 + f) ((lkl g nL ((i * 6 + v) * 6 + f)).length) (fun k => ma 23 (lkj g nL ((i * 6 + v) * 6 + f) k)) (hR.v21 (i := i) (v := v) (f := f) (by omega) (by omega) (by omega))) (cwV 0 hts gX12_harms_Jx4a65c_size_8abf5 rfl rfl rfl (by decide +kernel) ⟨Nat.le_of_ble_eq_true rfl, Nat.le_of_ble_eq_true rfl⟩) (mI_blind) (mI_preN hM hK hMS hS) (va_recv hK ((hM.later hS).Pa huz_15 rfl hCz_15) (ci := 0) (q0 := 0) rfl rfl) rfl hl.1 rfl (Nat.le_of_ble_eq_true rfl) dX12_harms_115 ⟨Nat.le_of_ble_eq_true rfl, Nat.le_of_ble_eq_true rfl⟩ (fun r_16 hr_16 => ?_)
        subst hr_16
        refine lv_icmp_ge (tgt := 194) hx hb dX12_harms_118 (by decide) (fun c_17 => ?_) (fun c_17 => ?_)
        · have c_17 := zn_geT (a := k) (b := ((lkl g nL ((i * 6 + v) * 6 + f)).length)) (by omega) (by omega) c_17
          refine lv_aload_n hx hb dX12_harms_194 rfl (lv_at hl 8 rfl) ?_
          refine lv_iload_n hx hb dX12_harms_195 rfl (lv_at hl 7 rfl) ?_
          refine maldq hx hb hK (hM2.Pa (k := 0) (x := 0) (a := a) (e := eR (ty 4) 8 (fun i => some (b i))) (Or.inl ⟨rfl, rfl⟩) rfl (by rfl)) 0 4 rfl rfl (vp_in_nI (by omega) (by omega)) dX12_harms_196 ?_
          refine zeqv (y := .ref (b i)) (by rw [nI_clamp (by omega)]; rfl) ?_
          refine lv_iload hx hb dX12_harms_197 (lv_at hl 5 rfl) ?_
          refine maldq hx hb hK (hM2.Pa (k := 1) (x := i) (a := b i) (e := eR (ty 3) 6 (fun v9 => some (d (i * 6 + v9)))) (Or.inr (Or.inl ⟨rfl, by omega⟩)) rfl (by rfl)) 0 3 rfl rfl (vp_in_nI (by omega) (by omega)) dX12_harms_199 ?_
          refine zeqv (y := .ref (d (i * 6 + v))) (by rw [nI_clamp (by omega)]; rfl) ?_
          refine lv_iload hx hb dX12_harms_200 (lv_at hl 3 rfl) ?_
          refine lv_iload hx hb dX12_harms_202 (lv_at hl 2 rfl) ?_
          refine zeq (show _ = g 21 ((i * 6 + v) * 6 + f) from by rw [show k = (lkl g nL ((i * 6 + v) * 6 + f)).length by omega, List.take_length]; exact (gI_wst hR.I (by omega)).symm) ?_
          refine miast hx hb hK hM2 hS (kk := 2) (x := (i * 6 + v)) (Or.inr (Or.inr ⟨rfl, by omega⟩)) rfl 0 (cA := ty 0) (n := 6) (f := row6 (hmP g (i * 36 + v * 6 + f)) ((i * 6 + v) * 6)) rfl rfl (i := f) (by omega) (by omega) dX12_harms_204 (fun H locs hM2 hS _ => ?_)
          have hM2 := hmW_u (p := (i * 6 + v) * 6 + f) (x := g 21 ((i * 6 + v) * 6 + f)) (by omega) (by rw [show ((i * 6 + v) * 6 + f) / 6 = i * 6 + v by omega, show ((i * 6 + v) * 6 + f) % 6 = f by omega]; exact hM2)
          refine lv_iinc (v := nI (f + 1)) (lv' := [(6, .int (nI (f + 1))), (9, .int (nI k)), (8, .ref (ma 21 ((i * 6 + v) * 6 + f))), (7, .int (wst g (g 21) (g 19 ((i * 6 + v) * 6 + f)) ((lkl g nL ((i * 6 + v) * 6 + f)).take k))), (5, .ref (ma 15 (i * 6 + v))), (4, .int (nI v)), (3, .ref (ma 12 i)), (2, .int (nI i)), (1, .ref a), (0, .ref (ma 0 0))]) hx hb dX12_harms_205 hl (k := 3) rfl (nI_add f 1) (by decide) rfl (fun ls hl => ?_)
          refine lv_goto (tgt := 65) hx hb dX12_harms_208 (by decide) ?_
          exact ih_f () ls _ _ _ _ (by omega) ⟨rfl, rfl, show lv_has ls 10 [(6, .int (nI (f + 1))), (5, .ref (ma 15 (i * 6 + v))), (4, .int (nI v)), (3, .ref (ma 12 i)), (2, .int (nI i)), (1, .ref a), (0, .ref (ma 0 0))] from lv_sub hl [0, 4, 5, 6, 7, 8, 9] rfl, (by rw [show ((i * 6 + v) * 6 + f) = i * 36 + v * 6 + f by omega, hmP_s] at hM2; exact hM2), hS⟩
        · have c_17 := zn_geF (a := k) (b := ((lkl g nL ((i * 6 + v) * 6 + f)).length)) (by omega) (by omega) c_17
          have hkl9 : k < (lkl g nL ((i * 6 + v) * 6 + f)).length := c_17
          have hj := lkj_mem hkl9
          have hj1 := hj.1
          have hp15 : cn (g 15 (lkj g nL ((i * 6 + v) * 6 + f) k)) = (i * 6 + v) * 6 + f := by rw [hj.2]; exact cn_nI (by omega)
          have hlp := hR.I.lkp hj1
          have hlb := (hR.I.lk hj1).2.2
          rw [hp15] at hlp
          refine lv_iload hx hb dX12_harms_121 (lv_at hl 2 rfl) ?_
          refine lv_aload_n hx hb dX12_harms_123 rfl (lv_at hl 8 rfl) ?_
          refine lv_aload hx hb dX12_harms_124 (lv_at hl 1 rfl) ?_
          refine lv_iload hx hb dX12_harms_126 (lv_at hl 0 rfl) ?_
          obtain ⟨huz_18, hnz_18, mz_18, bz_18, hCz_18⟩ := isL.hd (hR.v21 (i := i) (v := v) (f := f) (by omega) (by omega) (by omega))
          refine zcVr (x := .ref (ma 23 (lkj g nL ((i * 6 + v) * 6 + f) k))) (As := [.int (nI k)]) (rest := [.ref a, .int (wst g (g 21) (g 19 ((i * 6 + v) * 6 + f)) ((lkl g nL ((i * 6 + v) * 6 + f)).take k))]) ⟨hx, hb, hml, hown, hts⟩ (c_get l D ty A u C ma t0 mi 21 ((i * 6 + v) * 6 + f) ((lkl g nL ((i * 6 + v) * 6 + f)).length) (fun k => ma 23 (lkj g nL ((i * 6 + v) * 6 + f) k)) (hR.v21 (i := i) (v := v) (f := f) (by omega) (by omega) (by omega)) k (by omega)) (cwV 1 hts gX12_harms_Jx4a65c_get_915e3 rfl rfl rfl (by decide +kernel) ⟨Nat.le_of_ble_eq_true rfl, Nat.le_of_ble_eq_true rfl⟩) (mI_blind) (mI_preN hM hK hMS hS) (va_recv hK ((hM.later hS).Pa huz_18 rfl hCz_18) (ci := 0) (q0 := 0) rfl rfl) rfl hl.1 rfl (Nat.le_of_ble_eq_true rfl) dX12_harms_128 ⟨Nat.le_of_ble_eq_true rfl, Nat.le_of_ble_eq_true rfl⟩ ?_
          refine va_castS hx hb hown (hk11) ((hK.1 9 _ rfl).2) (va_recv hK ((hM.later hS).Pa (hR.k23 (j := lkj g nL ((i * 6 + v) * 6 + f) k) (by omega)).1 rfl (hR.k23 (j := lkj g nL ((i * 6 + v) * 6 + f) k) (by omega)).2) (ci := 9) (q0 := 0) rfl rfl) dX12_harms_131 ?_
          refine va_get hx hb hts hinX8 hown hK ((hM.later hS).Pa (hR.k23 (j := lkj g nL ((i * 6 + v) * 6 + f) k) (by omega)).1 rfl (hR.k23 (j := lkj g nL ((i * 6 + v) * 6 + f) k) (by omega)).2) 0 rfl rfl 0 (by decide) (hk13) (fun _ h9 => h9) rfl dX12_harms_134 ?_
          refine maldq hx hb hK (hM2.Pa (k := 0) (x := 0) (a := a) (e := eR (ty 4) 8 (fun i => some (b i))) (Or.inl ⟨rfl, rfl⟩) rfl (by rfl)) 0 4 rfl rfl (vp_in_nI (by omega) (by omega)) dX12_harms_137 ?_
          refine zeqv (y := .ref (b (cn (g 16 (lkj g nL ((i * 6 + v) * 6 + f) k)) / 36))) (by rw [nI_clamp (by omega)]; rfl) ?_
          refine lv_aload hx hb dX12_harms_138 (lv_at hl 1 rfl) ?_
          refine lv_iload hx hb dX12_harms_140 (lv_at hl 0 rfl) ?_
          obtain ⟨huz_20, hnz_20, mz_20, bz_20, hCz_20⟩ := isL.hd (hR.v21 (i := i) (v := v) (f := f) (by omega) (by omega) (by omega))
          refine zcVr (x := .ref (ma 23 (lkj g nL ((i * 6 + v) * 6 + f) k))) (As := [.int (nI k)]) (rest := [.ref (b (cn (g 16 (lkj g nL ((i * 6 + v) * 6 + f) k)) / 36)), .int (wst g (g 21) (g 19 ((i * 6 + v) * 6 + f)) ((lkl g nL ((i * 6 + v) * 6 + f)).take k))]) ⟨hx, hb, hml, hown, hts⟩ (c_get l D ty A u C ma t0 mi 21 ((i * 6 + v) * 6 + f) ((lkl g nL ((i * 6 + v) * 6 + f)).length) (fun k => ma 23 (lkj g nL ((i * 6 + v) * 6 + f) k)) (hR.v21 (i := i) (v := v) (f := f) (by omega) (by omega) (by omega)) k (by omega)) (cwV 1 hts gX12_harms_Jx4a65c_get_915e3 rfl rfl rfl (by decide +kernel) ⟨Nat.le_of_ble_eq_true rfl, Nat.le_of_ble_eq_true rfl⟩) (mI_blind) (mI_preN hM hK hMS hS) (va_recv hK ((hM.later hS).Pa huz_20 rfl hCz_20) (ci := 0) (q0 := 0) rfl rfl) rfl hl.1 rfl (Nat.le_of_ble_eq_true rfl) dX12_harms_142 ⟨Nat.le_of_ble_eq_true rfl, Nat.le_of_ble_eq_true rfl⟩ ?_
          refine va_castS hx hb hown (hk11) ((hK.1 9 _ rfl).2) (va_recv hK ((hM.later hS).Pa (hR.k23 (j := lkj g nL ((i * 6 + v) * 6 + f) k) (by omega)).1 rfl (hR.k23 (j := lkj g nL ((i * 6 + v) * 6 + f) k) (by omega)).2) (ci := 9) (q0 := 0) rfl rfl) dX12_harms_145 ?_
          refine va_get hx hb hts hinX8 hown hK ((hM.later hS).Pa (hR.k23 (j := lkj g nL ((i * 6 + v) * 6 + f) k) (by omega)).1 rfl (hR.k23 (j := lkj g nL ((i * 6 + v) * 6 + f) k) (by omega)).2) 0 rfl rfl 1 (by decide) (hk14) (fun _ h9 => h9) rfl dX12_harms_148 ?_
          refine maldq hx hb hK (hM2.Pa (k := 1) (x := (cn (g 16 (lkj g nL ((i * 6 + v) * 6 + f) k)) / 36)) (a := b (cn (g 16 (lkj g nL ((i * 6 + v) * 6 + f) k)) / 36)) (e := eR (ty 3) 6 (fun v9 => some (d ((cn (g 16 (lkj g nL ((i * 6 + v) * 6 + f) k)) / 36) * 6 + v9)))) (Or.inr (Or.inl ⟨rfl, by omega⟩)) rfl (by rfl)) 0 3 rfl rfl (vp_in_nI (by omega) (by omega)) dX12_harms_151 ?_
          refine zeqv (y := .ref (d ((cn (g 16 (lkj g nL ((i * 6 + v) * 6 + f) k)) / 36) * 6 + (cn (g 16 (lkj g nL ((i * 6 + v) * 6 + f) k)) / 6 % 6)))) (by rw [nI_clamp (by omega)]; rfl) ?_
          refine lv_aload hx hb dX12_harms_152 (lv_at hl 1 rfl) ?_
          refine lv_iload hx hb dX12_harms_154 (lv_at hl 0 rfl) ?_
          obtain ⟨huz_22, hnz_22, mz_22, bz_22, hCz_22⟩ := isL.hd (hR.v21 (i := i) (v := v) (f := f) (by omega) (by omega) (by omega))
          refine zcVr (x := .ref (ma 23 (lkj g nL ((i * 6 + v) * 6 + f) k))) (As := [.int (nI k)]) (rest := [.ref (d ((cn (g 16 (lkj g nL ((i * 6 + v) * 6 + f) k)) / 36) * 6 + (cn (g 16 (lkj g nL ((i * 6 + v) * 6 + f) k)) / 6 % 6))), .int (wst g (g 21) (g 19 ((i * 6 + v) * 6 + f)) ((lkl g nL ((i * 6 + v) * 6 + f)).take k))]) ⟨hx, hb, hml, hown, hts⟩ (c_get l D ty A u C ma t0 mi 21 ((i * 6 + v) * 6 + f) ((lkl g nL ((i * 6 + v) * 6 + f)).length) (fun k => ma 23 (lkj g nL ((i * 6 + v) * 6 + f) k)) (hR.v21 (i := i) (v := v) (f := f) (by omega) (by omega) (by omega)) k (by omega)) (cwV 1 hts gX12_harms_Jx4a65c_get_915e3 rfl rfl rfl (by decide +kernel) ⟨Nat.le_of_ble_eq_true rfl, Nat.le_of_ble_eq_true rfl⟩) (mI_blind) (mI_preN hM hK hMS hS) (va_recv hK ((hM.later hS).Pa huz_22 rfl hCz_22) (ci := 0) (q0 := 0) rfl rfl) rfl hl.1 rfl (Nat.le_of_ble_eq_true rfl) dX12_harms_156 ⟨Nat.le_of_ble_eq_true rfl, Nat.le_of_ble_eq_true rfl⟩ ?_
          refine va_castS hx hb hown (hk11) ((hK.1 9 _ rfl).2) (va_recv hK ((hM.later hS).Pa (hR.k23 (j := lkj g nL ((i * 6 + v) * 6 + f) k) (by omega)).1 rfl (hR.k23 (j := lkj g nL ((i * 6 + v) * 6 + f) k) (by omega)).2) (ci := 9) (q0 := 0) rfl rfl) dX12_harms_159 ?_
          refine va_get hx hb hts hinX8 hown hK ((hM.later hS).Pa (hR.k23 (j := lkj g nL ((i * 6 + v) * 6 + f) k) (by omega)).1 rfl (hR.k23 (j := lkj g nL ((i * 6 + v) * 6 + f) k) (by omega)).2) 0 rfl rfl 2 (by decide) (hk15) (fun _ h9 => h9) rfl dX12_harms_162 ?_
          refine zald hx hb hK (hM2.Pa (k := 2) (x := ((cn (g 16 (lkj g nL ((i * 6 + v) * 6 + f) k)) / 36) * 6 + (cn (g 16 (lkj g nL ((i * 6 + v) * 6 + f) k)) / 6 % 6))) (a := d ((cn (g 16 (lkj g nL ((i * 6 + v) * 6 + f) k)) / 36) * 6 + (cn (g 16 (lkj g nL ((i * 6 + v) * 6 + f) k)) / 6 % 6))) (e := eI (ty 0) 6 (row6 (hmP g (i * 36 + v * 6 + f)) (((cn (g 16 (lkj g nL ((i * 6 + v) * 6 + f) k)) / 36) * 6 + (cn (g 16 (lkj g nL ((i * 6 + v) * 6 + f) k)) / 6 % 6)) * 6))) (Or.inr (Or.inr ⟨rfl, by omega⟩)) rfl (by rfl)) 0 0 rfl rfl (i := cn (g 16 (lkj g nL ((i * 6 + v) * 6 + f) k)) % 6) (by omega) (by omega) dX12_harms_165 ?_
          refine zeq (row6_at (by omega)) ?_
          refine zeq (show _ = g 21 (cn (g 16 (lkj g nL ((i * 6 + v) * 6 + f) k))) from by rw [show ((cn (g 16 (lkj g nL ((i * 6 + v) * 6 + f) k))) / 36 * 6 + (cn (g 16 (lkj g nL ((i * 6 + v) * 6 + f) k))) / 6 % 6) * 6 + (cn (g 16 (lkj g nL ((i * 6 + v) * 6 + f) k))) % 6 = (cn (g 16 (lkj g nL ((i * 6 + v) * 6 + f) k))) by omega]; exact hmP_lt (by omega)) ?_
          refine lv_aload hx hb dX12_harms_166 (lv_at hl 1 rfl) ?_
          refine lv_iload hx hb dX12_harms_168 (lv_at hl 0 rfl) ?_
          obtain ⟨huz_24, hnz_24, mz_24, bz_24, hCz_24⟩ := isL.hd (hR.v21 (i := i) (v := v) (f := f) (by omega) (by omega) (by omega))
          refine zcVr (x := .ref (ma 23 (lkj g nL ((i * 6 + v) * 6 + f) k))) (As := [.int (nI k)]) (rest := [.int (g 21 (cn (g 16 (lkj g nL ((i * 6 + v) * 6 + f) k)))), .int (wst g (g 21) (g 19 ((i * 6 + v) * 6 + f)) ((lkl g nL ((i * 6 + v) * 6 + f)).take k))]) ⟨hx, hb, hml, hown, hts⟩ (c_get l D ty A u C ma t0 mi 21 ((i * 6 + v) * 6 + f) ((lkl g nL ((i * 6 + v) * 6 + f)).length) (fun k => ma 23 (lkj g nL ((i * 6 + v) * 6 + f) k)) (hR.v21 (i := i) (v := v) (f := f) (by omega) (by omega) (by omega)) k (by omega)) (cwV 1 hts gX12_harms_Jx4a65c_get_915e3 rfl rfl rfl (by decide +kernel) ⟨Nat.le_of_ble_eq_true rfl, Nat.le_of_ble_eq_true rfl⟩) (mI_blind) (mI_preN hM hK hMS hS) (va_recv hK ((hM.later hS).Pa huz_24 rfl hCz_24) (ci := 0) (q0 := 0) rfl rfl) rfl hl.1 rfl (Nat.le_of_ble_eq_true rfl) dX12_harms_170 ⟨Nat.le_of_ble_eq_true rfl, Nat.le_of_ble_eq_true rfl⟩ ?_
          refine va_castS hx hb hown (hk11) ((hK.1 9 _ rfl).2) (va_recv hK ((hM.later hS).Pa (hR.k23 (j := lkj g nL ((i * 6 + v) * 6 + f) k) (by omega)).1 rfl (hR.k23 (j := lkj g nL ((i * 6 + v) * 6 + f) k) (by omega)).2) (ci := 9) (q0 := 0) rfl rfl) dX12_harms_173 ?_
          refine va_get hx hb hts hinX8 hown hK ((hM.later hS).Pa (hR.k23 (j := lkj g nL ((i * 6 + v) * 6 + f) k) (by omega)).1 rfl (hR.k23 (j := lkj g nL ((i * 6 + v) * 6 + f) k) (by omega)).2) 0 rfl rfl 3 (by decide) (hk16) (fun _ h9 => h9) rfl dX12_harms_176 ?_
          refine lv_imul hx hb dX12_harms_179 ?_
          refine lv_bipush (v := nI 100) hx hb dX12_harms_180 (by decide) ?_
          refine lv_idiv hx hb dX12_harms_182 (by decide) ?_
          refine va_mmax hx hb (hml.trans hl.1.symm) hown (hts (.methodLink RX12 81 Lib.Math.max.name) (by decide +kernel)) (hts (.static Lib.Math.max.name) (by decide +kernel)) (hts (.initialized "java/lang/Math") (by decide +kernel)) (hts (.code Lib.Math.max.name Lib.Math.max.code 2 (some .int)) (by decide +kernel)) (Nat.le_of_ble_eq_true rfl) (Nat.le_of_ble_eq_true rfl) (Nat.le_of_ble_eq_true rfl) (Nat.le_of_ble_eq_true rfl) dX12_harms_183 ?_
          refine zeq (zmax_def (wst g (g 21) (g 19 ((i * 6 + v) * 6 + f)) ((lkl g nL ((i * 6 + v) * 6 + f)).take k)) (((g 21 (cn (g 16 (lkj g nL ((i * 6 + v) * 6 + f) k)))) * (g 17 (lkj g nL ((i * 6 + v) * 6 + f) k))) / (nI 100))).symm ?_
          refine lv_istore (lv' := [(7, .int (zmax (wst g (g 21) (g 19 ((i * 6 + v) * 6 + f)) ((lkl g nL ((i * 6 + v) * 6 + f)).take k)) (((g 21 (cn (g 16 (lkj g nL ((i * 6 + v) * 6 + f) k)))) * (g 17 (lkj g nL ((i * 6 + v) * 6 + f) k))) / (nI 100)))), (9, .int (nI k)), (8, .ref (ma 21 ((i * 6 + v) * 6 + f))), (6, .int (nI f)), (5, .ref (ma 15 (i * 6 + v))), (4, .int (nI v)), (3, .ref (ma 12 i)), (2, .int (nI i)), (1, .ref a), (0, .ref (ma 0 0))]) hx hb dX12_harms_186 hl (by decide) rfl (fun ls hl => ?_)
          refine lv_iinc (v := nI (k + 1)) (lv' := [(9, .int (nI (k + 1))), (7, .int (zmax (wst g (g 21) (g 19 ((i * 6 + v) * 6 + f)) ((lkl g nL ((i * 6 + v) * 6 + f)).take k)) (((g 21 (cn (g 16 (lkj g nL ((i * 6 + v) * 6 + f) k)))) * (g 17 (lkj g nL ((i * 6 + v) * 6 + f) k))) / (nI 100)))), (8, .ref (ma 21 ((i * 6 + v) * 6 + f))), (6, .int (nI f)), (5, .ref (ma 15 (i * 6 + v))), (4, .int (nI v)), (3, .ref (ma 12 i)), (2, .int (nI i)), (1, .ref a), (0, .ref (ma 0 0))]) hx hb dX12_harms_188 hl (k := 1) rfl (nI_add k 1) (by decide) rfl (fun ls hl => ?_)
          refine lv_goto (tgt := 111) hx hb dX12_harms_191 (by decide) ?_
          refine ih_k () ls (by omega) (show lv_has ls 10 [(9, .int (nI (k + 1))), (8, .ref (ma 21 ((i * 6 + v) * 6 + f))), (7, .int (wst g (g 21) (g 19 ((i * 6 + v) * 6 + f)) ((lkl g nL ((i * 6 + v) * 6 + f)).take (k + 1)))), (6, .int (nI f)), (5, .ref (ma 15 (i * 6 + v))), (4, .int (nI v)), (3, .ref (ma 12 i)), (2, .int (nI i)), (1, .ref a), (0, .ref (ma 0 0))] from ?_)
          rw [show wst g (g 21) (g 19 ((i * 6 + v) * 6 + f)) ((lkl g nL ((i * 6 + v) * 6 + f)).take (k + 1)) = _ from wst_take (by omega)]
          exact lv_sub hl [0, 2, 1, 3, 4, 5, 6, 7, 8, 9] rfl
