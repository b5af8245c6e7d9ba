set_option maxHeartbeats 400000 in
set_option maxRecDepth 100000 in
theorem c_X12_refuse_f (l : Launch) (D : va_G) (ty : Nat → ClassId) (A : Nat → Prop) (u : Nat → Nat → Prop) (C : Nat → Nat → va_E) (ma : Nat → Nat → Nat) (t0 mi : Nat) (g : Nat → Nat → Int32) (n1 n2 nL n4 n5 : Nat) (th : Int32) (rep bro : Nat → Nat → Int32) (hR : mR ty t0 g n1 n2 nL n4 n5 th rep bro u C ma) (hth : th = nI 0) (w0 : Int32) : Met l yX12_refuse wsX12_refuse ({ frames := 0, cells := 0, slots := 0, locals := 0 }) (va_Pc [.ref (ma 0 0), .int (bI false), .int w0] (mI D ty A u C ma t0 mi)) (vp_Si (fun v_ => v_ = bI false)) 0 0 (fun _ => False) := by
  refine zMet (cc := cX12_refuse) (maxL := 3) (ret := (some .boolean)) (by decide) rfl (Nat.le_of_ble_eq_true rfl) ?_
  intro p e s m below meth c hx hb hr hts hown hlocks hml hB ls hl
  obtain ⟨hM, hK, hMS⟩ := hB
  have hS : va_S A s.heap s.heap [] := va_S.rf
  have hbn := hR.I.b1
  have hbs := hR.I.b2
  have hbl := hR.I.bL
  have hbc := hR.I.b4
  have hbr := hR.I.b5
  have hl : lv_has ls 3 [(0, .ref (ma 0 0)), (1, .int (bI false)), (2, .int w0)] := hl
  have hinX12 : ∀ w ∈ wsX120, w ∈ wsX12_refuse := by decide +kernel
  have hk1 := hts (.fieldLink RX12 25 "DatamarketDeskModel" "thrown" "I") (by decide +kernel)
  refine lv_iload_n hx hb dX12_refuse_0 rfl (lv_at hl 1 rfl) ?_
  refine lv_if_eq (tgt := 16) hx hb dX12_refuse_1 (by decide) (fun c_1 => ?_) (fun c_1 => ?_)
  · have c_1 := bI_f c_1
    refine lv_aload_n hx hb dX12_refuse_16 rfl (lv_at hl 0 rfl) ?_
    refine va_get hx hb hts hinX12 hown hK (hM.Pa hR.o.1 rfl hR.o.2) 0 rfl rfl 0 (by decide) (hk1) (fun _ h9 => h9) rfl dX12_refuse_17 ?_
    refine zeq hth ?_
    refine lv_if_le (tgt := 27) hx hb dX12_refuse_20 (by decide) (fun c_2 => ?_) (fun c_2 => ?_)
    · have c_2 := zq_leT (x := 0) (by omega) c_2
      refine lv_iconst (v := nI 0) hx hb dX12_refuse_27 (by decide) ?_
      exact W.zret (v := nI 0) hx hb hr rfl (fun t ht hW => ⟨_, rfl, rfl, ht⟩) (fun _ h => nomatch h) dX12_refuse_28
    · have c_2 := zq_leF (x := 0) (by omega) c_2
      omega
  · have c_1 := bI_t c_1
    cases c_1
set_option maxHeartbeats 600000 in
set_option maxRecDepth 100000 in
theorem c_X12_refuse_t (l : Launch) (D : va_G) (ty : Nat → ClassId) (A : Nat → Prop) (u : Nat → Nat → Prop) (C : Nat → Nat → va_E) (ma : Nat → Nat → Nat) (t0 mi : Nat) (g : Nat → Nat → Int32) (n1 n2 nL n4 n5 : Nat) (th : Int32) (rep bro : Nat → Nat → Int32) (hR : mR ty t0 g n1 n2 nL n4 n5 th rep bro u C ma) (hth : th = nI 0) (w0 : Nat) (hw1 : 0 < w0) (hw4 : w0 < 4) : Met l yX12_refuse wsX12_refuse ({ frames := 4, cells := 0, slots := 0, locals := 120 }) (va_Pc [.ref (ma 0 0), .int (bI true), .int (nI w0)] (mI D ty A u C ma t0 mi)) (va_Qi (fun (v9 : Int32) (C2 : Nat → Nat → va_E) => v9 = bI true ∧ mR ty t0 g n1 n2 nL n4 n5 (nI w0) rep bro u C2 ma) (fun C2 t => mI D ty A u C2 ma t0 mi t) A) 0 0 A := by
  refine zMet (cc := cX12_refuse) (maxL := 3) (ret := (some .boolean)) (by decide) rfl (Nat.le_of_ble_eq_true rfl) ?_
  intro p e s m below meth c hx hb hr hts hown hlocks hml hB ls hl
  obtain ⟨hM, hK, hMS⟩ := hB
  have hS : va_S A s.heap s.heap [] := va_S.rf
  have hbn := hR.I.b1
  have hbs := hR.I.b2
  have hbl := hR.I.bL
  have hbc := hR.I.b4
  have hbr := hR.I.b5
  have hl : lv_has ls 3 [(0, .ref (ma 0 0)), (1, .int (bI true)), (2, .int (nI w0))] := hl
  have hinX12 : ∀ w ∈ wsX120, w ∈ wsX12_refuse := by decide +kernel
  have hk1 := hts (.fieldLink RX12 25 "DatamarketDeskModel" "thrown" "I") (by decide +kernel)
  refine lv_iload_n hx hb dX12_refuse_0 rfl (lv_at hl 1 rfl) ?_
  refine lv_if_eq (tgt := 16) hx hb dX12_refuse_1 (by decide) (fun c_1 => ?_) (fun c_1 => ?_)
  · have c_1 := bI_f c_1
    cases c_1
  · have c_1 := bI_t c_1
    refine lv_aload_n hx hb dX12_refuse_4 rfl (lv_at hl 0 rfl) ?_
    refine va_get hx hb hts hinX12 hown hK (hM.Pa hR.o.1 rfl hR.o.2) 0 rfl rfl 0 (by decide) (hk1) (fun _ h9 => h9) rfl dX12_refuse_5 ?_
    refine zeq hth ?_
    refine lv_if_ne (tgt := 16) hx hb dX12_refuse_8 (by decide) (fun c_2 => ?_) (fun c_2 => ?_)
    · have c_2 := zq_neT (x := 0) (by omega) c_2
      omega
    · have c_2 := zq_neF (x := 0) (by omega) c_2
      refine lv_aload_n hx hb dX12_refuse_11 rfl (lv_at hl 0 rfl) ?_
      refine lv_iload_n hx hb dX12_refuse_12 rfl (lv_at hl 2 rfl) ?_
      refine mput (v := .int (nI w0)) (ty := .int) hx hb hts hinX12 tyX12 tyX12_ok nmX12 hown hK hM hS hR.o.1 rfl hR.o.2 rfl 0 (by decide) (hk1) (fun _ h9 => h9) rfl (by decide +kernel) rfl rfl (Nat.le_of_ble_eq_true rfl) dX12_refuse_13 (fun H locs hM hS ho => ?_)
      obtain ⟨C_3, eC_3⟩ : ∃ z, z = up2 C 0 0 (eO 13 [.int (nI w0), .ref (ma 1 0), .ref (ma 3 0), .ref (ma 5 0), .ref (ma 7 0), .int (g 0 0)]) := ⟨_, rfl⟩
      have hM : mW D A u C_3 ma H := by rw [eC_3]; exact hM
      have hC_4 : C_3 0 0 = eO 13 [.int (nI w0), .ref (ma 1 0), .ref (ma 3 0), .ref (ma 5 0), .ref (ma 7 0), .int (g 0 0)] := by rw [eC_3]; exact up2_s _ _ _ _
      refine lv_aload_n hx hb dX12_refuse_16 rfl (lv_at hl 0 rfl) ?_
      refine va_get hx hb hts hinX12 hown hK (hM.Pa hR.o.1 rfl hC_4) 0 rfl rfl 0 (by decide) (hk1) (fun _ h9 => h9) rfl dX12_refuse_17 ?_
      refine lv_if_le (tgt := 27) hx hb dX12_refuse_20 (by decide) (fun c_5 => ?_) (fun c_5 => ?_)
      · have c_5 := zq_leT (x := w0) (by omega) c_5
        omega
      · have c_5 := zq_leF (x := w0) (by omega) c_5
        refine lv_iconst (v := nI 1) hx hb dX12_refuse_23 (by decide) ?_
        refine lv_goto (tgt := 28) hx hb dX12_refuse_24 (by decide) ?_
        exact W.zret (v := bI true) hx hb hr (bI_nar _) (fun t ht hW => ⟨⟨_, C_3, rfl, ⟨rfl, by rw [eC_3]; exact hR.th _⟩, mI_pre hM hK hMS hS t ht hW⟩, hS.F ht⟩) hS.2.2 dX12_refuse_28
set_option maxHeartbeats 600000 in
set_option maxRecDepth 100000 in
theorem c_X12_start_f (l : Launch) (D : va_G) (ty : Nat → ClassId) (A : Nat → Prop) (u : Nat → Nat → Prop) (C : Nat → Nat → va_E) (ma : Nat → Nat → Nat) (t0 mi : Nat) (g : Nat → Nat → Int32) (n1 n2 nL n4 n5 : Nat) (th : Int32) (rep bro : Nat → Nat → Int32) (hR : mR ty t0 g n1 n2 nL n4 n5 th rep bro u C ma) (w0 : Nat) (hw1 : 0 < w0) (hw4 : w0 < 4) : Met l yX12_start wsX12_start ({ frames := 6, cells := 0, slots := 0, locals := 170 }) (va_Pc [.ref (ma 0 0), .int (bI false), .int (nI w0)] (mI D ty A u C ma t0 mi)) (va_Qi (fun (v9 : Int32) (C2 : Nat → Nat → va_E) => v9 = bI false ∧ mR ty t0 g n1 n2 nL n4 n5 (nI 0) rep bro u C2 ma) (fun C2 t => mI D ty A u C2 ma t0 mi t) A) 0 0 A := by
  refine zMet (cc := cX12_start) (maxL := 3) (ret := (some .boolean)) (by decide) rfl (Nat.le_of_ble_eq_true rfl) ?_
  intro p e s m below meth c hx hb hr hts hown hlocks hml hB ls hl
  obtain ⟨hM, hK, hMS⟩ := hB
  have hS : va_S A s.heap s.heap [] := va_S.rf
  have hbn := hR.I.b1
  have hbs := hR.I.b2
  have hbl := hR.I.bL
  have hbc := hR.I.b4
  have hbr := hR.I.b5
  have hl : lv_has ls 3 [(0, .ref (ma 0 0)), (1, .int (bI false)), (2, .int (nI w0))] := hl
  have hinX12 : ∀ w ∈ wsX120, w ∈ wsX12_start := by decide +kernel
  have hk1 := hts (.fieldLink RX12 25 "DatamarketDeskModel" "thrown" "I") (by decide +kernel)
  refine lv_aload_n hx hb dX12_start_0 rfl (lv_at hl 0 rfl) ?_
  refine lv_iconst (v := nI 0) hx hb dX12_start_1 (by decide) ?_
  refine mput (v := .int (nI 0)) (ty := .int) hx hb hts hinX12 tyX12 tyX12_ok nmX12 hown hK hM hS hR.o.1 rfl hR.o.2 rfl 0 (by decide) (hk1) (fun _ h9 => h9) rfl (by decide +kernel) rfl rfl (Nat.le_of_ble_eq_true rfl) dX12_start_2 (fun H locs hM hS ho => ?_)
  obtain ⟨C_1, eC_1⟩ : ∃ z, z = up2 C 0 0 (eO 13 [.int (nI 0), .ref (ma 1 0), .ref (ma 3 0), .ref (ma 5 0), .ref (ma 7 0), .int (g 0 0)]) := ⟨_, rfl⟩
  have hM : mW D A u C_1 ma H := by rw [eC_1]; exact hM
  have hC_2 : C_1 0 0 = eO 13 [.int (nI 0), .ref (ma 1 0), .ref (ma 3 0), .ref (ma 5 0), .ref (ma 7 0), .int (g 0 0)] := by rw [eC_1]; exact up2_s _ _ _ _
  have hR_3 : mR ty t0 g n1 n2 nL n4 n5 (nI 0) rep bro u C_1 ma := by rw [eC_1]; exact hR.th _
  refine lv_aload_n hx hb dX12_start_5 rfl (lv_at hl 0 rfl) ?_
  refine lv_iload_n hx hb dX12_start_6 rfl (lv_at hl 1 rfl) ?_
  refine lv_iload_n hx hb dX12_start_7 rfl (lv_at hl 2 rfl) ?_
  refine zcVi (As := [.int (bI false), .int (nI w0)]) (rest := []) ⟨hx, hb, hml, hown, hts⟩ (c_X12_refuse_f l D ty A u C_1 ma t0 mi g n1 n2 nL n4 n5 (nI 0) rep bro hR_3 rfl (nI w0)) (cwV 2 hts gX12_start_X12_refuse rfl rfl rfl (by decide +kernel) ⟨Nat.le_of_ble_eq_true rfl, Nat.le_of_ble_eq_true rfl⟩) mI_blind (mI_pre hM hK hMS hS) (va_recv hK (hM.Pa hR_3.o.1 rfl hR_3.o.2) (ci := 13) (q0 := 0) rfl rfl) rfl hl.1 rfl (Nat.le_of_ble_eq_true rfl) dX12_start_8 ⟨Nat.le_of_ble_eq_true rfl, Nat.le_of_ble_eq_true rfl⟩ (fun r_4 hr_4 => ?_)
  subst hr_4
  exact W.zret (v := bI false) hx hb hr (bI_nar _) (fun t ht hW => ⟨⟨_, C_1, rfl, ⟨rfl, hR_3⟩, mI_pre hM hK hMS hS t ht hW⟩, hS.F ht⟩) hS.2.2 dX12_start_11
set_option maxHeartbeats 600000 in
set_option maxRecDepth 100000 in
theorem c_X12_start_t (l : Launch) (D : va_G) (ty : Nat → ClassId) (A : Nat → Prop) (u : Nat → Nat → Prop) (C : Nat → Nat → va_E) (ma : Nat → Nat → Nat) (t0 mi : Nat) (g : Nat → Nat → Int32) (n1 n2 nL n4 n5 : Nat) (th : Int32) (rep bro : Nat → Nat → Int32) (hR : mR ty t0 g n1 n2 nL n4 n5 th rep bro u C ma) (w0 : Nat) (hw1 : 0 < w0) (hw4 : w0 < 4) : Met l yX12_start wsX12_start ({ frames := 6, cells := 0, slots := 0, locals := 170 }) (va_Pc [.ref (ma 0 0), .int (bI true), .int (nI w0)] (mI D ty A u C ma t0 mi)) (va_Qi (fun (v9 : Int32) (C2 : Nat → Nat → va_E) => v9 = bI true ∧ mR ty t0 g n1 n2 nL n4 n5 (nI w0) rep bro u C2 ma) (fun C2 t => mI D ty A u C2 ma t0 mi t) A) 0 0 A := by
  refine zMet (cc := cX12_start) (maxL := 3) (ret := (some .boolean)) (by decide) rfl (Nat.le_of_ble_eq_true rfl) ?_
  intro p e s m below meth c hx hb hr hts hown hlocks hml hB ls hl
  obtain ⟨hM, hK, hMS⟩ := hB
  have hS : va_S A s.heap s.heap [] := va_S.rf
  have hbn := hR.I.b1
  have hbs := hR.I.b2
  have hbl := hR.I.bL
  have hbc := hR.I.b4
  have hbr := hR.I.b5
  have hl : lv_has ls 3 [(0, .ref (ma 0 0)), (1, .int (bI true)), (2, .int (nI w0))] := hl
  have hinX12 : ∀ w ∈ wsX120, w ∈ wsX12_start := by decide +kernel
  have hk1 := hts (.fieldLink RX12 25 "DatamarketDeskModel" "thrown" "I") (by decide +kernel)
  refine lv_aload_n hx hb dX12_start_0 rfl (lv_at hl 0 rfl) ?_
  refine lv_iconst (v := nI 0) hx hb dX12_start_1 (by decide) ?_
  refine mput (v := .int (nI 0)) (ty := .int) hx hb hts hinX12 tyX12 tyX12_ok nmX12 hown hK hM hS hR.o.1 rfl hR.o.2 rfl 0 (by decide) (hk1) (fun _ h9 => h9) rfl (by decide +kernel) rfl rfl (Nat.le_of_ble_eq_true rfl) dX12_start_2 (fun H locs hM hS ho => ?_)
  obtain ⟨C_1, eC_1⟩ : ∃ z, z = up2 C 0 0 (eO 13 [.int (nI 0), .ref (ma 1 0), .ref (ma 3 0), .ref (ma 5 0), .ref (ma 7 0), .int (g 0 0)]) := ⟨_, rfl⟩
  have hM : mW D A u C_1 ma H := by rw [eC_1]; exact hM
  have hC_2 : C_1 0 0 = eO 13 [.int (nI 0), .ref (ma 1 0), .ref (ma 3 0), .ref (ma 5 0), .ref (ma 7 0), .int (g 0 0)] := by rw [eC_1]; exact up2_s _ _ _ _
  have hR_3 : mR ty t0 g n1 n2 nL n4 n5 (nI 0) rep bro u C_1 ma := by rw [eC_1]; exact hR.th _
  refine lv_aload_n hx hb dX12_start_5 rfl (lv_at hl 0 rfl) ?_
  refine lv_iload_n hx hb dX12_start_6 rfl (lv_at hl 1 rfl) ?_
  refine lv_iload_n hx hb dX12_start_7 rfl (lv_at hl 2 rfl) ?_
  refine va_calli (va_runV (As := [.int (bI true), .int (nI w0)]) (rest := []) ⟨hx, hb, hml, hown, hts⟩ (c_X12_refuse_t l D ty A u C_1 ma t0 mi g n1 n2 nL n4 n5 (nI 0) rep bro hR_3 rfl w0 (by omega) (by omega)) (cwV 2 hts gX12_start_X12_refuse rfl rfl rfl (by decide +kernel) ⟨Nat.le_of_ble_eq_true rfl, Nat.le_of_ble_eq_true rfl⟩) ⟨zBl mI_blind, (va_recv hK (hM.Pa hR_3.o.1 rfl hR_3.o.2) (ci := 13) (q0 := 0) rfl rfl), fun U h1 h2 => ⟨rfl, mI_pre hM hK hMS hS U h1 h2⟩⟩ rfl rfl hl.1 rfl (lv_room (Nat.le_of_ble_eq_true rfl)) dX12_start_8 ⟨Nat.le_of_ble_eq_true rfl, Nat.le_of_ble_eq_true rfl⟩) hS (fun _ _ h => h) (fun _ h => h) (fun r_5 C_4 t H1 locs ht hvm hw hB9 hz1 hk1 hS => ?_)
  obtain ⟨hr_5, hR_6⟩ := hw
  obtain ⟨hM, -, -⟩ := hB9
  rw [ht] at hM
  clear hk1 hz1 hvm ht
  clear t
  generalize H1 = H at hM hS ⊢
  subst hr_5
  exact W.zret (v := bI true) hx hb hr (bI_nar _) (fun t ht hW => ⟨⟨_, C_4, rfl, ⟨rfl, hR_6⟩, mI_pre hM hK hMS hS t ht hW⟩, hS.F ht⟩) hS.2.2 dX12_start_11
