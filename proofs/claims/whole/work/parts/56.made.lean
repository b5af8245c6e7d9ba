/-- made of q at once, or over others: d steps -/
def mdN (g : Nat → Nat → Int32) (nL q : Nat) : Nat → Nat → Bool
  | 0, _ => false
  | d + 1, p => (lkl g nL p).any (fun j => decide (cn (g 16 j) = q) || mdN g nL q d (cn (g 16 j)))
theorem mdN_t {g : Nat → Nat → Int32} {nL q d p k : Nat} (hk : k < (lkl g nL p).length) (h : (decide (cn (g 16 (lkj g nL p k)) = q) || mdN g nL q d (cn (g 16 (lkj g nL p k)))) = true) : mdN g nL q (d + 1) p = true := by
  unfold mdN
  rw [List.any_eq_true]
  exact ⟨lkj g nL p k, lkl_mem.mpr (lkj_mem hk), h⟩
theorem mdN_f {g : Nat → Nat → Int32} {nL q d p : Nat} (h : ∀ k, k < (lkl g nL p).length → (decide (cn (g 16 (lkj g nL p k)) = q) || mdN g nL q d (cn (g 16 (lkj g nL p k)))) = false) : mdN g nL q (d + 1) p = false := by
  unfold mdN
  rw [List.any_eq_false]
  intro j hj
  obtain ⟨k, hk, e⟩ := List.getElem_of_mem hj
  have e2 : lkj g nL p k = j := by unfold lkj; rw [List.getD_eq_getElem?_getD, List.getElem?_eq_getElem hk, e]; rfl
  rw [← e2, h k hk]
  decide
theorem lk_pos {g : Nat → Nat → Int32} {n1 n2 nL n4 n5 p k : Nat} (hI : gI g n1 n2 nL n4 n5) (hp : p < 288) (hk : k < (lkl g nL p).length) : 0 < p / 36 := by
  obtain ⟨h1, h2⟩ := lkj_mem hk
  have h3 := hI.lkp h1
  rw [h2, cn_nI (show p < 2 ^ 31 by omega)] at h3
  omega
set_option maxHeartbeats 400000 in
set_option maxRecDepth 100000 in
theorem c_X12_isMade_1 (l : Launch) (D : va_G) (ty : Nat → ClassId) (A : Nat → Prop) (u : Nat → Nat → Prop) (C : Nat → Nat → va_E) (ma : Nat → Nat → Nat) (t0 mi : Nat) (g : Nat → Nat → Int32) (n1 n2 nL n4 n5 : Nat) (th : Int32) (rep bro : Nat → Nat → Int32) (hR : mR ty t0 g n1 n2 nL n4 n5 th rep bro u C ma) (i v f i2 v2 f2 : Nat) (hd : i < 1) (hi : i < n1) (hv : v < nV g i) (hf : f < 6) (hi2 : i2 < 8) (hv2 : v2 < 6) (hf2 : f2 < 6) : Met l yX12_isMade wsX12_isMade ({ frames := 3, cells := 0, slots := 0, locals := 64 }) (va_Pc [.ref (ma 0 0), .int (nI i), .int (nI v), .int (nI f), .int (nI i2), .int (nI v2), .int (nI f2)] (mI D ty A u C ma t0 mi)) (vp_Si (fun v_ => v_ = bI (mdN g nL ((i2 * 6 + v2) * 6 + f2) 1 ((i * 6 + v) * 6 + f)))) 0 0 (fun _ => False) := by
  refine zMet (cc := cX12_isMade) (maxL := 10) (ret := (some .boolean)) (by decide) rfl (Nat.le_of_ble_eq_true rfl) ?_
  intro p e s m below meth c hx hb hr hts hown hlocks hml hB ls hl
  obtain ⟨hM, hK, hMS⟩ := hB
  have hS : va_S A s.heap s.heap [] := va_S.rf
  have hbn := hR.I.b1
  have hbs := hR.I.b2
  have hbl := hR.I.bL
  have hbc := hR.I.b4
  have hbr := hR.I.b5
  have hv7 := (hR.I.v7 hi).2
  have hlen := hR.I.len (show (i * 6 + v) * 6 + f < 288 by omega)
  have hl : lv_has ls 10 [(0, .ref (ma 0 0)), (1, .int (nI i)), (2, .int (nI v)), (3, .int (nI f)), (4, .int (nI i2)), (5, .int (nI v2)), (6, .int (nI f2))] := hl
  have hinX12 : ∀ w ∈ wsX120, w ∈ wsX12_isMade := by decide +kernel
  have hk1 := hts (.fieldLink RX12 10 "DatamarketDeskModel" "sets" "Ljava/util/ArrayList;") (by decide +kernel)
  have hk2 := hts (.classLink RX12 49 "DatamarketDeskModel$DataSet") (by decide +kernel)
  have hinX7 : ∀ w ∈ wsX70, w ∈ wsX12_isMade := by decide +kernel
  have hk4 := hts (.fieldLink RX12 69 "DatamarketDeskModel$DataSet" "versions" "Ljava/util/ArrayList;") (by decide +kernel)
  have hk5 := hts (.classLink RX12 72 "DatamarketDeskModel$Version") (by decide +kernel)
  have hinX11 : ∀ w ∈ wsX110, w ∈ wsX12_isMade := by decide +kernel
  have hk7 := hts (.fieldLink RX12 87 "DatamarketDeskModel$Version" "links" "Ljava/util/ArrayList;") (by decide +kernel)
  have hk8 := hts (.classLink RX12 7 "java/util/ArrayList") (by decide +kernel)
  refine lv_aload_n hx hb dX12_isMade_0 rfl (lv_at hl 0 rfl) ?_
  refine va_get hx hb hts hinX12 hown hK (hM.Pa hR.o.1 rfl hR.o.2) 0 rfl rfl 1 (by decide) (hk1) (fun _ h9 => h9) rfl dX12_isMade_1 ?_
  refine lv_iload_n hx hb dX12_isMade_4 rfl (lv_at hl 1 rfl) ?_
  obtain ⟨huz_1, hnz_1, mz_1, bz_1, hCz_1⟩ := isL.hd hR.l1
  refine zcVr (x := .ref (ma 9 i)) (As := [.int (nI i)]) (rest := []) ⟨hx, hb, hml, hown, hts⟩ (c_get l D ty A u C ma t0 mi 1 0 n1 (ma 9) hR.l1 i (by omega)) (cwV 1 hts gX12_isMade_Jx4a65c_get_915e3 rfl rfl rfl (by decide +kernel) ⟨Nat.le_of_ble_eq_true rfl, Nat.le_of_ble_eq_true rfl⟩) mI_blind (mI_pre hM hK hMS hS) (va_recv hK (hM.Pa huz_1 rfl hCz_1) (ci := 0) (q0 := 0) rfl rfl) rfl hl.1 rfl (Nat.le_of_ble_eq_true rfl) dX12_isMade_5 ⟨Nat.le_of_ble_eq_true rfl, Nat.le_of_ble_eq_true rfl⟩ ?_
  refine va_castS hx hb hown (hk2) ((hK.1 8 _ rfl).2) (va_recv hK (hM.Pa (hR.s9 (i := i) (by omega)).1 rfl (hR.s9 (i := i) (by omega)).2) (ci := 8) (q0 := 0) rfl rfl) dX12_isMade_8 ?_
  refine va_get hx hb hts hinX7 hown hK (hM.Pa (hR.s9 (i := i) (by omega)).1 rfl (hR.s9 (i := i) (by omega)).2) 0 rfl rfl 3 (by decide) (hk4) (fun _ h9 => h9) rfl dX12_isMade_11 ?_
  refine lv_iload_n hx hb dX12_isMade_14 rfl (lv_at hl 2 rfl) ?_
  obtain ⟨huz_3, hnz_3, mz_3, bz_3, hCz_3⟩ := isL.hd (hR.s12 (i := i) (by omega))
  refine zcVr (x := .ref (ma 15 (i * 6 + v))) (As := [.int (nI v)]) (rest := []) ⟨hx, hb, hml, hown, hts⟩ (c_get l D ty A u C ma t0 mi 12 i (nV g i) (fun v => ma 15 (i * 6 + v)) (hR.s12 (i := i) (by omega)) v (by omega)) (cwV 1 hts gX12_isMade_Jx4a65c_get_915e3 rfl rfl rfl (by decide +kernel) ⟨Nat.le_of_ble_eq_true rfl, Nat.le_of_ble_eq_true rfl⟩) mI_blind (mI_pre hM hK hMS hS) (va_recv hK (hM.Pa huz_3 rfl hCz_3) (ci := 0) (q0 := 0) rfl rfl) rfl hl.1 rfl (Nat.le_of_ble_eq_true rfl) dX12_isMade_15 ⟨Nat.le_of_ble_eq_true rfl, Nat.le_of_ble_eq_true rfl⟩ ?_
  refine va_castS hx hb hown (hk5) ((hK.1 12 _ rfl).2) (va_recv hK (hM.Pa (hR.v15 (i := i) (v := v) (by omega) (by omega)).1 rfl (hR.v15 (i := i) (v := v) (by omega) (by omega)).2) (ci := 12) (q0 := 0) rfl rfl) dX12_isMade_18 ?_
  refine va_get hx hb hts hinX11 hown hK (hM.Pa (hR.v15 (i := i) (v := v) (by omega) (by omega)).1 rfl (hR.v15 (i := i) (v := v) (by omega) (by omega)).2) 0 rfl rfl 4 (by decide) (hk7) (fun _ h9 => h9) rfl dX12_isMade_21 ?_
  refine lv_iload_n hx hb dX12_isMade_24 rfl (lv_at hl 3 rfl) ?_
  obtain ⟨huz_5, hnz_5, mz_5, bz_5, hCz_5⟩ := isL.hd (hR.v19 (i := i) (v := v) (by omega) (by omega))
  refine zcVr (x := .ref (ma 21 ((i * 6 + v) * 6 + f))) (As := [.int (nI f)]) (rest := []) ⟨hx, hb, hml, hown, hts⟩ (c_get l D ty A u C ma t0 mi 19 (i * 6 + v) 6 (fun f => ma 21 ((i * 6 + v) * 6 + f)) (hR.v19 (i := i) (v := v) (by omega) (by omega)) f (by omega)) (cwV 1 hts gX12_isMade_Jx4a65c_get_915e3 rfl rfl rfl (by decide +kernel) ⟨Nat.le_of_ble_eq_true rfl, Nat.le_of_ble_eq_true rfl⟩) mI_blind (mI_pre hM hK hMS hS) (va_recv hK (hM.Pa huz_5 rfl hCz_5) (ci := 0) (q0 := 0) rfl rfl) rfl hl.1 rfl (Nat.le_of_ble_eq_true rfl) dX12_isMade_25 ⟨Nat.le_of_ble_eq_true rfl, Nat.le_of_ble_eq_true rfl⟩ ?_
  obtain ⟨huz_7, hnz_7, mz_7, bz_7, hCz_7⟩ := isL.hd (hR.v21 (i := i) (v := v) (f := f) (by omega) (by omega) (by omega))
  refine va_castS hx hb hown (hk8) ((hK.1 0 _ rfl).2) (va_recv hK (hM.Pa huz_7 rfl hCz_7) (ci := 0) (q0 := 0) rfl rfl) dX12_isMade_28 ?_
  refine lv_astore (lv' := [(7, .ref (ma 21 ((i * 6 + v) * 6 + f))), (0, .ref (ma 0 0)), (1, .int (nI i)), (2, .int (nI v)), (3, .int (nI f)), (4, .int (nI i2)), (5, .int (nI v2)), (6, .int (nI f2))]) hx hb dX12_isMade_31 hl (by decide) rfl (fun ls hl => ?_)
  refine lv_iconst (v := nI 0) hx hb dX12_isMade_33 (by decide) ?_
  refine lv_istore (lv' := [(8, .int (nI 0)), (7, .ref (ma 21 ((i * 6 + v) * 6 + f))), (0, .ref (ma 0 0)), (1, .int (nI i)), (2, .int (nI v)), (3, .int (nI f)), (4, .int (nI i2)), (5, .int (nI v2)), (6, .int (nI f2))]) hx hb dX12_isMade_34 hl (by decide) rfl (fun ls hl => ?_)
  refine zloopP (τ := Unit) (fun k _ ls => (∀ k9, k9 < k → (decide (cn (g 16 (lkj g nL ((i * 6 + v) * 6 + f) k9)) = ((i2 * 6 + v2) * 6 + f2)) || mdN g nL ((i2 * 6 + v2) * 6 + f2) 0 (cn (g 16 (lkj g nL ((i * 6 + v) * 6 + f) k9)))) = false) ∧ lv_has ls 10 [(8, .int (nI k)), (7, .ref (ma 21 ((i * 6 + v) * 6 + f))), (0, .ref (ma 0 0)), (1, .int (nI i)), (2, .int (nI v)), (3, .int (nI f)), (4, .int (nI i2)), (5, .int (nI v2)), (6, .int (nI f2))]) ((lkl g nL ((i * 6 + v) * 6 + f)).length) ?_ 0 () ls (Nat.zero_le _) ⟨(fun _ h => absurd h (Nat.not_lt_zero _)), lv_sub hl [0, 1, 2, 3, 4, 5, 6, 7, 8] rfl⟩
  intro k _ ls hi_k hinv_k ih_k
  obtain ⟨hq_k, hl⟩ := hinv_k
  have hl : lv_has ls 10 [(8, .int (nI k)), (7, .ref (ma 21 ((i * 6 + v) * 6 + f))), (0, .ref (ma 0 0)), (1, .int (nI i)), (2, .int (nI v)), (3, .int (nI f)), (4, .int (nI i2)), (5, .int (nI v2)), (6, .int (nI f2))] := hl
  refine lv_iload hx hb dX12_isMade_36 (lv_at hl 0 rfl) ?_
  refine lv_aload hx hb dX12_isMade_38 (lv_at hl 1 rfl) ?_
  obtain ⟨huz_8, hnz_8, mz_8, bz_8, hCz_8⟩ := isL.hd (hR.v21 (i := i) (v := v) (f := f) (by omega) (by omega) (by omega))
  refine zcVi (As := []) (rest := [.int (nI k)]) ⟨hx, hb, hml, hown, hts⟩ (c_size l D ty A u C ma t0 mi 21 ((i * 6 + v) * 6 + f) ((lkl g nL ((i * 6 + v) * 6 + f)).length) (fun k => ma 23 (lkj g nL ((i * 6 + v) * 6 + f) k)) (hR.v21 (i := i) (v := v) (f := f) (by omega) (by omega) (by omega))) (cwV 0 hts gX12_isMade_Jx4a65c_size_8abf5 rfl rfl rfl (by decide +kernel) ⟨Nat.le_of_ble_eq_true rfl, Nat.le_of_ble_eq_true rfl⟩) mI_blind (mI_pre hM hK hMS hS) (va_recv hK (hM.Pa huz_8 rfl hCz_8) (ci := 0) (q0 := 0) rfl rfl) rfl hl.1 rfl (Nat.le_of_ble_eq_true rfl) dX12_isMade_40 ⟨Nat.le_of_ble_eq_true rfl, Nat.le_of_ble_eq_true rfl⟩ (fun r_9 hr_9 => ?_)
  subst hr_9
  refine lv_icmp_ge (tgt := 124) hx hb dX12_isMade_43 (by decide) (fun c_10 => ?_) (fun c_10 => ?_)
  · have c_10 := zn_geT (a := k) (b := ((lkl g nL ((i * 6 + v) * 6 + f)).length)) (by omega) (by omega) c_10
    obtain e9 : (lkl g nL ((i * 6 + v) * 6 + f)).length = k := by omega
    refine lv_iconst (v := nI 0) hx hb dX12_isMade_124 (by decide) ?_
    exact W.zret (v := nI 0) hx hb hr rfl (fun t ht hW => ⟨_, rfl, bI_n0 (mdN_f (fun k9 h9 => hq_k k9 (by omega))), ht⟩) (fun _ h => nomatch h) dX12_isMade_125
  · have c_10 := zn_geF (a := k) (b := ((lkl g nL ((i * 6 + v) * 6 + f)).length)) (by omega) (by omega) c_10
    exact absurd (lk_pos hR.I (by omega) c_10) (by omega)
set_option maxHeartbeats 400000 in
set_option maxRecDepth 100000 in
theorem c_X12_isMade_2 (l : Launch) (D : va_G) (ty : Nat → ClassId) (A : Nat → Prop) (u : Nat → Nat → Prop) (C : Nat → Nat → va_E) (ma : Nat → Nat → Nat) (t0 mi : Nat) (g : Nat → Nat → Int32) (n1 n2 nL n4 n5 : Nat) (th : Int32) (rep bro : Nat → Nat → Int32) (hR : mR ty t0 g n1 n2 nL n4 n5 th rep bro u C ma) (i v f i2 v2 f2 : Nat) (hd : i < 2) (hi : i < n1) (hv : v < nV g i) (hf : f < 6) (hi2 : i2 < 8) (hv2 : v2 < 6) (hf2 : f2 < 6) : Met l yX12_isMade wsX12_isMade ({ frames := 4, cells := 0, slots := 0, locals := 93 }) (va_Pc [.ref (ma 0 0), .int (nI i), .int (nI v), .int (nI f), .int (nI i2), .int (nI v2), .int (nI f2)] (mI D ty A u C ma t0 mi)) (vp_Si (fun v_ => v_ = bI (mdN g nL ((i2 * 6 + v2) * 6 + f2) 2 ((i * 6 + v) * 6 + f)))) 0 0 (fun _ => False) := by
  refine zMet (cc := cX12_isMade) (maxL := 10) (ret := (some .boolean)) (by decide) rfl (Nat.le_of_ble_eq_true rfl) ?_
  intro p e s m below meth c hx hb hr hts hown hlocks hml hB ls hl
  obtain ⟨hM, hK, hMS⟩ := hB
  have hS : va_S A s.heap s.heap [] := va_S.rf
  have hbn := hR.I.b1
  have hbs := hR.I.b2
  have hbl := hR.I.bL
  have hbc := hR.I.b4
  have hbr := hR.I.b5
  have hv7 := (hR.I.v7 hi).2
  have hlen := hR.I.len (show (i * 6 + v) * 6 + f < 288 by omega)
  have hl : lv_has ls 10 [(0, .ref (ma 0 0)), (1, .int (nI i)), (2, .int (nI v)), (3, .int (nI f)), (4, .int (nI i2)), (5, .int (nI v2)), (6, .int (nI f2))] := hl
  have hinX12 : ∀ w ∈ wsX120, w ∈ wsX12_isMade := by decide +kernel
  have hk1 := hts (.fieldLink RX12 10 "DatamarketDeskModel" "sets" "Ljava/util/ArrayList;") (by decide +kernel)
  have hk2 := hts (.classLink RX12 49 "DatamarketDeskModel$DataSet") (by decide +kernel)
  have hinX7 : ∀ w ∈ wsX70, w ∈ wsX12_isMade := by decide +kernel
  have hk4 := hts (.fieldLink RX12 69 "DatamarketDeskModel$DataSet" "versions" "Ljava/util/ArrayList;") (by decide +kernel)
  have hk5 := hts (.classLink RX12 72 "DatamarketDeskModel$Version") (by decide +kernel)
  have hinX11 : ∀ w ∈ wsX110, w ∈ wsX12_isMade := by decide +kernel
  have hk7 := hts (.fieldLink RX12 87 "DatamarketDeskModel$Version" "links" "Ljava/util/ArrayList;") (by decide +kernel)
  have hk8 := hts (.classLink RX12 7 "java/util/ArrayList") (by decide +kernel)
  have hk9 := hts (.classLink RX12 90 "DatamarketDeskModel$Link") (by decide +kernel)
  have hinX8 : ∀ w ∈ wsX80, w ∈ wsX12_isMade := by decide +kernel
  have hk11 := hts (.fieldLink RX12 92 "DatamarketDeskModel$Link" "set" "I") (by decide +kernel)
  have hk12 := hts (.fieldLink RX12 95 "DatamarketDeskModel$Link" "version" "I") (by decide +kernel)
  have hk13 := hts (.fieldLink RX12 98 "DatamarketDeskModel$Link" "field" "I") (by decide +kernel)
  refine lv_aload_n hx hb dX12_isMade_0 rfl (lv_at hl 0 rfl) ?_
  refine va_get hx hb hts hinX12 hown hK (hM.Pa hR.o.1 rfl hR.o.2) 0 rfl rfl 1 (by decide) (hk1) (fun _ h9 => h9) rfl dX12_isMade_1 ?_
  refine lv_iload_n hx hb dX12_isMade_4 rfl (lv_at hl 1 rfl) ?_
  obtain ⟨huz_1, hnz_1, mz_1, bz_1, hCz_1⟩ := isL.hd hR.l1
  refine zcVr (x := .ref (ma 9 i)) (As := [.int (nI i)]) (rest := []) ⟨hx, hb, hml, hown, hts⟩ (c_get l D ty A u C ma t0 mi 1 0 n1 (ma 9) hR.l1 i (by omega)) (cwV 1 hts gX12_isMade_Jx4a65c_get_915e3 rfl rfl rfl (by decide +kernel) ⟨Nat.le_of_ble_eq_true rfl, Nat.le_of_ble_eq_true rfl⟩) mI_blind (mI_pre hM hK hMS hS) (va_recv hK (hM.Pa huz_1 rfl hCz_1) (ci := 0) (q0 := 0) rfl rfl) rfl hl.1 rfl (Nat.le_of_ble_eq_true rfl) dX12_isMade_5 ⟨Nat.le_of_ble_eq_true rfl, Nat.le_of_ble_eq_true rfl⟩ ?_
  refine va_castS hx hb hown (hk2) ((hK.1 8 _ rfl).2) (va_recv hK (hM.Pa (hR.s9 (i := i) (by omega)).1 rfl (hR.s9 (i := i) (by omega)).2) (ci := 8) (q0 := 0) rfl rfl) dX12_isMade_8 ?_
  refine va_get hx hb hts hinX7 hown hK (hM.Pa (hR.s9 (i := i) (by omega)).1 rfl (hR.s9 (i := i) (by omega)).2) 0 rfl rfl 3 (by decide) (hk4) (fun _ h9 => h9) rfl dX12_isMade_11 ?_
  refine lv_iload_n hx hb dX12_isMade_14 rfl (lv_at hl 2 rfl) ?_
  obtain ⟨huz_3, hnz_3, mz_3, bz_3, hCz_3⟩ := isL.hd (hR.s12 (i := i) (by omega))
  refine zcVr (x := .ref (ma 15 (i * 6 + v))) (As := [.int (nI v)]) (rest := []) ⟨hx, hb, hml, hown, hts⟩ (c_get l D ty A u C ma t0 mi 12 i (nV g i) (fun v => ma 15 (i * 6 + v)) (hR.s12 (i := i) (by omega)) v (by omega)) (cwV 1 hts gX12_isMade_Jx4a65c_get_915e3 rfl rfl rfl (by decide +kernel) ⟨Nat.le_of_ble_eq_true rfl, Nat.le_of_ble_eq_true rfl⟩) mI_blind (mI_pre hM hK hMS hS) (va_recv hK (hM.Pa huz_3 rfl hCz_3) (ci := 0) (q0 := 0) rfl rfl) rfl hl.1 rfl (Nat.le_of_ble_eq_true rfl) dX12_isMade_15 ⟨Nat.le_of_ble_eq_true rfl, Nat.le_of_ble_eq_true rfl⟩ ?_
  refine va_castS hx hb hown (hk5) ((hK.1 12 _ rfl).2) (va_recv hK (hM.Pa (hR.v15 (i := i) (v := v) (by omega) (by omega)).1 rfl (hR.v15 (i := i) (v := v) (by omega) (by omega)).2) (ci := 12) (q0 := 0) rfl rfl) dX12_isMade_18 ?_
  refine va_get hx hb hts hinX11 hown hK (hM.Pa (hR.v15 (i := i) (v := v) (by omega) (by omega)).1 rfl (hR.v15 (i := i) (v := v) (by omega) (by omega)).2) 0 rfl rfl 4 (by decide) (hk7) (fun _ h9 => h9) rfl dX12_isMade_21 ?_
  refine lv_iload_n hx hb dX12_isMade_24 rfl (lv_at hl 3 rfl) ?_
  obtain ⟨huz_5, hnz_5, mz_5, bz_5, hCz_5⟩ := isL.hd (hR.v19 (i := i) (v := v) (by omega) (by omega))
  refine zcVr (x := .ref (ma 21 ((i * 6 + v) * 6 + f))) (As := [.int (nI f)]) (rest := []) ⟨hx, hb, hml, hown, hts⟩ (c_get l D ty A u C ma t0 mi 19 (i * 6 + v) 6 (fun f => ma 21 ((i * 6 + v) * 6 + f)) (hR.v19 (i := i) (v := v) (by omega) (by omega)) f (by omega)) (cwV 1 hts gX12_isMade_Jx4a65c_get_915e3 rfl rfl rfl (by decide +kernel) ⟨Nat.le_of_ble_eq_true rfl, Nat.le_of_ble_eq_true rfl⟩) mI_blind (mI_pre hM hK hMS hS) (va_recv hK (hM.Pa huz_5 rfl hCz_5) (ci := 0) (q0 := 0) rfl rfl) rfl hl.1 rfl (Nat.le_of_ble_eq_true rfl) dX12_isMade_25 ⟨Nat.le_of_ble_eq_true rfl, Nat.le_of_ble_eq_true rfl⟩ ?_
  obtain ⟨huz_7, hnz_7, mz_7, bz_7, hCz_7⟩ := isL.hd (hR.v21 (i := i) (v := v) (f := f) (by omega) (by omega) (by omega))
  refine va_castS hx hb hown (hk8) ((hK.1 0 _ rfl).2) (va_recv hK (hM.Pa huz_7 rfl hCz_7) (ci := 0) (q0 := 0) rfl rfl) dX12_isMade_28 ?_
  refine lv_astore (lv' := [(7, .ref (ma 21 ((i * 6 + v) * 6 + f))), (0, .ref (ma 0 0)), (1, .int (nI i)), (2, .int (nI v)), (3, .int (nI f)), (4, .int (nI i2)), (5, .int (nI v2)), (6, .int (nI f2))]) hx hb dX12_isMade_31 hl (by decide) rfl (fun ls hl => ?_)
  refine lv_iconst (v := nI 0) hx hb dX12_isMade_33 (by decide) ?_
  refine lv_istore (lv' := [(8, .int (nI 0)), (7, .ref (ma 21 ((i * 6 + v) * 6 + f))), (0, .ref (ma 0 0)), (1, .int (nI i)), (2, .int (nI v)), (3, .int (nI f)), (4, .int (nI i2)), (5, .int (nI v2)), (6, .int (nI f2))]) hx hb dX12_isMade_34 hl (by decide) rfl (fun ls hl => ?_)
  refine zloopP (τ := Unit) (fun k _ ls => (∀ k9, k9 < k → (decide (cn (g 16 (lkj g nL ((i * 6 + v) * 6 + f) k9)) = ((i2 * 6 + v2) * 6 + f2)) || mdN g nL ((i2 * 6 + v2) * 6 + f2) 1 (cn (g 16 (lkj g nL ((i * 6 + v) * 6 + f) k9)))) = false) ∧ lv_has ls 10 [(8, .int (nI k)), (7, .ref (ma 21 ((i * 6 + v) * 6 + f))), (0, .ref (ma 0 0)), (1, .int (nI i)), (2, .int (nI v)), (3, .int (nI f)), (4, .int (nI i2)), (5, .int (nI v2)), (6, .int (nI f2))]) ((lkl g nL ((i * 6 + v) * 6 + f)).length) ?_ 0 () ls (Nat.zero_le _) ⟨(fun _ h => absurd h (Nat.not_lt_zero _)), lv_sub hl [0, 1, 2, 3, 4, 5, 6, 7, 8] rfl⟩
  intro k _ ls hi_k hinv_k ih_k
  obtain ⟨hq_k, hl⟩ := hinv_k
  have hl : lv_has ls 10 [(8, .int (nI k)), (7, .ref (ma 21 ((i * 6 + v) * 6 + f))), (0, .ref (ma 0 0)), (1, .int (nI i)), (2, .int (nI v)), (3, .int (nI f)), (4, .int (nI i2)), (5, .int (nI v2)), (6, .int (nI f2))] := hl
  refine lv_iload hx hb dX12_isMade_36 (lv_at hl 0 rfl) ?_
  refine lv_aload hx hb dX12_isMade_38 (lv_at hl 1 rfl) ?_
  obtain ⟨huz_8, hnz_8, mz_8, bz_8, hCz_8⟩ := isL.hd (hR.v21 (i := i) (v := v) (f := f) (by omega) (by omega) (by omega))
  refine zcVi (As := []) (rest := [.int (nI k)]) ⟨hx, hb, hml, hown, hts⟩ (c_size l D ty A u C ma t0 mi 21 ((i * 6 + v) * 6 + f) ((lkl g nL ((i * 6 + v) * 6 + f)).length) (fun k => ma 23 (lkj g nL ((i * 6 + v) * 6 + f) k)) (hR.v21 (i := i) (v := v) (f := f) (by omega) (by omega) (by omega))) (cwV 0 hts gX12_isMade_Jx4a65c_size_8abf5 rfl rfl rfl (by decide +kernel) ⟨Nat.le_of_ble_eq_true rfl, Nat.le_of_ble_eq_true rfl⟩) mI_blind (mI_pre hM hK hMS hS) (va_recv hK (hM.Pa huz_8 rfl hCz_8) (ci := 0) (q0 := 0) rfl rfl) rfl hl.1 rfl (Nat.le_of_ble_eq_true rfl) dX12_isMade_40 ⟨Nat.le_of_ble_eq_true rfl, Nat.le_of_ble_eq_true rfl⟩ (fun r_9 hr_9 => ?_)
  subst hr_9
  refine lv_icmp_ge (tgt := 124) hx hb dX12_isMade_43 (by decide) (fun c_10 => ?_) (fun c_10 => ?_)
  · have c_10 := zn_geT (a := k) (b := ((lkl g nL ((i * 6 + v) * 6 + f)).length)) (by omega) (by omega) c_10
    obtain e9 : (lkl g nL ((i * 6 + v) * 6 + f)).length = k := by omega
    refine lv_iconst (v := nI 0) hx hb dX12_isMade_124 (by decide) ?_
    exact W.zret (v := nI 0) hx hb hr rfl (fun t ht hW => ⟨_, rfl, bI_n0 (mdN_f (fun k9 h9 => hq_k k9 (by omega))), ht⟩) (fun _ h => nomatch h) dX12_isMade_125
  · have c_10 := zn_geF (a := k) (b := ((lkl g nL ((i * 6 + v) * 6 + f)).length)) (by omega) (by omega) c_10
    have hkl9 : k < (lkl g nL ((i * 6 + v) * 6 + f)).length := c_10
    have hj := lkj_mem hkl9
    have hj1 := hj.1
    have hp15 : cn (g 15 (lkj g nL ((i * 6 + v) * 6 + f) k)) = (i * 6 + v) * 6 + f := by rw [hj.2]; exact cn_nI (by omega)
    have hlp := hR.I.lkp hj1
    have hlb := (hR.I.lk hj1).2.2
    rw [hp15] at hlp
    refine lv_aload hx hb dX12_isMade_46 (lv_at hl 1 rfl) ?_
    refine lv_iload hx hb dX12_isMade_48 (lv_at hl 0 rfl) ?_
    obtain ⟨huz_11, hnz_11, mz_11, bz_11, hCz_11⟩ := isL.hd (hR.v21 (i := i) (v := v) (f := f) (by omega) (by omega) (by omega))
    refine zcVr (x := .ref (ma 23 (lkj g nL ((i * 6 + v) * 6 + f) k))) (As := [.int (nI k)]) (rest := []) ⟨hx, hb, hml, hown, hts⟩ (c_get l D ty A u C ma t0 mi 21 ((i * 6 + v) * 6 + f) ((lkl g nL ((i * 6 + v) * 6 + f)).length) (fun k => ma 23 (lkj g nL ((i * 6 + v) * 6 + f) k)) (hR.v21 (i := i) (v := v) (f := f) (by omega) (by omega) (by omega)) k (by omega)) (cwV 1 hts gX12_isMade_Jx4a65c_get_915e3 rfl rfl rfl (by decide +kernel) ⟨Nat.le_of_ble_eq_true rfl, Nat.le_of_ble_eq_true rfl⟩) mI_blind (mI_pre hM hK hMS hS) (va_recv hK (hM.Pa huz_11 rfl hCz_11) (ci := 0) (q0 := 0) rfl rfl) rfl hl.1 rfl (Nat.le_of_ble_eq_true rfl) dX12_isMade_50 ⟨Nat.le_of_ble_eq_true rfl, Nat.le_of_ble_eq_true rfl⟩ ?_
    refine va_castS hx hb hown (hk9) ((hK.1 9 _ rfl).2) (va_recv hK (hM.Pa (hR.k23 (j := lkj g nL ((i * 6 + v) * 6 + f) k) (by omega)).1 rfl (hR.k23 (j := lkj g nL ((i * 6 + v) * 6 + f) k) (by omega)).2) (ci := 9) (q0 := 0) rfl rfl) dX12_isMade_53 ?_
    refine lv_astore (lv' := [(9, .ref (ma 23 (lkj g nL ((i * 6 + v) * 6 + f) k))), (8, .int (nI k)), (7, .ref (ma 21 ((i * 6 + v) * 6 + f))), (0, .ref (ma 0 0)), (1, .int (nI i)), (2, .int (nI v)), (3, .int (nI f)), (4, .int (nI i2)), (5, .int (nI v2)), (6, .int (nI f2))]) hx hb dX12_isMade_56 hl (by decide) rfl (fun ls hl => ?_)
    refine lv_aload hx hb dX12_isMade_58 (lv_at hl 0 rfl) ?_
    refine va_get hx hb hts hinX8 hown hK (hM.Pa (hR.k23 (j := lkj g nL ((i * 6 + v) * 6 + f) k) (by omega)).1 rfl (hR.k23 (j := lkj g nL ((i * 6 + v) * 6 + f) k) (by omega)).2) 0 rfl rfl 0 (by decide) (hk11) (fun _ h9 => h9) rfl dX12_isMade_60 ?_
    refine lv_iload hx hb dX12_isMade_63 (lv_at hl 7 rfl) ?_
    refine lv_icmp_ne (tgt := 88) hx hb dX12_isMade_65 (by decide) (fun c_13 => ?_) (fun c_13 => ?_)
    · have c_13 := zn_neT (a := (cn (g 16 (lkj g nL ((i * 6 + v) * 6 + f) k)) / 36)) (b := i2) (by omega) (by omega) c_13
      refine lv_aload_n hx hb dX12_isMade_88 rfl (lv_at hl 3 rfl) ?_
      refine lv_aload hx hb dX12_isMade_89 (lv_at hl 0 rfl) ?_
      refine va_get hx hb hts hinX8 hown hK (hM.Pa (hR.k23 (j := lkj g nL ((i * 6 + v) * 6 + f) k) (by omega)).1 rfl (hR.k23 (j := lkj g nL ((i * 6 + v) * 6 + f) k) (by omega)).2) 0 rfl rfl 0 (by decide) (hk11) (fun _ h9 => h9) rfl dX12_isMade_91 ?_
      refine lv_aload hx hb dX12_isMade_94 (lv_at hl 0 rfl) ?_
      refine va_get hx hb hts hinX8 hown hK (hM.Pa (hR.k23 (j := lkj g nL ((i * 6 + v) * 6 + f) k) (by omega)).1 rfl (hR.k23 (j := lkj g nL ((i * 6 + v) * 6 + f) k) (by omega)).2) 0 rfl rfl 1 (by decide) (hk12) (fun _ h9 => h9) rfl dX12_isMade_96 ?_
      refine lv_aload hx hb dX12_isMade_99 (lv_at hl 0 rfl) ?_
      refine va_get hx hb hts hinX8 hown hK (hM.Pa (hR.k23 (j := lkj g nL ((i * 6 + v) * 6 + f) k) (by omega)).1 rfl (hR.k23 (j := lkj g nL ((i * 6 + v) * 6 + f) k) (by omega)).2) 0 rfl rfl 2 (by decide) (hk13) (fun _ h9 => h9) rfl dX12_isMade_101 ?_
      refine lv_iload hx hb dX12_isMade_104 (lv_at hl 7 rfl) ?_
      refine lv_iload hx hb dX12_isMade_106 (lv_at hl 8 rfl) ?_
      refine lv_iload hx hb dX12_isMade_108 (lv_at hl 9 rfl) ?_
      refine zcVi (As := [.int (nI (cn (g 16 (lkj g nL ((i * 6 + v) * 6 + f) k)) / 36)), .int (nI (cn (g 16 (lkj g nL ((i * 6 + v) * 6 + f) k)) / 6 % 6)), .int (nI (cn (g 16 (lkj g nL ((i * 6 + v) * 6 + f) k)) % 6)), .int (nI i2), .int (nI v2), .int (nI f2)]) (rest := []) ⟨hx, hb, hml, hown, hts⟩ (c_X12_isMade_1 l D ty A u C ma t0 mi g n1 n2 nL n4 n5 th rep bro hR (cn (g 16 (lkj g nL ((i * 6 + v) * 6 + f) k)) / 36) (cn (g 16 (lkj g nL ((i * 6 + v) * 6 + f) k)) / 6 % 6) (cn (g 16 (lkj g nL ((i * 6 + v) * 6 + f) k)) % 6) i2 v2 f2 (by omega) (by omega) (by omega) (by omega) (by omega) (by omega) (by omega)) (cwV 6 hts gX12_isMade_X12_isMade rfl rfl rfl (by decide +kernel) ⟨Nat.le_of_ble_eq_true rfl, Nat.le_of_ble_eq_true rfl⟩) mI_blind (mI_pre hM hK hMS hS) (va_recv hK (hM.Pa hR.o.1 rfl hR.o.2) (ci := 13) (q0 := 0) rfl rfl) rfl hl.1 rfl (Nat.le_of_ble_eq_true rfl) dX12_isMade_110 ⟨Nat.le_of_ble_eq_true rfl, Nat.le_of_ble_eq_true rfl⟩ (fun r_14 hr_14 => ?_)
      subst hr_14
      refine zeq (show bI _ = bI (mdN g nL ((i2 * 6 + v2) * 6 + f2) 1 (cn (g 16 (lkj g nL ((i * 6 + v) * 6 + f) k)))) from by rw [show ((cn (g 16 (lkj g nL ((i * 6 + v) * 6 + f) k))) / 36 * 6 + (cn (g 16 (lkj g nL ((i * 6 + v) * 6 + f) k))) / 6 % 6) * 6 + (cn (g 16 (lkj g nL ((i * 6 + v) * 6 + f) k))) % 6 = (cn (g 16 (lkj g nL ((i * 6 + v) * 6 + f) k))) by omega]) ?_
      refine lv_if_eq (tgt := 118) hx hb dX12_isMade_113 (by decide) (fun c_15 => ?_) (fun c_15 => ?_)
      · have c_15 := bI_f c_15
        refine lv_iinc (v := nI (k + 1)) (lv' := [(8, .int (nI (k + 1))), (9, .ref (ma 23 (lkj g nL ((i * 6 + v) * 6 + f) k))), (7, .ref (ma 21 ((i * 6 + v) * 6 + f))), (0, .ref (ma 0 0)), (1, .int (nI i)), (2, .int (nI v)), (3, .int (nI f)), (4, .int (nI i2)), (5, .int (nI v2)), (6, .int (nI f2))]) hx hb dX12_isMade_118 hl (k := 1) rfl (nI_add k 1) (by decide) rfl (fun ls hl => ?_)
        refine lv_goto (tgt := 36) hx hb dX12_isMade_121 (by decide) ?_
        refine ih_k () ls (by omega) ⟨fun k9 h9 => (Nat.lt_or_ge k9 k).elim (hq_k k9) (fun h8 => by rw [show k9 = k by omega, c_15, decide_eq_false (by omega)]; rfl), show lv_has ls 10 [(8, .int (nI (k + 1))), (7, .ref (ma 21 ((i * 6 + v) * 6 + f))), (0, .ref (ma 0 0)), (1, .int (nI i)), (2, .int (nI v)), (3, .int (nI f)), (4, .int (nI i2)), (5, .int (nI v2)), (6, .int (nI f2))] from ?_⟩
        exact lv_sub hl [0, 2, 3, 4, 5, 6, 7, 8, 9] rfl
      · have c_15 := bI_t c_15
        refine lv_iconst (v := nI 1) hx hb dX12_isMade_116 (by decide) ?_
        exact W.zret (v := nI 1) hx hb hr rfl (fun t ht hW => ⟨_, rfl, bI_n1 (mdN_t hkl9 (by rw [c_15, Bool.or_true])), ht⟩) (fun _ h => nomatch h) dX12_isMade_117
    · have c_13 := zn_neF (a := (cn (g 16 (lkj g nL ((i * 6 + v) * 6 + f) k)) / 36)) (b := i2) (by omega) (by omega) c_13
      refine lv_aload hx hb dX12_isMade_68 (lv_at hl 0 rfl) ?_
      refine va_get hx hb hts hinX8 hown hK (hM.Pa (hR.k23 (j := lkj g nL ((i * 6 + v) * 6 + f) k) (by omega)).1 rfl (hR.k23 (j := lkj g nL ((i * 6 + v) * 6 + f) k) (by omega)).2) 0 rfl rfl 1 (by decide) (hk12) (fun _ h9 => h9) rfl dX12_isMade_70 ?_
      refine lv_iload hx hb dX12_isMade_73 (lv_at hl 8 rfl) ?_
      refine lv_icmp_ne (tgt := 88) hx hb dX12_isMade_75 (by decide) (fun c_16 => ?_) (fun c_16 => ?_)
      · have c_16 := zn_neT (a := (cn (g 16 (lkj g nL ((i * 6 + v) * 6 + f) k)) / 6 % 6)) (b := v2) (by omega) (by omega) c_16
        refine lv_aload_n hx hb dX12_isMade_88 rfl (lv_at hl 3 rfl) ?_
        refine lv_aload hx hb dX12_isMade_89 (lv_at hl 0 rfl) ?_
        refine va_get hx hb hts hinX8 hown hK (hM.Pa (hR.k23 (j := lkj g nL ((i * 6 + v) * 6 + f) k) (by omega)).1 rfl (hR.k23 (j := lkj g nL ((i * 6 + v) * 6 + f) k) (by omega)).2) 0 rfl rfl 0 (by decide) (hk11) (fun _ h9 => h9) rfl dX12_isMade_91 ?_
        refine lv_aload hx hb dX12_isMade_94 (lv_at hl 0 rfl) ?_
        refine va_get hx hb hts hinX8 hown hK (hM.Pa (hR.k23 (j := lkj g nL ((i * 6 + v) * 6 + f) k) (by omega)).1 rfl (hR.k23 (j := lkj g nL ((i * 6 + v) * 6 + f) k) (by omega)).2) 0 rfl rfl 1 (by decide) (hk12) (fun _ h9 => h9) rfl dX12_isMade_96 ?_
        refine lv_aload hx hb dX12_isMade_99 (lv_at hl 0 rfl) ?_
        refine va_get hx hb hts hinX8 hown hK (hM.Pa (hR.k23 (j := lkj g nL ((i * 6 + v) * 6 + f) k) (by omega)).1 rfl (hR.k23 (j := lkj g nL ((i * 6 + v) * 6 + f) k) (by omega)).2) 0 rfl rfl 2 (by decide) (hk13) (fun _ h9 => h9) rfl dX12_isMade_101 ?_
        refine lv_iload hx hb dX12_isMade_104 (lv_at hl 7 rfl) ?_
        refine lv_iload hx hb dX12_isMade_106 (lv_at hl 8 rfl) ?_
        refine lv_iload hx hb dX12_isMade_108 (lv_at hl 9 rfl) ?_
        refine zcVi (As := [.int (nI (cn (g 16 (lkj g nL ((i * 6 + v) * 6 + f) k)) / 36)), .int (nI (cn (g 16 (lkj g nL ((i * 6 + v) * 6 + f) k)) / 6 % 6)), .int (nI (cn (g 16 (lkj g nL ((i * 6 + v) * 6 + f) k)) % 6)), .int (nI i2), .int (nI v2), .int (nI f2)]) (rest := []) ⟨hx, hb, hml, hown, hts⟩ (c_X12_isMade_1 l D ty A u C ma t0 mi g n1 n2 nL n4 n5 th rep bro hR (cn (g 16 (lkj g nL ((i * 6 + v) * 6 + f) k)) / 36) (cn (g 16 (lkj g nL ((i * 6 + v) * 6 + f) k)) / 6 % 6) (cn (g 16 (lkj g nL ((i * 6 + v) * 6 + f) k)) % 6) i2 v2 f2 (by omega) (by omega) (by omega) (by omega) (by omega) (by omega) (by omega)) (cwV 6 hts gX12_isMade_X12_isMade rfl rfl rfl (by decide +kernel) ⟨Nat.le_of_ble_eq_true rfl, Nat.le_of_ble_eq_true rfl⟩) mI_blind (mI_pre hM hK hMS hS) (va_recv hK (hM.Pa hR.o.1 rfl hR.o.2) (ci := 13) (q0 := 0) rfl rfl) rfl hl.1 rfl (Nat.le_of_ble_eq_true rfl) dX12_isMade_110 ⟨Nat.le_of_ble_eq_true rfl, Nat.le_of_ble_eq_true rfl⟩ (fun r_17 hr_17 => ?_)
        subst hr_17
        refine zeq (show bI _ = bI (mdN g nL ((i2 * 6 + v2) * 6 + f2) 1 (cn (g 16 (lkj g nL ((i * 6 + v) * 6 + f) k)))) from by rw [show ((cn (g 16 (lkj g nL ((i * 6 + v) * 6 + f) k))) / 36 * 6 + (cn (g 16 (lkj g nL ((i * 6 + v) * 6 + f) k))) / 6 % 6) * 6 + (cn (g 16 (lkj g nL ((i * 6 + v) * 6 + f) k))) % 6 = (cn (g 16 (lkj g nL ((i * 6 + v) * 6 + f) k))) by omega]) ?_
        refine lv_if_eq (tgt := 118) hx hb dX12_isMade_113 (by decide) (fun c_18 => ?_) (fun c_18 => ?_)
        · have c_18 := bI_f c_18
          refine lv_iinc (v := nI (k + 1)) (lv' := [(8, .int (nI (k + 1))), (9, .ref (ma 23 (lkj g nL ((i * 6 + v) * 6 + f) k))), (7, .ref (ma 21 ((i * 6 + v) * 6 + f))), (0, .ref (ma 0 0)), (1, .int (nI i)), (2, .int (nI v)), (3, .int (nI f)), (4, .int (nI i2)), (5, .int (nI v2)), (6, .int (nI f2))]) hx hb dX12_isMade_118 hl (k := 1) rfl (nI_add k 1) (by decide) rfl (fun ls hl => ?_)
          refine lv_goto (tgt := 36) hx hb dX12_isMade_121 (by decide) ?_
          refine ih_k () ls (by omega) ⟨fun k9 h9 => (Nat.lt_or_ge k9 k).elim (hq_k k9) (fun h8 => by rw [show k9 = k by omega, c_18, decide_eq_false (by omega)]; rfl), show lv_has ls 10 [(8, .int (nI (k + 1))), (7, .ref (ma 21 ((i * 6 + v) * 6 + f))), (0, .ref (ma 0 0)), (1, .int (nI i)), (2, .int (nI v)), (3, .int (nI f)), (4, .int (nI i2)), (5, .int (nI v2)), (6, .int (nI f2))] from ?_⟩
          exact lv_sub hl [0, 2, 3, 4, 5, 6, 7, 8, 9] rfl
        · have c_18 := bI_t c_18
          refine lv_iconst (v := nI 1) hx hb dX12_isMade_116 (by decide) ?_
          exact W.zret (v := nI 1) hx hb hr rfl (fun t ht hW => ⟨_, rfl, bI_n1 (mdN_t hkl9 (by rw [c_18, Bool.or_true])), ht⟩) (fun _ h => nomatch h) dX12_isMade_117
      · have c_16 := zn_neF (a := (cn (g 16 (lkj g nL ((i * 6 + v) * 6 + f) k)) / 6 % 6)) (b := v2) (by omega) (by omega) c_16
        refine lv_aload hx hb dX12_isMade_78 (lv_at hl 0 rfl) ?_
        refine va_get hx hb hts hinX8 hown hK (hM.Pa (hR.k23 (j := lkj g nL ((i * 6 + v) * 6 + f) k) (by omega)).1 rfl (hR.k23 (j := lkj g nL ((i * 6 + v) * 6 + f) k) (by omega)).2) 0 rfl rfl 2 (by decide) (hk13) (fun _ h9 => h9) rfl dX12_isMade_80 ?_
        refine lv_iload hx hb dX12_isMade_83 (lv_at hl 9 rfl) ?_
        refine lv_icmp_eq (tgt := 116) hx hb dX12_isMade_85 (by decide) (fun c_19 => ?_) (fun c_19 => ?_)
        · have c_19 := zn_eqT (a := (cn (g 16 (lkj g nL ((i * 6 + v) * 6 + f) k)) % 6)) (b := f2) (by omega) (by omega) c_19
          refine lv_iconst (v := nI 1) hx hb dX12_isMade_116 (by decide) ?_
          exact W.zret (v := nI 1) hx hb hr rfl (fun t ht hW => ⟨_, rfl, bI_n1 (mdN_t hkl9 (by rw [decide_eq_true (by omega), Bool.true_or])), ht⟩) (fun _ h => nomatch h) dX12_isMade_117
        · have c_19 := zn_eqF (a := (cn (g 16 (lkj g nL ((i * 6 + v) * 6 + f) k)) % 6)) (b := f2) (by omega) (by omega) c_19
          refine lv_aload_n hx hb dX12_isMade_88 rfl (lv_at hl 3 rfl) ?_
          refine lv_aload hx hb dX12_isMade_89 (lv_at hl 0 rfl) ?_
          refine va_get hx hb hts hinX8 hown hK (hM.Pa (hR.k23 (j := lkj g nL ((i * 6 + v) * 6 + f) k) (by omega)).1 rfl (hR.k23 (j := lkj g nL ((i * 6 + v) * 6 + f) k) (by omega)).2) 0 rfl rfl 0 (by decide) (hk11) (fun _ h9 => h9) rfl dX12_isMade_91 ?_
          refine lv_aload hx hb dX12_isMade_94 (lv_at hl 0 rfl) ?_
          refine va_get hx hb hts hinX8 hown hK (hM.Pa (hR.k23 (j := lkj g nL ((i * 6 + v) * 6 + f) k) (by omega)).1 rfl (hR.k23 (j := lkj g nL ((i * 6 + v) * 6 + f) k) (by omega)).2) 0 rfl rfl 1 (by decide) (hk12) (fun _ h9 => h9) rfl dX12_isMade_96 ?_
          refine lv_aload hx hb dX12_isMade_99 (lv_at hl 0 rfl) ?_
          refine va_get hx hb hts hinX8 hown hK (hM.Pa (hR.k23 (j := lkj g nL ((i * 6 + v) * 6 + f) k) (by omega)).1 rfl (hR.k23 (j := lkj g nL ((i * 6 + v) * 6 + f) k) (by omega)).2) 0 rfl rfl 2 (by decide) (hk13) (fun _ h9 => h9) rfl dX12_isMade_101 ?_
          refine lv_iload hx hb dX12_isMade_104 (lv_at hl 7 rfl) ?_
          refine lv_iload hx hb dX12_isMade_106 (lv_at hl 8 rfl) ?_
          refine lv_iload hx hb dX12_isMade_108 (lv_at hl 9 rfl) ?_
          refine zcVi (As := [.int (nI (cn (g 16 (lkj g nL ((i * 6 + v) * 6 + f) k)) / 36)), .int (nI (cn (g 16 (lkj g nL ((i * 6 + v) * 6 + f) k)) / 6 % 6)), .int (nI (cn (g 16 (lkj g nL ((i * 6 + v) * 6 + f) k)) % 6)), .int (nI i2), .int (nI v2), .int (nI f2)]) (rest := []) ⟨hx, hb, hml, hown, hts⟩ (c_X12_isMade_1 l D ty A u C ma t0 mi g n1 n2 nL n4 n5 th rep bro hR (cn (g 16 (lkj g nL ((i * 6 + v) * 6 + f) k)) / 36) (cn (g 16 (lkj g nL ((i * 6 + v) * 6 + f) k)) / 6 % 6) (cn (g 16 (lkj g nL ((i * 6 + v) * 6 + f) k)) % 6) i2 v2 f2 (by omega) (by omega) (by omega) (by omega) (by omega) (by omega) (by omega)) (cwV 6 hts gX12_isMade_X12_isMade rfl rfl rfl (by decide +kernel) ⟨Nat.le_of_ble_eq_true rfl, Nat.le_of_ble_eq_true rfl⟩) mI_blind (mI_pre hM hK hMS hS) (va_recv hK (hM.Pa hR.o.1 rfl hR.o.2) (ci := 13) (q0 := 0) rfl rfl) rfl hl.1 rfl (Nat.le_of_ble_eq_true rfl) dX12_isMade_110 ⟨Nat.le_of_ble_eq_true rfl, Nat.le_of_ble_eq_true rfl⟩ (fun r_20 hr_20 => ?_)
          subst hr_20
          refine zeq (show bI _ = bI (mdN g nL ((i2 * 6 + v2) * 6 + f2) 1 (cn (g 16 (lkj g nL ((i * 6 + v) * 6 + f) k)))) from by rw [show ((cn (g 16 (lkj g nL ((i * 6 + v) * 6 + f) k))) / 36 * 6 + (cn (g 16 (lkj g nL ((i * 6 + v) * 6 + f) k))) / 6 % 6) * 6 + (cn (g 16 (lkj g nL ((i * 6 + v) * 6 + f) k))) % 6 = (cn (g 16 (lkj g nL ((i * 6 + v) * 6 + f) k))) by omega]) ?_
          refine lv_if_eq (tgt := 118) hx hb dX12_isMade_113 (by decide) (fun c_21 => ?_) (fun c_21 => ?_)
          · have c_21 := bI_f c_21
            refine lv_iinc (v := nI (k + 1)) (lv' := [(8, .int (nI (k + 1))), (9, .ref (ma 23 (lkj g nL ((i * 6 + v) * 6 + f) k))), (7, .ref (ma 21 ((i * 6 + v) * 6 + f))), (0, .ref (ma 0 0)), (1, .int (nI i)), (2, .int (nI v)), (3, .int (nI f)), (4, .int (nI i2)), (5, .int (nI v2)), (6, .int (nI f2))]) hx hb dX12_isMade_118 hl (k := 1) rfl (nI_add k 1) (by decide) rfl (fun ls hl => ?_)
            refine lv_goto (tgt := 36) hx hb dX12_isMade_121 (by decide) ?_
            refine ih_k () ls (by omega) ⟨fun k9 h9 => (Nat.lt_or_ge k9 k).elim (hq_k k9) (fun h8 => by rw [show k9 = k by omega, c_21, decide_eq_false (by omega)]; rfl), show lv_has ls 10 [(8, .int (nI (k + 1))), (7, .ref (ma 21 ((i * 6 + v) * 6 + f))), (0, .ref (ma 0 0)), (1, .int (nI i)), (2, .int (nI v)), (3, .int (nI f)), (4, .int (nI i2)), (5, .int (nI v2)), (6, .int (nI f2))] from ?_⟩
            exact lv_sub hl [0, 2, 3, 4, 5, 6, 7, 8, 9] rfl
          · have c_21 := bI_t c_21
            refine lv_iconst (v := nI 1) hx hb dX12_isMade_116 (by decide) ?_
            exact W.zret (v := nI 1) hx hb hr rfl (fun t ht hW => ⟨_, rfl, bI_n1 (mdN_t hkl9 (by rw [c_21, Bool.or_true])), ht⟩) (fun _ h => nomatch h) dX12_isMade_117
set_option maxHeartbeats 400000 in
set_option maxRecDepth 100000 in
theorem c_X12_isMade_3 (l : Launch) (D : va_G) (ty : Nat → ClassId) (A : Nat → Prop) (u : Nat → Nat → Prop) (C : Nat → Nat → va_E) (ma : Nat → Nat → Nat) (t0 mi : Nat) (g : Nat → Nat → Int32) (n1 n2 nL n4 n5 : Nat) (th : Int32) (rep bro : Nat → Nat → Int32) (hR : mR ty t0 g n1 n2 nL n4 n5 th rep bro u C ma) (i v f i2 v2 f2 : Nat) (hd : i < 3) (hi : i < n1) (hv : v < nV g i) (hf : f < 6) (hi2 : i2 < 8) (hv2 : v2 < 6) (hf2 : f2 < 6) : Met l yX12_isMade wsX12_isMade ({ frames := 5, cells := 0, slots := 0, locals := 122 }) (va_Pc [.ref (ma 0 0), .int (nI i), .int (nI v), .int (nI f), .int (nI i2), .int (nI v2), .int (nI f2)] (mI D ty A u C ma t0 mi)) (vp_Si (fun v_ => v_ = bI (mdN g nL ((i2 * 6 + v2) * 6 + f2) 3 ((i * 6 + v) * 6 + f)))) 0 0 (fun _ => False) := by
  refine zMet (cc := cX12_isMade) (maxL := 10) (ret := (some .boolean)) (by decide) rfl (Nat.le_of_ble_eq_true rfl) ?_
  intro p e s m below meth c hx hb hr hts hown hlocks hml hB ls hl
  obtain ⟨hM, hK, hMS⟩ := hB
  have hS : va_S A s.heap s.heap [] := va_S.rf
  have hbn := hR.I.b1
  have hbs := hR.I.b2
  have hbl := hR.I.bL
  have hbc := hR.I.b4
  have hbr := hR.I.b5
  have hv7 := (hR.I.v7 hi).2
  have hlen := hR.I.len (show (i * 6 + v) * 6 + f < 288 by omega)
  have hl : lv_has ls 10 [(0, .ref (ma 0 0)), (1, .int (nI i)), (2, .int (nI v)), (3, .int (nI f)), (4, .int (nI i2)), (5, .int (nI v2)), (6, .int (nI f2))] := hl
  have hinX12 : ∀ w ∈ wsX120, w ∈ wsX12_isMade := by decide +kernel
  have hk1 := hts (.fieldLink RX12 10 "DatamarketDeskModel" "sets" "Ljava/util/ArrayList;") (by decide +kernel)
  have hk2 := hts (.classLink RX12 49 "DatamarketDeskModel$DataSet") (by decide +kernel)
  have hinX7 : ∀ w ∈ wsX70, w ∈ wsX12_isMade := by decide +kernel
  have hk4 := hts (.fieldLink RX12 69 "DatamarketDeskModel$DataSet" "versions" "Ljava/util/ArrayList;") (by decide +kernel)
  have hk5 := hts (.classLink RX12 72 "DatamarketDeskModel$Version") (by decide +kernel)
  have hinX11 : ∀ w ∈ wsX110, w ∈ wsX12_isMade := by decide +kernel
  have hk7 := hts (.fieldLink RX12 87 "DatamarketDeskModel$Version" "links" "Ljava/util/ArrayList;") (by decide +kernel)
  have hk8 := hts (.classLink RX12 7 "java/util/ArrayList") (by decide +kernel)
  have hk9 := hts (.classLink RX12 90 "DatamarketDeskModel$Link") (by decide +kernel)
  have hinX8 : ∀ w ∈ wsX80, w ∈ wsX12_isMade := by decide +kernel
  have hk11 := hts (.fieldLink RX12 92 "DatamarketDeskModel$Link" "set" "I") (by decide +kernel)
  have hk12 := hts (.fieldLink RX12 95 "DatamarketDeskModel$Link" "version" "I") (by decide +kernel)
  have hk13 := hts (.fieldLink RX12 98 "DatamarketDeskModel$Link" "field" "I") (by decide +kernel)
  refine lv_aload_n hx hb dX12_isMade_0 rfl (lv_at hl 0 rfl) ?_
  refine va_get hx hb hts hinX12 hown hK (hM.Pa hR.o.1 rfl hR.o.2) 0 rfl rfl 1 (by decide) (hk1) (fun _ h9 => h9) rfl dX12_isMade_1 ?_
  refine lv_iload_n hx hb dX12_isMade_4 rfl (lv_at hl 1 rfl) ?_
  obtain ⟨huz_1, hnz_1, mz_1, bz_1, hCz_1⟩ := isL.hd hR.l1
  refine zcVr (x := .ref (ma 9 i)) (As := [.int (nI i)]) (rest := []) ⟨hx, hb, hml, hown, hts⟩ (c_get l D ty A u C ma t0 mi 1 0 n1 (ma 9) hR.l1 i (by omega)) (cwV 1 hts gX12_isMade_Jx4a65c_get_915e3 rfl rfl rfl (by decide +kernel) ⟨Nat.le_of_ble_eq_true rfl, Nat.le_of_ble_eq_true rfl⟩) mI_blind (mI_pre hM hK hMS hS) (va_recv hK (hM.Pa huz_1 rfl hCz_1) (ci := 0) (q0 := 0) rfl rfl) rfl hl.1 rfl (Nat.le_of_ble_eq_true rfl) dX12_isMade_5 ⟨Nat.le_of_ble_eq_true rfl, Nat.le_of_ble_eq_true rfl⟩ ?_
  refine va_castS hx hb hown (hk2) ((hK.1 8 _ rfl).2) (va_recv hK (hM.Pa (hR.s9 (i := i) (by omega)).1 rfl (hR.s9 (i := i) (by omega)).2) (ci := 8) (q0 := 0) rfl rfl) dX12_isMade_8 ?_
  refine va_get hx hb hts hinX7 hown hK (hM.Pa (hR.s9 (i := i) (by omega)).1 rfl (hR.s9 (i := i) (by omega)).2) 0 rfl rfl 3 (by decide) (hk4) (fun _ h9 => h9) rfl dX12_isMade_11 ?_
  refine lv_iload_n hx hb dX12_isMade_14 rfl (lv_at hl 2 rfl) ?_
  obtain ⟨huz_3, hnz_3, mz_3, bz_3, hCz_3⟩ := isL.hd (hR.s12 (i := i) (by omega))
  refine zcVr (x := .ref (ma 15 (i * 6 + v))) (As := [.int (nI v)]) (rest := []) ⟨hx, hb, hml, hown, hts⟩ (c_get l D ty A u C ma t0 mi 12 i (nV g i) (fun v => ma 15 (i * 6 + v)) (hR.s12 (i := i) (by omega)) v (by omega)) (cwV 1 hts gX12_isMade_Jx4a65c_get_915e3 rfl rfl rfl (by decide +kernel) ⟨Nat.le_of_ble_eq_true rfl, Nat.le_of_ble_eq_true rfl⟩) mI_blind (mI_pre hM hK hMS hS) (va_recv hK (hM.Pa huz_3 rfl hCz_3) (ci := 0) (q0 := 0) rfl rfl) rfl hl.1 rfl (Nat.le_of_ble_eq_true rfl) dX12_isMade_15 ⟨Nat.le_of_ble_eq_true rfl, Nat.le_of_ble_eq_true rfl⟩ ?_
  refine va_castS hx hb hown (hk5) ((hK.1 12 _ rfl).2) (va_recv hK (hM.Pa (hR.v15 (i := i) (v := v) (by omega) (by omega)).1 rfl (hR.v15 (i := i) (v := v) (by omega) (by omega)).2) (ci := 12) (q0 := 0) rfl rfl) dX12_isMade_18 ?_
  refine va_get hx hb hts hinX11 hown hK (hM.Pa (hR.v15 (i := i) (v := v) (by omega) (by omega)).1 rfl (hR.v15 (i := i) (v := v) (by omega) (by omega)).2) 0 rfl rfl 4 (by decide) (hk7) (fun _ h9 => h9) rfl dX12_isMade_21 ?_
  refine lv_iload_n hx hb dX12_isMade_24 rfl (lv_at hl 3 rfl) ?_
  obtain ⟨huz_5, hnz_5, mz_5, bz_5, hCz_5⟩ := isL.hd (hR.v19 (i := i) (v := v) (by omega) (by omega))
  refine zcVr (x := .ref (ma 21 ((i * 6 + v) * 6 + f))) (As := [.int (nI f)]) (rest := []) ⟨hx, hb, hml, hown, hts⟩ (c_get l D ty A u C ma t0 mi 19 (i * 6 + v) 6 (fun f => ma 21 ((i * 6 + v) * 6 + f)) (hR.v19 (i := i) (v := v) (by omega) (by omega)) f (by omega)) (cwV 1 hts gX12_isMade_Jx4a65c_get_915e3 rfl rfl rfl (by decide +kernel) ⟨Nat.le_of_ble_eq_true rfl, Nat.le_of_ble_eq_true rfl⟩) mI_blind (mI_pre hM hK hMS hS) (va_recv hK (hM.Pa huz_5 rfl hCz_5) (ci := 0) (q0 := 0) rfl rfl) rfl hl.1 rfl (Nat.le_of_ble_eq_true rfl) dX12_isMade_25 ⟨Nat.le_of_ble_eq_true rfl, Nat.le_of_ble_eq_true rfl⟩ ?_
  obtain ⟨huz_7, hnz_7, mz_7, bz_7, hCz_7⟩ := isL.hd (hR.v21 (i := i) (v := v) (f := f) (by omega) (by omega) (by omega))
  refine va_castS hx hb hown (hk8) ((hK.1 0 _ rfl).2) (va_recv hK (hM.Pa huz_7 rfl hCz_7) (ci := 0) (q0 := 0) rfl rfl) dX12_isMade_28 ?_
  refine lv_astore (lv' := [(7, .ref (ma 21 ((i * 6 + v) * 6 + f))), (0, .ref (ma 0 0)), (1, .int (nI i)), (2, .int (nI v)), (3, .int (nI f)), (4, .int (nI i2)), (5, .int (nI v2)), (6, .int (nI f2))]) hx hb dX12_isMade_31 hl (by decide) rfl (fun ls hl => ?_)
  refine lv_iconst (v := nI 0) hx hb dX12_isMade_33 (by decide) ?_
  refine lv_istore (lv' := [(8, .int (nI 0)), (7, .ref (ma 21 ((i * 6 + v) * 6 + f))), (0, .ref (ma 0 0)), (1, .int (nI i)), (2, .int (nI v)), (3, .int (nI f)), (4, .int (nI i2)), (5, .int (nI v2)), (6, .int (nI f2))]) hx hb dX12_isMade_34 hl (by decide) rfl (fun ls hl => ?_)
  refine zloopP (τ := Unit) (fun k _ ls => (∀ k9, k9 < k → (decide (cn (g 16 (lkj g nL ((i * 6 + v) * 6 + f) k9)) = ((i2 * 6 + v2) * 6 + f2)) || mdN g nL ((i2 * 6 + v2) * 6 + f2) 2 (cn (g 16 (lkj g nL ((i * 6 + v) * 6 + f) k9)))) = false) ∧ lv_has ls 10 [(8, .int (nI k)), (7, .ref (ma 21 ((i * 6 + v) * 6 + f))), (0, .ref (ma 0 0)), (1, .int (nI i)), (2, .int (nI v)), (3, .int (nI f)), (4, .int (nI i2)), (5, .int (nI v2)), (6, .int (nI f2))]) ((lkl g nL ((i * 6 + v) * 6 + f)).length) ?_ 0 () ls (Nat.zero_le _) ⟨(fun _ h => absurd h (Nat.not_lt_zero _)), lv_sub hl [0, 1, 2, 3, 4, 5, 6, 7, 8] rfl⟩
  intro k _ ls hi_k hinv_k ih_k
  obtain ⟨hq_k, hl⟩ := hinv_k
  have hl : lv_has ls 10 [(8, .int (nI k)), (7, .ref (ma 21 ((i * 6 + v) * 6 + f))), (0, .ref (ma 0 0)), (1, .int (nI i)), (2, .int (nI v)), (3, .int (nI f)), (4, .int (nI i2)), (5, .int (nI v2)), (6, .int (nI f2))] := hl
  refine lv_iload hx hb dX12_isMade_36 (lv_at hl 0 rfl) ?_
  refine lv_aload hx hb dX12_isMade_38 (lv_at hl 1 rfl) ?_
  obtain ⟨huz_8, hnz_8, mz_8, bz_8, hCz_8⟩ := isL.hd (hR.v21 (i := i) (v := v) (f := f) (by omega) (by omega) (by omega))
  refine zcVi (As := []) (rest := [.int (nI k)]) ⟨hx, hb, hml, hown, hts⟩ (c_size l D ty A u C ma t0 mi 21 ((i * 6 + v) * 6 + f) ((lkl g nL ((i * 6 + v) * 6 + f)).length) (fun k => ma 23 (lkj g nL ((i * 6 + v) * 6 + f) k)) (hR.v21 (i := i) (v := v) (f := f) (by omega) (by omega) (by omega))) (cwV 0 hts gX12_isMade_Jx4a65c_size_8abf5 rfl rfl rfl (by decide +kernel) ⟨Nat.le_of_ble_eq_true rfl, Nat.le_of_ble_eq_true rfl⟩) mI_blind (mI_pre hM hK hMS hS) (va_recv hK (hM.Pa huz_8 rfl hCz_8) (ci := 0) (q0 := 0) rfl rfl) rfl hl.1 rfl (Nat.le_of_ble_eq_true rfl) dX12_isMade_40 ⟨Nat.le_of_ble_eq_true rfl, Nat.le_of_ble_eq_true rfl⟩ (fun r_9 hr_9 => ?_)
  subst hr_9
  refine lv_icmp_ge (tgt := 124) hx hb dX12_isMade_43 (by decide) (fun c_10 => ?_) (fun c_10 => ?_)
  · have c_10 := zn_geT (a := k) (b := ((lkl g nL ((i * 6 + v) * 6 + f)).length)) (by omega) (by omega) c_10
    obtain e9 : (lkl g nL ((i * 6 + v) * 6 + f)).length = k := by omega
    refine lv_iconst (v := nI 0) hx hb dX12_isMade_124 (by decide) ?_
    exact W.zret (v := nI 0) hx hb hr rfl (fun t ht hW => ⟨_, rfl, bI_n0 (mdN_f (fun k9 h9 => hq_k k9 (by omega))), ht⟩) (fun _ h => nomatch h) dX12_isMade_125
  · have c_10 := zn_geF (a := k) (b := ((lkl g nL ((i * 6 + v) * 6 + f)).length)) (by omega) (by omega) c_10
    have hkl9 : k < (lkl g nL ((i * 6 + v) * 6 + f)).length := c_10
    have hj := lkj_mem hkl9
    have hj1 := hj.1
    have hp15 : cn (g 15 (lkj g nL ((i * 6 + v) * 6 + f) k)) = (i * 6 + v) * 6 + f := by rw [hj.2]; exact cn_nI (by omega)
    have hlp := hR.I.lkp hj1
    have hlb := (hR.I.lk hj1).2.2
    rw [hp15] at hlp
    refine lv_aload hx hb dX12_isMade_46 (lv_at hl 1 rfl) ?_
    refine lv_iload hx hb dX12_isMade_48 (lv_at hl 0 rfl) ?_
    obtain ⟨huz_11, hnz_11, mz_11, bz_11, hCz_11⟩ := isL.hd (hR.v21 (i := i) (v := v) (f := f) (by omega) (by omega) (by omega))
    refine zcVr (x := .ref (ma 23 (lkj g nL ((i * 6 + v) * 6 + f) k))) (As := [.int (nI k)]) (rest := []) ⟨hx, hb, hml, hown, hts⟩ (c_get l D ty A u C ma t0 mi 21 ((i * 6 + v) * 6 + f) ((lkl g nL ((i * 6 + v) * 6 + f)).length) (fun k => ma 23 (lkj g nL ((i * 6 + v) * 6 + f) k)) (hR.v21 (i := i) (v := v) (f := f) (by omega) (by omega) (by omega)) k (by omega)) (cwV 1 hts gX12_isMade_Jx4a65c_get_915e3 rfl rfl rfl (by decide +kernel) ⟨Nat.le_of_ble_eq_true rfl, Nat.le_of_ble_eq_true rfl⟩) mI_blind (mI_pre hM hK hMS hS) (va_recv hK (hM.Pa huz_11 rfl hCz_11) (ci := 0) (q0 := 0) rfl rfl) rfl hl.1 rfl (Nat.le_of_ble_eq_true rfl) dX12_isMade_50 ⟨Nat.le_of_ble_eq_true rfl, Nat.le_of_ble_eq_true rfl⟩ ?_
    refine va_castS hx hb hown (hk9) ((hK.1 9 _ rfl).2) (va_recv hK (hM.Pa (hR.k23 (j := lkj g nL ((i * 6 + v) * 6 + f) k) (by omega)).1 rfl (hR.k23 (j := lkj g nL ((i * 6 + v) * 6 + f) k) (by omega)).2) (ci := 9) (q0 := 0) rfl rfl) dX12_isMade_53 ?_
    refine lv_astore (lv' := [(9, .ref (ma 23 (lkj g nL ((i * 6 + v) * 6 + f) k))), (8, .int (nI k)), (7, .ref (ma 21 ((i * 6 + v) * 6 + f))), (0, .ref (ma 0 0)), (1, .int (nI i)), (2, .int (nI v)), (3, .int (nI f)), (4, .int (nI i2)), (5, .int (nI v2)), (6, .int (nI f2))]) hx hb dX12_isMade_56 hl (by decide) rfl (fun ls hl => ?_)
    refine lv_aload hx hb dX12_isMade_58 (lv_at hl 0 rfl) ?_
    refine va_get hx hb hts hinX8 hown hK (hM.Pa (hR.k23 (j := lkj g nL ((i * 6 + v) * 6 + f) k) (by omega)).1 rfl (hR.k23 (j := lkj g nL ((i * 6 + v) * 6 + f) k) (by omega)).2) 0 rfl rfl 0 (by decide) (hk11) (fun _ h9 => h9) rfl dX12_isMade_60 ?_
    refine lv_iload hx hb dX12_isMade_63 (lv_at hl 7 rfl) ?_
    refine lv_icmp_ne (tgt := 88) hx hb dX12_isMade_65 (by decide) (fun c_13 => ?_) (fun c_13 => ?_)
    · have c_13 := zn_neT (a := (cn (g 16 (lkj g nL ((i * 6 + v) * 6 + f) k)) / 36)) (b := i2) (by omega) (by omega) c_13
      refine lv_aload_n hx hb dX12_isMade_88 rfl (lv_at hl 3 rfl) ?_
      refine lv_aload hx hb dX12_isMade_89 (lv_at hl 0 rfl) ?_
      refine va_get hx hb hts hinX8 hown hK (hM.Pa (hR.k23 (j := lkj g nL ((i * 6 + v) * 6 + f) k) (by omega)).1 rfl (hR.k23 (j := lkj g nL ((i * 6 + v) * 6 + f) k) (by omega)).2) 0 rfl rfl 0 (by decide) (hk11) (fun _ h9 => h9) rfl dX12_isMade_91 ?_
      refine lv_aload hx hb dX12_isMade_94 (lv_at hl 0 rfl) ?_
      refine va_get hx hb hts hinX8 hown hK (hM.Pa (hR.k23 (j := lkj g nL ((i * 6 + v) * 6 + f) k) (by omega)).1 rfl (hR.k23 (j := lkj g nL ((i * 6 + v) * 6 + f) k) (by omega)).2) 0 rfl rfl 1 (by decide) (hk12) (fun _ h9 => h9) rfl dX12_isMade_96 ?_
      refine lv_aload hx hb dX12_isMade_99 (lv_at hl 0 rfl) ?_
      refine va_get hx hb hts hinX8 hown hK (hM.Pa (hR.k23 (j := lkj g nL ((i * 6 + v) * 6 + f) k) (by omega)).1 rfl (hR.k23 (j := lkj g nL ((i * 6 + v) * 6 + f) k) (by omega)).2) 0 rfl rfl 2 (by decide) (hk13) (fun _ h9 => h9) rfl dX12_isMade_101 ?_
      refine lv_iload hx hb dX12_isMade_104 (lv_at hl 7 rfl) ?_
      refine lv_iload hx hb dX12_isMade_106 (lv_at hl 8 rfl) ?_
      refine lv_iload hx hb dX12_isMade_108 (lv_at hl 9 rfl) ?_
      refine zcVi (As := [.int (nI (cn (g 16 (lkj g nL ((i * 6 + v) * 6 + f) k)) / 36)), .int (nI (cn (g 16 (lkj g nL ((i * 6 + v) * 6 + f) k)) / 6 % 6)), .int (nI (cn (g 16 (lkj g nL ((i * 6 + v) * 6 + f) k)) % 6)), .int (nI i2), .int (nI v2), .int (nI f2)]) (rest := []) ⟨hx, hb, hml, hown, hts⟩ (c_X12_isMade_2 l D ty A u C ma t0 mi g n1 n2 nL n4 n5 th rep bro hR (cn (g 16 (lkj g nL ((i * 6 + v) * 6 + f) k)) / 36) (cn (g 16 (lkj g nL ((i * 6 + v) * 6 + f) k)) / 6 % 6) (cn (g 16 (lkj g nL ((i * 6 + v) * 6 + f) k)) % 6) i2 v2 f2 (by omega) (by omega) (by omega) (by omega) (by omega) (by omega) (by omega)) (cwV 6 hts gX12_isMade_X12_isMade rfl rfl rfl (by decide +kernel) ⟨Nat.le_of_ble_eq_true rfl, Nat.le_of_ble_eq_true rfl⟩) mI_blind (mI_pre hM hK hMS hS) (va_recv hK (hM.Pa hR.o.1 rfl hR.o.2) (ci := 13) (q0 := 0) rfl rfl) rfl hl.1 rfl (Nat.le_of_ble_eq_true rfl) dX12_isMade_110 ⟨Nat.le_of_ble_eq_true rfl, Nat.le_of_ble_eq_true rfl⟩ (fun r_14 hr_14 => ?_)
      subst hr_14
      refine zeq (show bI _ = bI (mdN g nL ((i2 * 6 + v2) * 6 + f2) 2 (cn (g 16 (lkj g nL ((i * 6 + v) * 6 + f) k)))) from by rw [show ((cn (g 16 (lkj g nL ((i * 6 + v) * 6 + f) k))) / 36 * 6 + (cn (g 16 (lkj g nL ((i * 6 + v) * 6 + f) k))) / 6 % 6) * 6 + (cn (g 16 (lkj g nL ((i * 6 + v) * 6 + f) k))) % 6 = (cn (g 16 (lkj g nL ((i * 6 + v) * 6 + f) k))) by omega]) ?_
      refine lv_if_eq (tgt := 118) hx hb dX12_isMade_113 (by decide) (fun c_15 => ?_) (fun c_15 => ?_)
      · have c_15 := bI_f c_15
        refine lv_iinc (v := nI (k + 1)) (lv' := [(8, .int (nI (k + 1))), (9, .ref (ma 23 (lkj g nL ((i * 6 + v) * 6 + f) k))), (7, .ref (ma 21 ((i * 6 + v) * 6 + f))), (0, .ref (ma 0 0)), (1, .int (nI i)), (2, .int (nI v)), (3, .int (nI f)), (4, .int (nI i2)), (5, .int (nI v2)), (6, .int (nI f2))]) hx hb dX12_isMade_118 hl (k := 1) rfl (nI_add k 1) (by decide) rfl (fun ls hl => ?_)
        refine lv_goto (tgt := 36) hx hb dX12_isMade_121 (by decide) ?_
        refine ih_k () ls (by omega) ⟨fun k9 h9 => (Nat.lt_or_ge k9 k).elim (hq_k k9) (fun h8 => by rw [show k9 = k by omega, c_15, decide_eq_false (by omega)]; rfl), show lv_has ls 10 [(8, .int (nI (k + 1))), (7, .ref (ma 21 ((i * 6 + v) * 6 + f))), (0, .ref (ma 0 0)), (1, .int (nI i)), (2, .int (nI v)), (3, .int (nI f)), (4, .int (nI i2)), (5, .int (nI v2)), (6, .int (nI f2))] from ?_⟩
        exact lv_sub hl [0, 2, 3, 4, 5, 6, 7, 8, 9] rfl
      · have c_15 := bI_t c_15
        refine lv_iconst (v := nI 1) hx hb dX12_isMade_116 (by decide) ?_
        exact W.zret (v := nI 1) hx hb hr rfl (fun t ht hW => ⟨_, rfl, bI_n1 (mdN_t hkl9 (by rw [c_15, Bool.or_true])), ht⟩) (fun _ h => nomatch h) dX12_isMade_117
    · have c_13 := zn_neF (a := (cn (g 16 (lkj g nL ((i * 6 + v) * 6 + f) k)) / 36)) (b := i2) (by omega) (by omega) c_13
      refine lv_aload hx hb dX12_isMade_68 (lv_at hl 0 rfl) ?_
      refine va_get hx hb hts hinX8 hown hK (hM.Pa (hR.k23 (j := lkj g nL ((i * 6 + v) * 6 + f) k) (by omega)).1 rfl (hR.k23 (j := lkj g nL ((i * 6 + v) * 6 + f) k) (by omega)).2) 0 rfl rfl 1 (by decide) (hk12) (fun _ h9 => h9) rfl dX12_isMade_70 ?_
      refine lv_iload hx hb dX12_isMade_73 (lv_at hl 8 rfl) ?_
      refine lv_icmp_ne (tgt := 88) hx hb dX12_isMade_75 (by decide) (fun c_16 => ?_) (fun c_16 => ?_)
      · have c_16 := zn_neT (a := (cn (g 16 (lkj g nL ((i * 6 + v) * 6 + f) k)) / 6 % 6)) (b := v2) (by omega) (by omega) c_16
        refine lv_aload_n hx hb dX12_isMade_88 rfl (lv_at hl 3 rfl) ?_
        refine lv_aload hx hb dX12_isMade_89 (lv_at hl 0 rfl) ?_
        refine va_get hx hb hts hinX8 hown hK (hM.Pa (hR.k23 (j := lkj g nL ((i * 6 + v) * 6 + f) k) (by omega)).1 rfl (hR.k23 (j := lkj g nL ((i * 6 + v) * 6 + f) k) (by omega)).2) 0 rfl rfl 0 (by decide) (hk11) (fun _ h9 => h9) rfl dX12_isMade_91 ?_
        refine lv_aload hx hb dX12_isMade_94 (lv_at hl 0 rfl) ?_
        refine va_get hx hb hts hinX8 hown hK (hM.Pa (hR.k23 (j := lkj g nL ((i * 6 + v) * 6 + f) k) (by omega)).1 rfl (hR.k23 (j := lkj g nL ((i * 6 + v) * 6 + f) k) (by omega)).2) 0 rfl rfl 1 (by decide) (hk12) (fun _ h9 => h9) rfl dX12_isMade_96 ?_
        refine lv_aload hx hb dX12_isMade_99 (lv_at hl 0 rfl) ?_
        refine va_get hx hb hts hinX8 hown hK (hM.Pa (hR.k23 (j := lkj g nL ((i * 6 + v) * 6 + f) k) (by omega)).1 rfl (hR.k23 (j := lkj g nL ((i * 6 + v) * 6 + f) k) (by omega)).2) 0 rfl rfl 2 (by decide) (hk13) (fun _ h9 => h9) rfl dX12_isMade_101 ?_
        refine lv_iload hx hb dX12_isMade_104 (lv_at hl 7 rfl) ?_
        refine lv_iload hx hb dX12_isMade_106 (lv_at hl 8 rfl) ?_
        refine lv_iload hx hb dX12_isMade_108 (lv_at hl 9 rfl) ?_
        refine zcVi (As := [.int (nI (cn (g 16 (lkj g nL ((i * 6 + v) * 6 + f) k)) / 36)), .int (nI (cn (g 16 (lkj g nL ((i * 6 + v) * 6 + f) k)) / 6 % 6)), .int (nI (cn (g 16 (lkj g nL ((i * 6 + v) * 6 + f) k)) % 6)), .int (nI i2), .int (nI v2), .int (nI f2)]) (rest := []) ⟨hx, hb, hml, hown, hts⟩ (c_X12_isMade_2 l D ty A u C ma t0 mi g n1 n2 nL n4 n5 th rep bro hR (cn (g 16 (lkj g nL ((i * 6 + v) * 6 + f) k)) / 36) (cn (g 16 (lkj g nL ((i * 6 + v) * 6 + f) k)) / 6 % 6) (cn (g 16 (lkj g nL ((i * 6 + v) * 6 + f) k)) % 6) i2 v2 f2 (by omega) (by omega) (by omega) (by omega) (by omega) (by omega) (by omega)) (cwV 6 hts gX12_isMade_X12_isMade rfl rfl rfl (by decide +kernel) ⟨Nat.le_of_ble_eq_true rfl, Nat.le_of_ble_eq_true rfl⟩) mI_blind (mI_pre hM hK hMS hS) (va_recv hK (hM.Pa hR.o.1 rfl hR.o.2) (ci := 13) (q0 := 0) rfl rfl) rfl hl.1 rfl (Nat.le_of_ble_eq_true rfl) dX12_isMade_110 ⟨Nat.le_of_ble_eq_true rfl, Nat.le_of_ble_eq_true rfl⟩ (fun r_17 hr_17 => ?_)
        subst hr_17
        refine zeq (show bI _ = bI (mdN g nL ((i2 * 6 + v2) * 6 + f2) 2 (cn (g 16 (lkj g nL ((i * 6 + v) * 6 + f) k)))) from by rw [show ((cn (g 16 (lkj g nL ((i * 6 + v) * 6 + f) k))) / 36 * 6 + (cn (g 16 (lkj g nL ((i * 6 + v) * 6 + f) k))) / 6 % 6) * 6 + (cn (g 16 (lkj g nL ((i * 6 + v) * 6 + f) k))) % 6 = (cn (g 16 (lkj g nL ((i * 6 + v) * 6 + f) k))) by omega]) ?_
        refine lv_if_eq (tgt := 118) hx hb dX12_isMade_113 (by decide) (fun c_18 => ?_) (fun c_18 => ?_)
        · have c_18 := bI_f c_18
          refine lv_iinc (v := nI (k + 1)) (lv' := [(8, .int (nI (k + 1))), (9, .ref (ma 23 (lkj g nL ((i * 6 + v) * 6 + f) k))), (7, .ref (ma 21 ((i * 6 + v) * 6 + f))), (0, .ref (ma 0 0)), (1, .int (nI i)), (2, .int (nI v)), (3, .int (nI f)), (4, .int (nI i2)), (5, .int (nI v2)), (6, .int (nI f2))]) hx hb dX12_isMade_118 hl (k := 1) rfl (nI_add k 1) (by decide) rfl (fun ls hl => ?_)
          refine lv_goto (tgt := 36) hx hb dX12_isMade_121 (by decide) ?_
          refine ih_k () ls (by omega) ⟨fun k9 h9 => (Nat.lt_or_ge k9 k).elim (hq_k k9) (fun h8 => by rw [show k9 = k by omega, c_18, decide_eq_false (by omega)]; rfl), show lv_has ls 10 [(8, .int (nI (k + 1))), (7, .ref (ma 21 ((i * 6 + v) * 6 + f))), (0, .ref (ma 0 0)), (1, .int (nI i)), (2, .int (nI v)), (3, .int (nI f)), (4, .int (nI i2)), (5, .int (nI v2)), (6, .int (nI f2))] from ?_⟩
          exact lv_sub hl [0, 2, 3, 4, 5, 6, 7, 8, 9] rfl
        · have c_18 := bI_t c_18
          refine lv_iconst (v := nI 1) hx hb dX12_isMade_116 (by decide) ?_
          exact W.zret (v := nI 1) hx hb hr rfl (fun t ht hW => ⟨_, rfl, bI_n1 (mdN_t hkl9 (by rw [c_18, Bool.or_true])), ht⟩) (fun _ h => nomatch h) dX12_isMade_117
      · have c_16 := zn_neF (a := (cn (g 16 (lkj g nL ((i * 6 + v) * 6 + f) k)) / 6 % 6)) (b := v2) (by omega) (by omega) c_16
        refine lv_aload hx hb dX12_isMade_78 (lv_at hl 0 rfl) ?_
        refine va_get hx hb hts hinX8 hown hK (hM.Pa (hR.k23 (j := lkj g nL ((i * 6 + v) * 6 + f) k) (by omega)).1 rfl (hR.k23 (j := lkj g nL ((i * 6 + v) * 6 + f) k) (by omega)).2) 0 rfl rfl 2 (by decide) (hk13) (fun _ h9 => h9) rfl dX12_isMade_80 ?_
        refine lv_iload hx hb dX12_isMade_83 (lv_at hl 9 rfl) ?_
        refine lv_icmp_eq (tgt := 116) hx hb dX12_isMade_85 (by decide) (fun c_19 => ?_) (fun c_19 => ?_)
        · have c_19 := zn_eqT (a := (cn (g 16 (lkj g nL ((i * 6 + v) * 6 + f) k)) % 6)) (b := f2) (by omega) (by omega) c_19
          refine lv_iconst (v := nI 1) hx hb dX12_isMade_116 (by decide) ?_
          exact W.zret (v := nI 1) hx hb hr rfl (fun t ht hW => ⟨_, rfl, bI_n1 (mdN_t hkl9 (by rw [decide_eq_true (by omega), Bool.true_or])), ht⟩) (fun _ h => nomatch h) dX12_isMade_117
        · have c_19 := zn_eqF (a := (cn (g 16 (lkj g nL ((i * 6 + v) * 6 + f) k)) % 6)) (b := f2) (by omega) (by omega) c_19
          refine lv_aload_n hx hb dX12_isMade_88 rfl (lv_at hl 3 rfl) ?_
          refine lv_aload hx hb dX12_isMade_89 (lv_at hl 0 rfl) ?_
          refine va_get hx hb hts hinX8 hown hK (hM.Pa (hR.k23 (j := lkj g nL ((i * 6 + v) * 6 + f) k) (by omega)).1 rfl (hR.k23 (j := lkj g nL ((i * 6 + v) * 6 + f) k) (by omega)).2) 0 rfl rfl 0 (by decide) (hk11) (fun _ h9 => h9) rfl dX12_isMade_91 ?_
          refine lv_aload hx hb dX12_isMade_94 (lv_at hl 0 rfl) ?_
          refine va_get hx hb hts hinX8 hown hK (hM.Pa (hR.k23 (j := lkj g nL ((i * 6 + v) * 6 + f) k) (by omega)).1 rfl (hR.k23 (j := lkj g nL ((i * 6 + v) * 6 + f) k) (by omega)).2) 0 rfl rfl 1 (by decide) (hk12) (fun _ h9 => h9) rfl dX12_isMade_96 ?_
          refine lv_aload hx hb dX12_isMade_99 (lv_at hl 0 rfl) ?_
          refine va_get hx hb hts hinX8 hown hK (hM.Pa (hR.k23 (j := lkj g nL ((i * 6 + v) * 6 + f) k) (by omega)).1 rfl (hR.k23 (j := lkj g nL ((i * 6 + v) * 6 + f) k) (by omega)).2) 0 rfl rfl 2 (by decide) (hk13) (fun _ h9 => h9) rfl dX12_isMade_101 ?_
          refine lv_iload hx hb dX12_isMade_104 (lv_at hl 7 rfl) ?_
          refine lv_iload hx hb dX12_isMade_106 (lv_at hl 8 rfl) ?_
          refine lv_iload hx hb dX12_isMade_108 (lv_at hl 9 rfl) ?_
          refine zcVi (As := [.int (nI (cn (g 16 (lkj g nL ((i * 6 + v) * 6 + f) k)) / 36)), .int (nI (cn (g 16 (lkj g nL ((i * 6 + v) * 6 + f) k)) / 6 % 6)), .int (nI (cn (g 16 (lkj g nL ((i * 6 + v) * 6 + f) k)) % 6)), .int (nI i2), .int (nI v2), .int (nI f2)]) (rest := []) ⟨hx, hb, hml, hown, hts⟩ (c_X12_isMade_2 l D ty A u C ma t0 mi g n1 n2 nL n4 n5 th rep bro hR (cn (g 16 (lkj g nL ((i * 6 + v) * 6 + f) k)) / 36) (cn (g 16 (lkj g nL ((i * 6 + v) * 6 + f) k)) / 6 % 6) (cn (g 16 (lkj g nL ((i * 6 + v) * 6 + f) k)) % 6) i2 v2 f2 (by omega) (by omega) (by omega) (by omega) (by omega) (by omega) (by omega)) (cwV 6 hts gX12_isMade_X12_isMade rfl rfl rfl (by decide +kernel) ⟨Nat.le_of_ble_eq_true rfl, Nat.le_of_ble_eq_true rfl⟩) mI_blind (mI_pre hM hK hMS hS) (va_recv hK (hM.Pa hR.o.1 rfl hR.o.2) (ci := 13) (q0 := 0) rfl rfl) rfl hl.1 rfl (Nat.le_of_ble_eq_true rfl) dX12_isMade_110 ⟨Nat.le_of_ble_eq_true rfl, Nat.le_of_ble_eq_true rfl⟩ (fun r_20 hr_20 => ?_)
          subst hr_20
          refine zeq (show bI _ = bI (mdN g nL ((i2 * 6 + v2) * 6 + f2) 2 (cn (g 16 (lkj g nL ((i * 6 + v) * 6 + f) k)))) from by rw [show ((cn (g 16 (lkj g nL ((i * 6 + v) * 6 + f) k))) / 36 * 6 + (cn (g 16 (lkj g nL ((i * 6 + v) * 6 + f) k))) / 6 % 6) * 6 + (cn (g 16 (lkj g nL ((i * 6 + v) * 6 + f) k))) % 6 = (cn (g 16 (lkj g nL ((i * 6 + v) * 6 + f) k))) by omega]) ?_
          refine lv_if_eq (tgt := 118) hx hb dX12_isMade_113 (by decide) (fun c_21 => ?_) (fun c_21 => ?_)
          · have c_21 := bI_f c_21
            refine lv_iinc (v := nI (k + 1)) (lv' := [(8, .int (nI (k + 1))), (9, .ref (ma 23 (lkj g nL ((i * 6 + v) * 6 + f) k))), (7, .ref (ma 21 ((i * 6 + v) * 6 + f))), (0, .ref (ma 0 0)), (1, .int (nI i)), (2, .int (nI v)), (3, .int (nI f)), (4, .int (nI i2)), (5, .int (nI v2)), (6, .int (nI f2))]) hx hb dX12_isMade_118 hl (k := 1) rfl (nI_add k 1) (by decide) rfl (fun ls hl => ?_)
            refine lv_goto (tgt := 36) hx hb dX12_isMade_121 (by decide) ?_
            refine ih_k () ls (by omega) ⟨fun k9 h9 => (Nat.lt_or_ge k9 k).elim (hq_k k9) (fun h8 => by rw [show k9 = k by omega, c_21, decide_eq_false (by omega)]; rfl), show lv_has ls 10 [(8, .int (nI (k + 1))), (7, .ref (ma 21 ((i * 6 + v) * 6 + f))), (0, .ref (ma 0 0)), (1, .int (nI i)), (2, .int (nI v)), (3, .int (nI f)), (4, .int (nI i2)), (5, .int (nI v2)), (6, .int (nI f2))] from ?_⟩
            exact lv_sub hl [0, 2, 3, 4, 5, 6, 7, 8, 9] rfl
          · have c_21 := bI_t c_21
            refine lv_iconst (v := nI 1) hx hb dX12_isMade_116 (by decide) ?_
            exact W.zret (v := nI 1) hx hb hr rfl (fun t ht hW => ⟨_, rfl, bI_n1 (mdN_t hkl9 (by rw [c_21, Bool.or_true])), ht⟩) (fun _ h => nomatch h) dX12_isMade_117
set_option maxHeartbeats 400000 in
set_option maxRecDepth 100000 in
theorem c_X12_isMade_4 (l : Launch) (D : va_G) (ty : Nat → ClassId) (A : Nat → Prop) (u : Nat → Nat → Prop) (C : Nat → Nat → va_E) (ma : Nat → Nat → Nat) (t0 mi : Nat) (g : Nat → Nat → Int32) (n1 n2 nL n4 n5 : Nat) (th : Int32) (rep bro : Nat → Nat → Int32) (hR : mR ty t0 g n1 n2 nL n4 n5 th rep bro u C ma) (i v f i2 v2 f2 : Nat) (hd : i < 4) (hi : i < n1) (hv : v < nV g i) (hf : f < 6) (hi2 : i2 < 8) (hv2 : v2 < 6) (hf2 : f2 < 6) : Met l yX12_isMade wsX12_isMade ({ frames := 6, cells := 0, slots := 0, locals := 151 }) (va_Pc [.ref (ma 0 0), .int (nI i), .int (nI v), .int (nI f), .int (nI i2), .int (nI v2), .int (nI f2)] (mI D ty A u C ma t0 mi)) (vp_Si (fun v_ => v_ = bI (mdN g nL ((i2 * 6 + v2) * 6 + f2) 4 ((i * 6 + v) * 6 + f)))) 0 0 (fun _ => False) := by
  refine zMet (cc := cX12_isMade) (maxL := 10) (ret := (some .boolean)) (by decide) rfl (Nat.le_of_ble_eq_true rfl) ?_
  intro p e s m below meth c hx hb hr hts hown hlocks hml hB ls hl
  obtain ⟨hM, hK, hMS⟩ := hB
  have hS : va_S A s.heap s.heap [] := va_S.rf
  have hbn := hR.I.b1
  have hbs := hR.I.b2
  have hbl := hR.I.bL
  have hbc := hR.I.b4
  have hbr := hR.I.b5
  have hv7 := (hR.I.v7 hi).2
  have hlen := hR.I.len (show (i * 6 + v) * 6 + f < 288 by omega)
  have hl : lv_has ls 10 [(0, .ref (ma 0 0)), (1, .int (nI i)), (2, .int (nI v)), (3, .int (nI f)), (4, .int (nI i2)), (5, .int (nI v2)), (6, .int (nI f2))] := hl
  have hinX12 : ∀ w ∈ wsX120, w ∈ wsX12_isMade := by decide +kernel
  have hk1 := hts (.fieldLink RX12 10 "DatamarketDeskModel" "sets" "Ljava/util/ArrayList;") (by decide +kernel)
  have hk2 := hts (.classLink RX12 49 "DatamarketDeskModel$DataSet") (by decide +kernel)
  have hinX7 : ∀ w ∈ wsX70, w ∈ wsX12_isMade := by decide +kernel
  have hk4 := hts (.fieldLink RX12 69 "DatamarketDeskModel$DataSet" "versions" "Ljava/util/ArrayList;") (by decide +kernel)
  have hk5 := hts (.classLink RX12 72 "DatamarketDeskModel$Version") (by decide +kernel)
  have hinX11 : ∀ w ∈ wsX110, w ∈ wsX12_isMade := by decide +kernel
  have hk7 := hts (.fieldLink RX12 87 "DatamarketDeskModel$Version" "links" "Ljava/util/ArrayList;") (by decide +kernel)
  have hk8 := hts (.classLink RX12 7 "java/util/ArrayList") (by decide +kernel)
  have hk9 := hts (.classLink RX12 90 "DatamarketDeskModel$Link") (by decide +kernel)
  have hinX8 : ∀ w ∈ wsX80, w ∈ wsX12_isMade := by decide +kernel
  have hk11 := hts (.fieldLink RX12 92 "DatamarketDeskModel$Link" "set" "I") (by decide +kernel)
  have hk12 := hts (.fieldLink RX12 95 "DatamarketDeskModel$Link" "version" "I") (by decide +kernel)
  have hk13 := hts (.fieldLink RX12 98 "DatamarketDeskModel$Link" "field" "I") (by decide +kernel)
  refine lv_aload_n hx hb dX12_isMade_0 rfl (lv_at hl 0 rfl) ?_
  refine va_get hx hb hts hinX12 hown hK (hM.Pa hR.o.1 rfl hR.o.2) 0 rfl rfl 1 (by decide) (hk1) (fun _ h9 => h9) rfl dX12_isMade_1 ?_
  refine lv_iload_n hx hb dX12_isMade_4 rfl (lv_at hl 1 rfl) ?_
  obtain ⟨huz_1, hnz_1, mz_1, bz_1, hCz_1⟩ := isL.hd hR.l1
  refine zcVr (x := .ref (ma 9 i)) (As := [.int (nI i)]) (rest := []) ⟨hx, hb, hml, hown, hts⟩ (c_get l D ty A u C ma t0 mi 1 0 n1 (ma 9) hR.l1 i (by omega)) (cwV 1 hts gX12_isMade_Jx4a65c_get_915e3 rfl rfl rfl (by decide +kernel) ⟨Nat.le_of_ble_eq_true rfl, Nat.le_of_ble_eq_true rfl⟩) mI_blind (mI_pre hM hK hMS hS) (va_recv hK (hM.Pa huz_1 rfl hCz_1) (ci := 0) (q0 := 0) rfl rfl) rfl hl.1 rfl (Nat.le_of_ble_eq_true rfl) dX12_isMade_5 ⟨Nat.le_of_ble_eq_true rfl, Nat.le_of_ble_eq_true rfl⟩ ?_
  refine va_castS hx hb hown (hk2) ((hK.1 8 _ rfl).2) (va_recv hK (hM.Pa (hR.s9 (i := i) (by omega)).1 rfl (hR.s9 (i := i) (by omega)).2) (ci := 8) (q0 := 0) rfl rfl) dX12_isMade_8 ?_
  refine va_get hx hb hts hinX7 hown hK (hM.Pa (hR.s9 (i := i) (by omega)).1 rfl (hR.s9 (i := i) (by omega)).2) 0 rfl rfl 3 (by decide) (hk4) (fun _ h9 => h9) rfl dX12_isMade_11 ?_
  refine lv_iload_n hx hb dX12_isMade_14 rfl (lv_at hl 2 rfl) ?_
  obtain ⟨huz_3, hnz_3, mz_3, bz_3, hCz_3⟩ := isL.hd (hR.s12 (i := i) (by omega))
  refine zcVr (x := .ref (ma 15 (i * 6 + v))) (As := [.int (nI v)]) (rest := []) ⟨hx, hb, hml, hown, hts⟩ (c_get l D ty A u C ma t0 mi 12 i (nV g i) (fun v => ma 15 (i * 6 + v)) (hR.s12 (i := i) (by omega)) v (by omega)) (cwV 1 hts gX12_isMade_Jx4a65c_get_915e3 rfl rfl rfl (by decide +kernel) ⟨Nat.le_of_ble_eq_true rfl, Nat.le_of_ble_eq_true rfl⟩) mI_blind (mI_pre hM hK hMS hS) (va_recv hK (hM.Pa huz_3 rfl hCz_3) (ci := 0) (q0 := 0) rfl rfl) rfl hl.1 rfl (Nat.le_of_ble_eq_true rfl) dX12_isMade_15 ⟨Nat.le_of_ble_eq_true rfl, Nat.le_of_ble_eq_true rfl⟩ ?_
  refine va_castS hx hb hown (hk5) ((hK.1 12 _ rfl).2) (va_recv hK (hM.Pa (hR.v15 (i := i) (v := v) (by omega) (by omega)).1 rfl (hR.v15 (i := i) (v := v) (by omega) (by omega)).2) (ci := 12) (q0 := 0) rfl rfl) dX12_isMade_18 ?_
  refine va_get hx hb hts hinX11 hown hK (hM.Pa (hR.v15 (i := i) (v := v) (by omega) (by omega)).1 rfl (hR.v15 (i := i) (v := v) (by omega) (by omega)).2) 0 rfl rfl 4 (by decide) (hk7) (fun _ h9 => h9) rfl dX12_isMade_21 ?_
  refine lv_iload_n hx hb dX12_isMade_24 rfl (lv_at hl 3 rfl) ?_
  obtain ⟨huz_5, hnz_5, mz_5, bz_5, hCz_5⟩ := isL.hd (hR.v19 (i := i) (v := v) (by omega) (by omega))
  refine zcVr (x := .ref (ma 21 ((i * 6 + v) * 6 + f))) (As := [.int (nI f)]) (rest := []) ⟨hx, hb, hml, hown, hts⟩ (c_get l D ty A u C ma t0 mi 19 (i * 6 + v) 6 (fun f => ma 21 ((i * 6 + v) * 6 + f)) (hR.v19 (i := i) (v := v) (by omega) (by omega)) f (by omega)) (cwV 1 hts gX12_isMade_Jx4a65c_get_915e3 rfl rfl rfl (by decide +kernel) ⟨Nat.le_of_ble_eq_true rfl, Nat.le_of_ble_eq_true rfl⟩) mI_blind (mI_pre hM hK hMS hS) (va_recv hK (hM.Pa huz_5 rfl hCz_5) (ci := 0) (q0 := 0) rfl rfl) rfl hl.1 rfl (Nat.le_of_ble_eq_true rfl) dX12_isMade_25 ⟨Nat.le_of_ble_eq_true rfl, Nat.le_of_ble_eq_true rfl⟩ ?_
  obtain ⟨huz_7, hnz_7, mz_7, bz_7, hCz_7⟩ := isL.hd (hR.v21 (i := i) (v := v) (f := f) (by omega) (by omega) (by omega))
  refine va_castS hx hb hown (hk8) ((hK.1 0 _ rfl).2) (va_recv hK (hM.Pa huz_7 rfl hCz_7) (ci := 0) (q0 := 0) rfl rfl) dX12_isMade_28 ?_
  refine lv_astore (lv' := [(7, .ref (ma 21 ((i * 6 + v) * 6 + f))), (0, .ref (ma 0 0)), (1, .int (nI i)), (2, .int (nI v)), (3, .int (nI f)), (4, .int (nI i2)), (5, .int (nI v2)), (6, .int (nI f2))]) hx hb dX12_isMade_31 hl (by decide) rfl (fun ls hl => ?_)
  refine lv_iconst (v := nI 0) hx hb dX12_isMade_33 (by decide) ?_
  refine lv_istore (lv' := [(8, .int (nI 0)), (7, .ref (ma 21 ((i * 6 + v) * 6 + f))), (0, .ref (ma 0 0)), (1, .int (nI i)), (2, .int (nI v)), (3, .int (nI f)), (4, .int (nI i2)), (5, .int (nI v2)), (6, .int (nI f2))]) hx hb dX12_isMade_34 hl (by decide) rfl (fun ls hl => ?_)
  refine zloopP (τ := Unit) (fun k _ ls => (∀ k9, k9 < k → (decide (cn (g 16 (lkj g nL ((i * 6 + v) * 6 + f) k9)) = ((i2 * 6 + v2) * 6 + f2)) || mdN g nL ((i2 * 6 + v2) * 6 + f2) 3 (cn (g 16 (lkj g nL ((i * 6 + v) * 6 + f) k9)))) = false) ∧ lv_has ls 10 [(8, .int (nI k)), (7, .ref (ma 21 ((i * 6 + v) * 6 + f))), (0, .ref (ma 0 0)), (1, .int (nI i)), (2, .int (nI v)), (3, .int (nI f)), (4, .int (nI i2)), (5, .int (nI v2)), (6, .int (nI f2))]) ((lkl g nL ((i * 6 + v) * 6 + f)).length) ?_ 0 () ls (Nat.zero_le _) ⟨(fun _ h => absurd h (Nat.not_lt_zero _)), lv_sub hl [0, 1, 2, 3, 4, 5, 6, 7, 8] rfl⟩
  intro k _ ls hi_k hinv_k ih_k
  obtain ⟨hq_k, hl⟩ := hinv_k
  have hl : lv_has ls 10 [(8, .int (nI k)), (7, .ref (ma 21 ((i * 6 + v) * 6 + f))), (0, .ref (ma 0 0)), (1, .int (nI i)), (2, .int (nI v)), (3, .int (nI f)), (4, .int (nI i2)), (5, .int (nI v2)), (6, .int (nI f2))] := hl
  refine lv_iload hx hb dX12_isMade_36 (lv_at hl 0 rfl) ?_
  refine lv_aload hx hb dX12_isMade_38 (lv_at hl 1 rfl) ?_
  obtain ⟨huz_8, hnz_8, mz_8, bz_8, hCz_8⟩ := isL.hd (hR.v21 (i := i) (v := v) (f := f) (by omega) (by omega) (by omega))
  refine zcVi (As := []) (rest := [.int (nI k)]) ⟨hx, hb, hml, hown, hts⟩ (c_size l D ty A u C ma t0 mi 21 ((i * 6 + v) * 6 + f) ((lkl g nL ((i * 6 + v) * 6 + f)).length) (fun k => ma 23 (lkj g nL ((i * 6 + v) * 6 + f) k)) (hR.v21 (i := i) (v := v) (f := f) (by omega) (by omega) (by omega))) (cwV 0 hts gX12_isMade_Jx4a65c_size_8abf5 rfl rfl rfl (by decide +kernel) ⟨Nat.le_of_ble_eq_true rfl, Nat.le_of_ble_eq_true rfl⟩) mI_blind (mI_pre hM hK hMS hS) (va_recv hK (hM.Pa huz_8 rfl hCz_8) (ci := 0) (q0 := 0) rfl rfl) rfl hl.1 rfl (Nat.le_of_ble_eq_true rfl) dX12_isMade_40 ⟨Nat.le_of_ble_eq_true rfl, Nat.le_of_ble_eq_true rfl⟩ (fun r_9 hr_9 => ?_)
  subst hr_9
  refine lv_icmp_ge (tgt := 124) hx hb dX12_isMade_43 (by decide) (fun c_10 => ?_) (fun c_10 => ?_)
  · have c_10 := zn_geT (a := k) (b := ((lkl g nL ((i * 6 + v) * 6 + f)).length)) (by omega) (by omega) c_10
    obtain e9 : (lkl g nL ((i * 6 + v) * 6 + f)).length = k := by omega
    refine lv_iconst (v := nI 0) hx hb dX12_isMade_124 (by decide) ?_
    exact W.zret (v := nI 0) hx hb hr rfl (fun t ht hW => ⟨_, rfl, bI_n0 (mdN_f (fun k9 h9 => hq_k k9 (by omega))), ht⟩) (fun _ h => nomatch h) dX12_isMade_125
  · have c_10 := zn_geF (a := k) (b := ((lkl g nL ((i * 6 + v) * 6 + f)).length)) (by omega) (by omega) c_10
    have hkl9 : k < (lkl g nL ((i * 6 + v) * 6 + f)).length := c_10
    have hj := lkj_mem hkl9
    have hj1 := hj.1
    have hp15 : cn (g 15 (lkj g nL ((i * 6 + v) * 6 + f) k)) = (i * 6 + v) * 6 + f := by rw [hj.2]; exact cn_nI (by omega)
    have hlp := hR.I.lkp hj1
    have hlb := (hR.I.lk hj1).2.2
    rw [hp15] at hlp
    refine lv_aload hx hb dX12_isMade_46 (lv_at hl 1 rfl) ?_
    refine lv_iload hx hb dX12_isMade_48 (lv_at hl 0 rfl) ?_
    obtain ⟨huz_11, hnz_11, mz_11, bz_11, hCz_11⟩ := isL.hd (hR.v21 (i := i) (v := v) (f := f) (by omega) (by omega) (by omega))
    refine zcVr (x := .ref (ma 23 (lkj g nL ((i * 6 + v) * 6 + f) k))) (As := [.int (nI k)]) (rest := []) ⟨hx, hb, hml, hown, hts⟩ (c_get l D ty A u C ma t0 mi 21 ((i * 6 + v) * 6 + f) ((lkl g nL ((i * 6 + v) * 6 + f)).length) (fun k => ma 23 (lkj g nL ((i * 6 + v) * 6 + f) k)) (hR.v21 (i := i) (v := v) (f := f) (by omega) (by omega) (by omega)) k (by omega)) (cwV 1 hts gX12_isMade_Jx4a65c_get_915e3 rfl rfl rfl (by decide +kernel) ⟨Nat.le_of_ble_eq_true rfl, Nat.le_of_ble_eq_true rfl⟩) mI_blind (mI_pre hM hK hMS hS) (va_recv hK (hM.Pa huz_11 rfl hCz_11) (ci := 0) (q0 := 0) rfl rfl) rfl hl.1 rfl (Nat.le_of_ble_eq_true rfl) dX12_isMade_50 ⟨Nat.le_of_ble_eq_true rfl, Nat.le_of_ble_eq_true rfl⟩ ?_
    refine va_castS hx hb hown (hk9) ((hK.1 9 _ rfl).2) (va_recv hK (hM.Pa (hR.k23 (j := lkj g nL ((i * 6 + v) * 6 + f) k) (by omega)).1 rfl (hR.k23 (j := lkj g nL ((i * 6 + v) * 6 + f) k) (by omega)).2) (ci := 9) (q0 := 0) rfl rfl) dX12_isMade_53 ?_
    refine lv_astore (lv' := [(9, .ref (ma 23 (lkj g nL ((i * 6 + v) * 6 + f) k))), (8, .int (nI k)), (7, .ref (ma 21 ((i * 6 + v) * 6 + f))), (0, .ref (ma 0 0)), (1, .int (nI i)), (2, .int (nI v)), (3, .int (nI f)), (4, .int (nI i2)), (5, .int (nI v2)), (6, .int (nI f2))]) hx hb dX12_isMade_56 hl (by decide) rfl (fun ls hl => ?_)
    refine lv_aload hx hb dX12_isMade_58 (lv_at hl 0 rfl) ?_
    refine va_get hx hb hts hinX8 hown hK (hM.Pa (hR.k23 (j := lkj g nL ((i * 6 + v) * 6 + f) k) (by omega)).1 rfl (hR.k23 (j := lkj g nL ((i * 6 + v) * 6 + f) k) (by omega)).2) 0 rfl rfl 0 (by decide) (hk11) (fun _ h9 => h9) rfl dX12_isMade_60 ?_
    refine lv_iload hx hb dX12_isMade_63 (lv_at hl 7 rfl) ?_
    refine lv_icmp_ne (tgt := 88) hx hb dX12_isMade_65 (by decide) (fun c_13 => ?_) (fun c_13 => ?_)
    · have c_13 := zn_neT (a := (cn (g 16 (lkj g nL ((i * 6 + v) * 6 + f) k)) / 36)) (b := i2) (by omega) (by omega) c_13
      refine lv_aload_n hx hb dX12_isMade_88 rfl (lv_at hl 3 rfl) ?_
      refine lv_aload hx hb dX12_isMade_89 (lv_at hl 0 rfl) ?_
      refine va_get hx hb hts hinX8 hown hK (hM.Pa (hR.k23 (j := lkj g nL ((i * 6 + v) * 6 + f) k) (by omega)).1 rfl (hR.k23 (j := lkj g nL ((i * 6 + v) * 6 + f) k) (by omega)).2) 0 rfl rfl 0 (by decide) (hk11) (fun _ h9 => h9) rfl dX12_isMade_91 ?_
      refine lv_aload hx hb dX12_isMade_94 (lv_at hl 0 rfl) ?_
      refine va_get hx hb hts hinX8 hown hK (hM.Pa (hR.k23 (j := lkj g nL ((i * 6 + v) * 6 + f) k) (by omega)).1 rfl (hR.k23 (j := lkj g nL ((i * 6 + v) * 6 + f) k) (by omega)).2) 0 rfl rfl 1 (by decide) (hk12) (fun _ h9 => h9) rfl dX12_isMade_96 ?_
      refine lv_aload hx hb dX12_isMade_99 (lv_at hl 0 rfl) ?_
      refine va_get hx hb hts hinX8 hown hK (hM.Pa (hR.k23 (j := lkj g nL ((i * 6 + v) * 6 + f) k) (by omega)).1 rfl (hR.k23 (j := lkj g nL ((i * 6 + v) * 6 + f) k) (by omega)).2) 0 rfl rfl 2 (by decide) (hk13) (fun _ h9 => h9) rfl dX12_isMade_101 ?_
      refine lv_iload hx hb dX12_isMade_104 (lv_at hl 7 rfl) ?_
      refine lv_iload hx hb dX12_isMade_106 (lv_at hl 8 rfl) ?_
      refine lv_iload hx hb dX12_isMade_108 (lv_at hl 9 rfl) ?_
      refine zcVi (As := [.int (nI (cn (g 16 (lkj g nL ((i * 6 + v) * 6 + f) k)) / 36)), .int (nI (cn (g 16 (lkj g nL ((i * 6 + v) * 6 + f) k)) / 6 % 6)), .int (nI (cn (g 16 (lkj g nL ((i * 6 + v) * 6 + f) k)) % 6)), .int (nI i2), .int (nI v2), .int (nI f2)]) (rest := []) ⟨hx, hb, hml, hown, hts⟩ (c_X12_isMade_3 l D ty A u C ma t0 mi g n1 n2 nL n4 n5 th rep bro hR (cn (g 16 (lkj g nL ((i * 6 + v) * 6 + f) k)) / 36) (cn (g 16 (lkj g nL ((i * 6 + v) * 6 + f) k)) / 6 % 6) (cn (g 16 (lkj g nL ((i * 6 + v) * 6 + f) k)) % 6) i2 v2 f2 (by omega) (by omega) (by omega) (by omega) (by omega) (by omega) (by omega)) (cwV 6 hts gX12_isMade_X12_isMade rfl rfl rfl (by decide +kernel) ⟨Nat.le_of_ble_eq_true rfl, Nat.le_of_ble_eq_true rfl⟩) mI_blind (mI_pre hM hK hMS hS) (va_recv hK (hM.Pa hR.o.1 rfl hR.o.2) (ci := 13) (q0 := 0) rfl rfl) rfl hl.1 rfl (Nat.le_of_ble_eq_true rfl) dX12_isMade_110 ⟨Nat.le_of_ble_eq_true rfl, Nat.le_of_ble_eq_true rfl⟩ (fun r_14 hr_14 => ?_)
      subst hr_14
      refine zeq (show bI _ = bI (mdN g nL ((i2 * 6 + v2) * 6 + f2) 3 (cn (g 16 (lkj g nL ((i * 6 + v) * 6 + f) k)))) from by rw [show ((cn (g 16 (lkj g nL ((i * 6 + v) * 6 + f) k))) / 36 * 6 + (cn (g 16 (lkj g nL ((i * 6 + v) * 6 + f) k))) / 6 % 6) * 6 + (cn (g 16 (lkj g nL ((i * 6 + v) * 6 + f) k))) % 6 = (cn (g 16 (lkj g nL ((i * 6 + v) * 6 + f) k))) by omega]) ?_
      refine lv_if_eq (tgt := 118) hx hb dX12_isMade_113 (by decide) (fun c_15 => ?_) (fun c_15 => ?_)
      · have c_15 := bI_f c_15
        refine lv_iinc (v := nI (k + 1)) (lv' := [(8, .int (nI (k + 1))), (9, .ref (ma 23 (lkj g nL ((i * 6 + v) * 6 + f) k))), (7, .ref (ma 21 ((i * 6 + v) * 6 + f))), (0, .ref (ma 0 0)), (1, .int (nI i)), (2, .int (nI v)), (3, .int (nI f)), (4, .int (nI i2)), (5, .int (nI v2)), (6, .int (nI f2))]) hx hb dX12_isMade_118 hl (k := 1) rfl (nI_add k 1) (by decide) rfl (fun ls hl => ?_)
        refine lv_goto (tgt := 36) hx hb dX12_isMade_121 (by decide) ?_
        refine ih_k () ls (by omega) ⟨fun k9 h9 => (Nat.lt_or_ge k9 k).elim (hq_k k9) (fun h8 => by rw [show k9 = k by omega, c_15, decide_eq_false (by omega)]; rfl), show lv_has ls 10 [(8, .int (nI (k + 1))), (7, .ref (ma 21 ((i * 6 + v) * 6 + f))), (0, .ref (ma 0 0)), (1, .int (nI i)), (2, .int (nI v)), (3, .int (nI f)), (4, .int (nI i2)), (5, .int (nI v2)), (6, .int (nI f2))] from ?_⟩
        exact lv_sub hl [0, 2, 3, 4, 5, 6, 7, 8, 9] rfl
      · have c_15 := bI_t c_15
        refine lv_iconst (v := nI 1) hx hb dX12_isMade_116 (by decide) ?_
        exact W.zret (v := nI 1) hx hb hr rfl (fun t ht hW => ⟨_, rfl, bI_n1 (mdN_t hkl9 (by rw [c_15, Bool.or_true])), ht⟩) (fun _ h => nomatch h) dX12_isMade_117
    · have c_13 := zn_neF (a := (cn (g 16 (lkj g nL ((i * 6 + v) * 6 + f) k)) / 36)) (b := i2) (by omega) (by omega) c_13
      refine lv_aload hx hb dX12_isMade_68 (lv_at hl 0 rfl) ?_
      refine va_get hx hb hts hinX8 hown hK (hM.Pa (hR.k23 (j := lkj g nL ((i * 6 + v) * 6 + f) k) (by omega)).1 rfl (hR.k23 (j := lkj g nL ((i * 6 + v) * 6 + f) k) (by omega)).2) 0 rfl rfl 1 (by decide) (hk12) (fun _ h9 => h9) rfl dX12_isMade_70 ?_
      refine lv_iload hx hb dX12_isMade_73 (lv_at hl 8 rfl) ?_
      refine lv_icmp_ne (tgt := 88) hx hb dX12_isMade_75 (by decide) (fun c_16 => ?_) (fun c_16 => ?_)
      · have c_16 := zn_neT (a := (cn (g 16 (lkj g nL ((i * 6 + v) * 6 + f) k)) / 6 % 6)) (b := v2) (by omega) (by omega) c_16
        refine lv_aload_n hx hb dX12_isMade_88 rfl (lv_at hl 3 rfl) ?_
        refine lv_aload hx hb dX12_isMade_89 (lv_at hl 0 rfl) ?_
        refine va_get hx hb hts hinX8 hown hK (hM.Pa (hR.k23 (j := lkj g nL ((i * 6 + v) * 6 + f) k) (by omega)).1 rfl (hR.k23 (j := lkj g nL ((i * 6 + v) * 6 + f) k) (by omega)).2) 0 rfl rfl 0 (by decide) (hk11) (fun _ h9 => h9) rfl dX12_isMade_91 ?_
        refine lv_aload hx hb dX12_isMade_94 (lv_at hl 0 rfl) ?_
        refine va_get hx hb hts hinX8 hown hK (hM.Pa (hR.k23 (j := lkj g nL ((i * 6 + v) * 6 + f) k) (by omega)).1 rfl (hR.k23 (j := lkj g nL ((i * 6 + v) * 6 + f) k) (by omega)).2) 0 rfl rfl 1 (by decide) (hk12) (fun _ h9 => h9) rfl dX12_isMade_96 ?_
        refine lv_aload hx hb dX12_isMade_99 (lv_at hl 0 rfl) ?_
        refine va_get hx hb hts hinX8 hown hK (hM.Pa (hR.k23 (j := lkj g nL ((i * 6 + v) * 6 + f) k) (by omega)).1 rfl (hR.k23 (j := lkj g nL ((i * 6 + v) * 6 + f) k) (by omega)).2) 0 rfl rfl 2 (by decide) (hk13) (fun _ h9 => h9) rfl dX12_isMade_101 ?_
        refine lv_iload hx hb dX12_isMade_104 (lv_at hl 7 rfl) ?_
        refine lv_iload hx hb dX12_isMade_106 (lv_at hl 8 rfl) ?_
        refine lv_iload hx hb dX12_isMade_108 (lv_at hl 9 rfl) ?_
        refine zcVi (As := [.int (nI (cn (g 16 (lkj g nL ((i * 6 + v) * 6 + f) k)) / 36)), .int (nI (cn (g 16 (lkj g nL ((i * 6 + v) * 6 + f) k)) / 6 % 6)), .int (nI (cn (g 16 (lkj g nL ((i * 6 + v) * 6 + f) k)) % 6)), .int (nI i2), .int (nI v2), .int (nI f2)]) (rest := []) ⟨hx, hb, hml, hown, hts⟩ (c_X12_isMade_3 l D ty A u C ma t0 mi g n1 n2 nL n4 n5 th rep bro hR (cn (g 16 (lkj g nL ((i * 6 + v) * 6 + f) k)) / 36) (cn (g 16 (lkj g nL ((i * 6 + v) * 6 + f) k)) / 6 % 6) (cn (g 16 (lkj g nL ((i * 6 + v) * 6 + f) k)) % 6) i2 v2 f2 (by omega) (by omega) (by omega) (by omega) (by omega) (by omega) (by omega)) (cwV 6 hts gX12_isMade_X12_isMade rfl rfl rfl (by decide +kernel) ⟨Nat.le_of_ble_eq_true rfl, Nat.le_of_ble_eq_true rfl⟩) mI_blind (mI_pre hM hK hMS hS) (va_recv hK (hM.Pa hR.o.1 rfl hR.o.2) (ci := 13) (q0 := 0) rfl rfl) rfl hl.1 rfl (Nat.le_of_ble_eq_true rfl) dX12_isMade_110 ⟨Nat.le_of_ble_eq_true rfl, Nat.le_of_ble_eq_true rfl⟩ (fun r_17 hr_17 => ?_)
        subst hr_17
        refine zeq (show bI _ = bI (mdN g nL ((i2 * 6 + v2) * 6 + f2) 3 (cn (g 16 (lkj g nL ((i * 6 + v) * 6 + f) k)))) from by rw [show ((cn (g 16 (lkj g nL ((i * 6 + v) * 6 + f) k))) / 36 * 6 + (cn (g 16 (lkj g nL ((i * 6 + v) * 6 + f) k))) / 6 % 6) * 6 + (cn (g 16 (lkj g nL ((i * 6 + v) * 6 + f) k))) % 6 = (cn (g 16 (lkj g nL ((i * 6 + v) * 6 + f) k))) by omega]) ?_
        refine lv_if_eq (tgt := 118) hx hb dX12_isMade_113 (by decide) (fun c_18 => ?_) (fun c_18 => ?_)
        · have c_18 := bI_f c_18
          refine lv_iinc (v := nI (k + 1)) (lv' := [(8, .int (nI (k + 1))), (9, .ref (ma 23 (lkj g nL ((i * 6 + v) * 6 + f) k))), (7, .ref (ma 21 ((i * 6 + v) * 6 + f))), (0, .ref (ma 0 0)), (1, .int (nI i)), (2, .int (nI v)), (3, .int (nI f)), (4, .int (nI i2)), (5, .int (nI v2)), (6, .int (nI f2))]) hx hb dX12_isMade_118 hl (k := 1) rfl (nI_add k 1) (by decide) rfl (fun ls hl => ?_)
          refine lv_goto (tgt := 36) hx hb dX12_isMade_121 (by decide) ?_
          refine ih_k () ls (by omega) ⟨fun k9 h9 => (Nat.lt_or_ge k9 k).elim (hq_k k9) (fun h8 => by rw [show k9 = k by omega, c_18, decide_eq_false (by omega)]; rfl), show lv_has ls 10 [(8, .int (nI (k + 1))), (7, .ref (ma 21 ((i * 6 + v) * 6 + f))), (0, .ref (ma 0 0)), (1, .int (nI i)), (2, .int (nI v)), (3, .int (nI f)), (4, .int (nI i2)), (5, .int (nI v2)), (6, .int (nI f2))] from ?_⟩
          exact lv_sub hl [0, 2, 3, 4, 5, 6, 7, 8, 9] rfl
        · have c_18 := bI_t c_18
          refine lv_iconst (v := nI 1) hx hb dX12_isMade_116 (by decide) ?_
          exact W.zret (v := nI 1) hx hb hr rfl (fun t ht hW => ⟨_, rfl, bI_n1 (mdN_t hkl9 (by rw [c_18, Bool.or_true])), ht⟩) (fun _ h => nomatch h) dX12_isMade_117
      · have c_16 := zn_neF (a := (cn (g 16 (lkj g nL ((i * 6 + v) * 6 + f) k)) / 6 % 6)) (b := v2) (by omega) (by omega) c_16
        refine lv_aload hx hb dX12_isMade_78 (lv_at hl 0 rfl) ?_
        refine va_get hx hb hts hinX8 hown hK (hM.Pa (hR.k23 (j := lkj g nL ((i * 6 + v) * 6 + f) k) (by omega)).1 rfl (hR.k23 (j := lkj g nL ((i * 6 + v) * 6 + f) k) (by omega)).2) 0 rfl rfl 2 (by decide) (hk13) (fun _ h9 => h9) rfl dX12_isMade_80 ?_
        refine lv_iload hx hb dX12_isMade_83 (lv_at hl 9 rfl) ?_
        refine lv_icmp_eq (tgt := 116) hx hb dX12_isMade_85 (by decide) (fun c_19 => ?_) (fun c_19 => ?_)
        · have c_19 := zn_eqT (a := (cn (g 16 (lkj g nL ((i * 6 + v) * 6 + f) k)) % 6)) (b := f2) (by omega) (by omega) c_19
          refine lv_iconst (v := nI 1) hx hb dX12_isMade_116 (by decide) ?_
          exact W.zret (v := nI 1) hx hb hr rfl (fun t ht hW => ⟨_, rfl, bI_n1 (mdN_t hkl9 (by rw [decide_eq_true (by omega), Bool.true_or])), ht⟩) (fun _ h => nomatch h) dX12_isMade_117
        · have c_19 := zn_eqF (a := (cn (g 16 (lkj g nL ((i * 6 + v) * 6 + f) k)) % 6)) (b := f2) (by omega) (by omega) c_19
          refine lv_aload_n hx hb dX12_isMade_88 rfl (lv_at hl 3 rfl) ?_
          refine lv_aload hx hb dX12_isMade_89 (lv_at hl 0 rfl) ?_
          refine va_get hx hb hts hinX8 hown hK (hM.Pa (hR.k23 (j := lkj g nL ((i * 6 + v) * 6 + f) k) (by omega)).1 rfl (hR.k23 (j := lkj g nL ((i * 6 + v) * 6 + f) k) (by omega)).2) 0 rfl rfl 0 (by decide) (hk11) (fun _ h9 => h9) rfl dX12_isMade_91 ?_
          refine lv_aload hx hb dX12_isMade_94 (lv_at hl 0 rfl) ?_
          refine va_get hx hb hts hinX8 hown hK (hM.Pa (hR.k23 (j := lkj g nL ((i * 6 + v) * 6 + f) k) (by omega)).1 rfl (hR.k23 (j := lkj g nL ((i * 6 + v) * 6 + f) k) (by omega)).2) 0 rfl rfl 1 (by decide) (hk12) (fun _ h9 => h9) rfl dX12_isMade_96 ?_
          refine lv_aload hx hb dX12_isMade_99 (lv_at hl 0 rfl) ?_
          refine va_get hx hb hts hinX8 hown hK (hM.Pa (hR.k23 (j := lkj g nL ((i * 6 + v) * 6 + f) k) (by omega)).1 rfl (hR.k23 (j := lkj g nL ((i * 6 + v) * 6 + f) k) (by omega)).2) 0 rfl rfl 2 (by decide) (hk13) (fun _ h9 => h9) rfl dX12_isMade_101 ?_
          refine lv_iload hx hb dX12_isMade_104 (lv_at hl 7 rfl) ?_
          refine lv_iload hx hb dX12_isMade_106 (lv_at hl 8 rfl) ?_
          refine lv_iload hx hb dX12_isMade_108 (lv_at hl 9 rfl) ?_
          refine zcVi (As := [.int (nI (cn (g 16 (lkj g nL ((i * 6 + v) * 6 + f) k)) / 36)), .int (nI (cn (g 16 (lkj g nL ((i * 6 + v) * 6 + f) k)) / 6 % 6)), .int (nI (cn (g 16 (lkj g nL ((i * 6 + v) * 6 + f) k)) % 6)), .int (nI i2), .int (nI v2), .int (nI f2)]) (rest := []) ⟨hx, hb, hml, hown, hts⟩ (c_X12_isMade_3 l D ty A u C ma t0 mi g n1 n2 nL n4 n5 th rep bro hR (cn (g 16 (lkj g nL ((i * 6 + v) * 6 + f) k)) / 36) (cn (g 16 (lkj g nL ((i * 6 + v) * 6 + f) k)) / 6 % 6) (cn (g 16 (lkj g nL ((i * 6 + v) * 6 + f) k)) % 6) i2 v2 f2 (by omega) (by omega) (by omega) (by omega) (by omega) (by omega) (by omega)) (cwV 6 hts gX12_isMade_X12_isMade rfl rfl rfl (by decide +kernel) ⟨Nat.le_of_ble_eq_true rfl, Nat.le_of_ble_eq_true rfl⟩) mI_blind (mI_pre hM hK hMS hS) (va_recv hK (hM.Pa hR.o.1 rfl hR.o.2) (ci := 13) (q0 := 0) rfl rfl) rfl hl.1 rfl (Nat.le_of_ble_eq_true rfl) dX12_isMade_110 ⟨Nat.le_of_ble_eq_true rfl, Nat.le_of_ble_eq_true rfl⟩ (fun r_20 hr_20 => ?_)
          subst hr_20
          refine zeq (show bI _ = bI (mdN g nL ((i2 * 6 + v2) * 6 + f2) 3 (cn (g 16 (lkj g nL ((i * 6 + v) * 6 + f) k)))) from by rw [show ((cn (g 16 (lkj g nL ((i * 6 + v) * 6 + f) k))) / 36 * 6 + (cn (g 16 (lkj g nL ((i * 6 + v) * 6 + f) k))) / 6 % 6) * 6 + (cn (g 16 (lkj g nL ((i * 6 + v) * 6 + f) k))) % 6 = (cn (g 16 (lkj g nL ((i * 6 + v) * 6 + f) k))) by omega]) ?_
          refine lv_if_eq (tgt := 118) hx hb dX12_isMade_113 (by decide) (fun c_21 => ?_) (fun c_21 => ?_)
          · have c_21 := bI_f c_21
            refine lv_iinc (v := nI (k + 1)) (lv' := [(8, .int (nI (k + 1))), (9, .ref (ma 23 (lkj g nL ((i * 6 + v) * 6 + f) k))), (7, .ref (ma 21 ((i * 6 + v) * 6 + f))), (0, .ref (ma 0 0)), (1, .int (nI i)), (2, .int (nI v)), (3, .int (nI f)), (4, .int (nI i2)), (5, .int (nI v2)), (6, .int (nI f2))]) hx hb dX12_isMade_118 hl (k := 1) rfl (nI_add k 1) (by decide) rfl (fun ls hl => ?_)
            refine lv_goto (tgt := 36) hx hb dX12_isMade_121 (by decide) ?_
            refine ih_k () ls (by omega) ⟨fun k9 h9 => (Nat.lt_or_ge k9 k).elim (hq_k k9) (fun h8 => by rw [show k9 = k by omega, c_21, decide_eq_false (by omega)]; rfl), show lv_has ls 10 [(8, .int (nI (k + 1))), (7, .ref (ma 21 ((i * 6 + v) * 6 + f))), (0, .ref (ma 0 0)), (1, .int (nI i)), (2, .int (nI v)), (3, .int (nI f)), (4, .int (nI i2)), (5, .int (nI v2)), (6, .int (nI f2))] from ?_⟩
            exact lv_sub hl [0, 2, 3, 4, 5, 6, 7, 8, 9] rfl
          · have c_21 := bI_t c_21
            refine lv_iconst (v := nI 1) hx hb dX12_isMade_116 (by decide) ?_
            exact W.zret (v := nI 1) hx hb hr rfl (fun t ht hW => ⟨_, rfl, bI_n1 (mdN_t hkl9 (by rw [c_21, Bool.or_true])), ht⟩) (fun _ h => nomatch h) dX12_isMade_117
set_option maxHeartbeats 400000 in
set_option maxRecDepth 100000 in
theorem c_X12_isMade_5 (l : Launch) (D : va_G) (ty : Nat → ClassId) (A : Nat → Prop) (u : Nat → Nat → Prop) (C : Nat → Nat → va_E) (ma : Nat → Nat → Nat) (t0 mi : Nat) (g : Nat → Nat → Int32) (n1 n2 nL n4 n5 : Nat) (th : Int32) (rep bro : Nat → Nat → Int32) (hR : mR ty t0 g n1 n2 nL n4 n5 th rep bro u C ma) (i v f i2 v2 f2 : Nat) (hd : i < 5) (hi : i < n1) (hv : v < nV g i) (hf : f < 6) (hi2 : i2 < 8) (hv2 : v2 < 6) (hf2 : f2 < 6) : Met l yX12_isMade wsX12_isMade ({ frames := 7, cells := 0, slots := 0, locals := 180 }) (va_Pc [.ref (ma 0 0), .int (nI i), .int (nI v), .int (nI f), .int (nI i2), .int (nI v2), .int (nI f2)] (mI D ty A u C ma t0 mi)) (vp_Si (fun v_ => v_ = bI (mdN g nL ((i2 * 6 + v2) * 6 + f2) 5 ((i * 6 + v) * 6 + f)))) 0 0 (fun _ => False) := by
  refine zMet (cc := cX12_isMade) (maxL := 10) (ret := (some .boolean)) (by decide) rfl (Nat.le_of_ble_eq_true rfl) ?_
  intro p e s m below meth c hx hb hr hts hown hlocks hml hB ls hl
  obtain ⟨hM, hK, hMS⟩ := hB
  have hS : va_S A s.heap s.heap [] := va_S.rf
  have hbn := hR.I.b1
  have hbs := hR.I.b2
  have hbl := hR.I.bL
  have hbc := hR.I.b4
  have hbr := hR.I.b5
  have hv7 := (hR.I.v7 hi).2
  have hlen := hR.I.len (show (i * 6 + v) * 6 + f < 288 by omega)
  have hl : lv_has ls 10 [(0, .ref (ma 0 0)), (1, .int (nI i)), (2, .int (nI v)), (3, .int (nI f)), (4, .int (nI i2)), (5, .int (nI v2)), (6, .int (nI f2))] := hl
  have hinX12 : ∀ w ∈ wsX120, w ∈ wsX12_isMade := by decide +kernel
  have hk1 := hts (.fieldLink RX12 10 "DatamarketDeskModel" "sets" "Ljava/util/ArrayList;") (by decide +kernel)
  have hk2 := hts (.classLink RX12 49 "DatamarketDeskModel$DataSet") (by decide +kernel)
  have hinX7 : ∀ w ∈ wsX70, w ∈ wsX12_isMade := by decide +kernel
  have hk4 := hts (.fieldLink RX12 69 "DatamarketDeskModel$DataSet" "versions" "Ljava/util/ArrayList;") (by decide +kernel)
  have hk5 := hts (.classLink RX12 72 "DatamarketDeskModel$Version") (by decide +kernel)
  have hinX11 : ∀ w ∈ wsX110, w ∈ wsX12_isMade := by decide +kernel
  have hk7 := hts (.fieldLink RX12 87 "DatamarketDeskModel$Version" "links" "Ljava/util/ArrayList;") (by decide +kernel)
  have hk8 := hts (.classLink RX12 7 "java/util/ArrayList") (by decide +kernel)
  have hk9 := hts (.classLink RX12 90 "DatamarketDeskModel$Link") (by decide +kernel)
  have hinX8 : ∀ w ∈ wsX80, w ∈ wsX12_isMade := by decide +kernel
  have hk11 := hts (.fieldLink RX12 92 "DatamarketDeskModel$Link" "set" "I") (by decide +kernel)
  have hk12 := hts (.fieldLink RX12 95 "DatamarketDeskModel$Link" "version" "I") (by decide +kernel)
  have hk13 := hts (.fieldLink RX12 98 "DatamarketDeskModel$Link" "field" "I") (by decide +kernel)
  refine lv_aload_n hx hb dX12_isMade_0 rfl (lv_at hl 0 rfl) ?_
  refine va_get hx hb hts hinX12 hown hK (hM.Pa hR.o.1 rfl hR.o.2) 0 rfl rfl 1 (by decide) (hk1) (fun _ h9 => h9) rfl dX12_isMade_1 ?_
  refine lv_iload_n hx hb dX12_isMade_4 rfl (lv_at hl 1 rfl) ?_
  obtain ⟨huz_1, hnz_1, mz_1, bz_1, hCz_1⟩ := isL.hd hR.l1
  refine zcVr (x := .ref (ma 9 i)) (As := [.int (nI i)]) (rest := []) ⟨hx, hb, hml, hown, hts⟩ (c_get l D ty A u C ma t0 mi 1 0 n1 (ma 9) hR.l1 i (by omega)) (cwV 1 hts gX12_isMade_Jx4a65c_get_915e3 rfl rfl rfl (by decide +kernel) ⟨Nat.le_of_ble_eq_true rfl, Nat.le_of_ble_eq_true rfl⟩) mI_blind (mI_pre hM hK hMS hS) (va_recv hK (hM.Pa huz_1 rfl hCz_1) (ci := 0) (q0 := 0) rfl rfl) rfl hl.1 rfl (Nat.le_of_ble_eq_true rfl) dX12_isMade_5 ⟨Nat.le_of_ble_eq_true rfl, Nat.le_of_ble_eq_true rfl⟩ ?_
  refine va_castS hx hb hown (hk2) ((hK.1 8 _ rfl).2) (va_recv hK (hM.Pa (hR.s9 (i := i) (by omega)).1 rfl (hR.s9 (i := i) (by omega)).2) (ci := 8) (q0 := 0) rfl rfl) dX12_isMade_8 ?_
  refine va_get hx hb hts hinX7 hown hK (hM.Pa (hR.s9 (i := i) (by omega)).1 rfl (hR.s9 (i := i) (by omega)).2) 0 rfl rfl 3 (by decide) (hk4) (fun _ h9 => h9) rfl dX12_isMade_11 ?_
  refine lv_iload_n hx hb dX12_isMade_14 rfl (lv_at hl 2 rfl) ?_
  obtain ⟨huz_3, hnz_3, mz_3, bz_3, hCz_3⟩ := isL.hd (hR.s12 (i := i) (by omega))
  refine zcVr (x := .ref (ma 15 (i * 6 + v))) (As := [.int (nI v)]) (rest := []) ⟨hx, hb, hml, hown, hts⟩ (c_get l D ty A u C ma t0 mi 12 i (nV g i) (fun v => ma 15 (i * 6 + v)) (hR.s12 (i := i) (by omega)) v (by omega)) (cwV 1 hts gX12_isMade_Jx4a65c_get_915e3 rfl rfl rfl (by decide +kernel) ⟨Nat.le_of_ble_eq_true rfl, Nat.le_of_ble_eq_true rfl⟩) mI_blind (mI_pre hM hK hMS hS) (va_recv hK (hM.Pa huz_3 rfl hCz_3) (ci := 0) (q0 := 0) rfl rfl) rfl hl.1 rfl (Nat.le_of_ble_eq_true rfl) dX12_isMade_15 ⟨Nat.le_of_ble_eq_true rfl, Nat.le_of_ble_eq_true rfl⟩ ?_
  refine va_castS hx hb hown (hk5) ((hK.1 12 _ rfl).2) (va_recv hK (hM.Pa (hR.v15 (i := i) (v := v) (by omega) (by omega)).1 rfl (hR.v15 (i := i) (v := v) (by omega) (by omega)).2) (ci := 12) (q0 := 0) rfl rfl) dX12_isMade_18 ?_
  refine va_get hx hb hts hinX11 hown hK (hM.Pa (hR.v15 (i := i) (v := v) (by omega) (by omega)).1 rfl (hR.v15 (i := i) (v := v) (by omega) (by omega)).2) 0 rfl rfl 4 (by decide) (hk7) (fun _ h9 => h9) rfl dX12_isMade_21 ?_
  refine lv_iload_n hx hb dX12_isMade_24 rfl (lv_at hl 3 rfl) ?_
  obtain ⟨huz_5, hnz_5, mz_5, bz_5, hCz_5⟩ := isL.hd (hR.v19 (i := i) (v := v) (by omega) (by omega))
  refine zcVr (x := .ref (ma 21 ((i * 6 + v) * 6 + f))) (As := [.int (nI f)]) (rest := []) ⟨hx, hb, hml, hown, hts⟩ (c_get l D ty A u C ma t0 mi 19 (i * 6 + v) 6 (fun f => ma 21 ((i * 6 + v) * 6 + f)) (hR.v19 (i := i) (v := v) (by omega) (by omega)) f (by omega)) (cwV 1 hts gX12_isMade_Jx4a65c_get_915e3 rfl rfl rfl (by decide +kernel) ⟨Nat.le_of_ble_eq_true rfl, Nat.le_of_ble_eq_true rfl⟩) mI_blind (mI_pre hM hK hMS hS) (va_recv hK (hM.Pa huz_5 rfl hCz_5) (ci := 0) (q0 := 0) rfl rfl) rfl hl.1 rfl (Nat.le_of_ble_eq_true rfl) dX12_isMade_25 ⟨Nat.le_of_ble_eq_true rfl, Nat.le_of_ble_eq_true rfl⟩ ?_
  obtain ⟨huz_7, hnz_7, mz_7, bz_7, hCz_7⟩ := isL.hd (hR.v21 (i := i) (v := v) (f := f) (by omega) (by omega) (by omega))
  refine va_castS hx hb hown (hk8) ((hK.1 0 _ rfl).2) (va_recv hK (hM.Pa huz_7 rfl hCz_7) (ci := 0) (q0 := 0) rfl rfl) dX12_isMade_28 ?_
  refine lv_astore (lv' := [(7, .ref (ma 21 ((i * 6 + v) * 6 + f))), (0, .ref (ma 0 0)), (1, .int (nI i)), (2, .int (nI v)), (3, .int (nI f)), (4, .int (nI i2)), (5, .int (nI v2)), (6, .int (nI f2))]) hx hb dX12_isMade_31 hl (by decide) rfl (fun ls hl => ?_)
  refine lv_iconst (v := nI 0) hx hb dX12_isMade_33 (by decide) ?_
  refine lv_istore (lv' := [(8, .int (nI 0)), (7, .ref (ma 21 ((i * 6 + v) * 6 + f))), (0, .ref (ma 0 0)), (1, .int (nI i)), (2, .int (nI v)), (3, .int (nI f)), (4, .int (nI i2)), (5, .int (nI v2)), (6, .int (nI f2))]) hx hb dX12_isMade_34 hl (by decide) rfl (fun ls hl => ?_)
  refine zloopP (τ := Unit) (fun k _ ls => (∀ k9, k9 < k → (decide (cn (g 16 (lkj g nL ((i * 6 + v) * 6 + f) k9)) = ((i2 * 6 + v2) * 6 + f2)) || mdN g nL ((i2 * 6 + v2) * 6 + f2) 4 (cn (g 16 (lkj g nL ((i * 6 + v) * 6 + f) k9)))) = false) ∧ lv_has ls 10 [(8, .int (nI k)), (7, .ref (ma 21 ((i * 6 + v) * 6 + f))), (0, .ref (ma 0 0)), (1, .int (nI i)), (2, .int (nI v)), (3, .int (nI f)), (4, .int (nI i2)), (5, .int (nI v2)), (6, .int (nI f2))]) ((lkl g nL ((i * 6 + v) * 6 + f)).length) ?_ 0 () ls (Nat.zero_le _) ⟨(fun _ h => absurd h (Nat.not_lt_zero _)), lv_sub hl [0, 1, 2, 3, 4, 5, 6, 7, 8] rfl⟩
  intro k _ ls hi_k hinv_k ih_k
  obtain ⟨hq_k, hl⟩ := hinv_k
  have hl : lv_has ls 10 [(8, .int (nI k)), (7, .ref (ma 21 ((i * 6 + v) * 6 + f))), (0, .ref (ma 0 0)), (1, .int (nI i)), (2, .int (nI v)), (3, .int (nI f)), (4, .int (nI i2)), (5, .int (nI v2)), (6, .int (nI f2))] := hl
  refine lv_iload hx hb dX12_isMade_36 (lv_at hl 0 rfl) ?_
  refine lv_aload hx hb dX12_isMade_38 (lv_at hl 1 rfl) ?_
  obtain ⟨huz_8, hnz_8, mz_8, bz_8, hCz_8⟩ := isL.hd (hR.v21 (i := i) (v := v) (f := f) (by omega) (by omega) (by omega))
  refine zcVi (As := []) (rest := [.int (nI k)]) ⟨hx, hb, hml, hown, hts⟩ (c_size l D ty A u C ma t0 mi 21 ((i * 6 + v) * 6 + f) ((lkl g nL ((i * 6 + v) * 6 + f)).length) (fun k => ma 23 (lkj g nL ((i * 6 + v) * 6 + f) k)) (hR.v21 (i := i) (v := v) (f := f) (by omega) (by omega) (by omega))) (cwV 0 hts gX12_isMade_Jx4a65c_size_8abf5 rfl rfl rfl (by decide +kernel) ⟨Nat.le_of_ble_eq_true rfl, Nat.le_of_ble_eq_true rfl⟩) mI_blind (mI_pre hM hK hMS hS) (va_recv hK (hM.Pa huz_8 rfl hCz_8) (ci := 0) (q0 := 0) rfl rfl) rfl hl.1 rfl (Nat.le_of_ble_eq_true rfl) dX12_isMade_40 ⟨Nat.le_of_ble_eq_true rfl, Nat.le_of_ble_eq_true rfl⟩ (fun r_9 hr_9 => ?_)
  subst hr_9
  refine lv_icmp_ge (tgt := 124) hx hb dX12_isMade_43 (by decide) (fun c_10 => ?_) (fun c_10 => ?_)
  · have c_10 := zn_geT (a := k) (b := ((lkl g nL ((i * 6 + v) * 6 + f)).length)) (by omega) (by omega) c_10
    obtain e9 : (lkl g nL ((i * 6 + v) * 6 + f)).length = k := by omega
    refine lv_iconst (v := nI 0) hx hb dX12_isMade_124 (by decide) ?_
    exact W.zret (v := nI 0) hx hb hr rfl (fun t ht hW => ⟨_, rfl, bI_n0 (mdN_f (fun k9 h9 => hq_k k9 (by omega))), ht⟩) (fun _ h => nomatch h) dX12_isMade_125
  · have c_10 := zn_geF (a := k) (b := ((lkl g nL ((i * 6 + v) * 6 + f)).length)) (by omega) (by omega) c_10
    have hkl9 : k < (lkl g nL ((i * 6 + v) * 6 + f)).length := c_10
    have hj := lkj_mem hkl9
    have hj1 := hj.1
    have hp15 : cn (g 15 (lkj g nL ((i * 6 + v) * 6 + f) k)) = (i * 6 + v) * 6 + f := by rw [hj.2]; exact cn_nI (by omega)
    have hlp := hR.I.lkp hj1
    have hlb := (hR.I.lk hj1).2.2
    rw [hp15] at hlp
    refine lv_aload hx hb dX12_isMade_46 (lv_at hl 1 rfl) ?_
    refine lv_iload hx hb dX12_isMade_48 (lv_at hl 0 rfl) ?_
    obtain ⟨huz_11, hnz_11, mz_11, bz_11, hCz_11⟩ := isL.hd (hR.v21 (i := i) (v := v) (f := f) (by omega) (by omega) (by omega))
    refine zcVr (x := .ref (ma 23 (lkj g nL ((i * 6 + v) * 6 + f) k))) (As := [.int (nI k)]) (rest := []) ⟨hx, hb, hml, hown, hts⟩ (c_get l D ty A u C ma t0 mi 21 ((i * 6 + v) * 6 + f) ((lkl g nL ((i * 6 + v) * 6 + f)).length) (fun k => ma 23 (lkj g nL ((i * 6 + v) * 6 + f) k)) (hR.v21 (i := i) (v := v) (f := f) (by omega) (by omega) (by omega)) k (by omega)) (cwV 1 hts gX12_isMade_Jx4a65c_get_915e3 rfl rfl rfl (by decide +kernel) ⟨Nat.le_of_ble_eq_true rfl, Nat.le_of_ble_eq_true rfl⟩) mI_blind (mI_pre hM hK hMS hS) (va_recv hK (hM.Pa huz_11 rfl hCz_11) (ci := 0) (q0 := 0) rfl rfl) rfl hl.1 rfl (Nat.le_of_ble_eq_true rfl) dX12_isMade_50 ⟨Nat.le_of_ble_eq_true rfl, Nat.le_of_ble_eq_true rfl⟩ ?_
    refine va_castS hx hb hown (hk9) ((hK.1 9 _ rfl).2) (va_recv hK (hM.Pa (hR.k23 (j := lkj g nL ((i * 6 + v) * 6 + f) k) (by omega)).1 rfl (hR.k23 (j := lkj g nL ((i * 6 + v) * 6 + f) k) (by omega)).2) (ci := 9) (q0 := 0) rfl rfl) dX12_isMade_53 ?_
    refine lv_astore (lv' := [(9, .ref (ma 23 (lkj g nL ((i * 6 + v) * 6 + f) k))), (8, .int (nI k)), (7, .ref (ma 21 ((i * 6 + v) * 6 + f))), (0, .ref (ma 0 0)), (1, .int (nI i)), (2, .int (nI v)), (3, .int (nI f)), (4, .int (nI i2)), (5, .int (nI v2)), (6, .int (nI f2))]) hx hb dX12_isMade_56 hl (by decide) rfl (fun ls hl => ?_)
    refine lv_aload hx hb dX12_isMade_58 (lv_at hl 0 rfl) ?_
    refine va_get hx hb hts hinX8 hown hK (hM.Pa (hR.k23 (j := lkj g nL ((i * 6 + v) * 6 + f) k) (by omega)).1 rfl (hR.k23 (j := lkj g nL ((i * 6 + v) * 6 + f) k) (by omega)).2) 0 rfl rfl 0 (by decide) (hk11) (fun _ h9 => h9) rfl dX12_isMade_60 ?_
    refine lv_iload hx hb dX12_isMade_63 (lv_at hl 7 rfl) ?_
    refine lv_icmp_ne (tgt := 88) hx hb dX12_isMade_65 (by decide) (fun c_13 => ?_) (fun c_13 => ?_)
    · have c_13 := zn_neT (a := (cn (g 16 (lkj g nL ((i * 6 + v) * 6 + f) k)) / 36)) (b := i2) (by omega) (by omega) c_13
      refine lv_aload_n hx hb dX12_isMade_88 rfl (lv_at hl 3 rfl) ?_
      refine lv_aload hx hb dX12_isMade_89 (lv_at hl 0 rfl) ?_
      refine va_get hx hb hts hinX8 hown hK (hM.Pa (hR.k23 (j := lkj g nL ((i * 6 + v) * 6 + f) k) (by omega)).1 rfl (hR.k23 (j := lkj g nL ((i * 6 + v) * 6 + f) k) (by omega)).2) 0 rfl rfl 0 (by decide) (hk11) (fun _ h9 => h9) rfl dX12_isMade_91 ?_
      refine lv_aload hx hb dX12_isMade_94 (lv_at hl 0 rfl) ?_
      refine va_get hx hb hts hinX8 hown hK (hM.Pa (hR.k23 (j := lkj g nL ((i * 6 + v) * 6 + f) k) (by omega)).1 rfl (hR.k23 (j := lkj g nL ((i * 6 + v) * 6 + f) k) (by omega)).2) 0 rfl rfl 1 (by decide) (hk12) (fun _ h9 => h9) rfl dX12_isMade_96 ?_
      refine lv_aload hx hb dX12_isMade_99 (lv_at hl 0 rfl) ?_
      refine va_get hx hb hts hinX8 hown hK (hM.Pa (hR.k23 (j := lkj g nL ((i * 6 + v) * 6 + f) k) (by omega)).1 rfl (hR.k23 (j := lkj g nL ((i * 6 + v) * 6 + f) k) (by omega)).2) 0 rfl rfl 2 (by decide) (hk13) (fun _ h9 => h9) rfl dX12_isMade_101 ?_
      refine lv_iload hx hb dX12_isMade_104 (lv_at hl 7 rfl) ?_
      refine lv_iload hx hb dX12_isMade_106 (lv_at hl 8 rfl) ?_
      refine lv_iload hx hb dX12_isMade_108 (lv_at hl 9 rfl) ?_
      refine zcVi (As := [.int (nI (cn (g 16 (lkj g nL ((i * 6 + v) * 6 + f) k)) / 36)), .int (nI (cn (g 16 (lkj g nL ((i * 6 + v) * 6 + f) k)) / 6 % 6)), .int (nI (cn (g 16 (lkj g nL ((i * 6 + v) * 6 + f) k)) % 6)), .int (nI i2), .int (nI v2), .int (nI f2)]) (rest := []) ⟨hx, hb, hml, hown, hts⟩ (c_X12_isMade_4 l D ty A u C ma t0 mi g n1 n2 nL n4 n5 th rep bro hR (cn (g 16 (lkj g nL ((i * 6 + v) * 6 + f) k)) / 36) (cn (g 16 (lkj g nL ((i * 6 + v) * 6 + f) k)) / 6 % 6) (cn (g 16 (lkj g nL ((i * 6 + v) * 6 + f) k)) % 6) i2 v2 f2 (by omega) (by omega) (by omega) (by omega) (by omega) (by omega) (by omega)) (cwV 6 hts gX12_isMade_X12_isMade rfl rfl rfl (by decide +kernel) ⟨Nat.le_of_ble_eq_true rfl, Nat.le_of_ble_eq_true rfl⟩) mI_blind (mI_pre hM hK hMS hS) (va_recv hK (hM.Pa hR.o.1 rfl hR.o.2) (ci := 13) (q0 := 0) rfl rfl) rfl hl.1 rfl (Nat.le_of_ble_eq_true rfl) dX12_isMade_110 ⟨Nat.le_of_ble_eq_true rfl, Nat.le_of_ble_eq_true rfl⟩ (fun r_14 hr_14 => ?_)
      subst hr_14
      refine zeq (show bI _ = bI (mdN g nL ((i2 * 6 + v2) * 6 + f2) 4 (cn (g 16 (lkj g nL ((i * 6 + v) * 6 + f) k)))) from by rw [show ((cn (g 16 (lkj g nL ((i * 6 + v) * 6 + f) k))) / 36 * 6 + (cn (g 16 (lkj g nL ((i * 6 + v) * 6 + f) k))) / 6 % 6) * 6 + (cn (g 16 (lkj g nL ((i * 6 + v) * 6 + f) k))) % 6 = (cn (g 16 (lkj g nL ((i * 6 + v) * 6 + f) k))) by omega]) ?_
      refine lv_if_eq (tgt := 118) hx hb dX12_isMade_113 (by decide) (fun c_15 => ?_) (fun c_15 => ?_)
      · have c_15 := bI_f c_15
        refine lv_iinc (v := nI (k + 1)) (lv' := [(8, .int (nI (k + 1))), (9, .ref (ma 23 (lkj g nL ((i * 6 + v) * 6 + f) k))), (7, .ref (ma 21 ((i * 6 + v) * 6 + f))), (0, .ref (ma 0 0)), (1, .int (nI i)), (2, .int (nI v)), (3, .int (nI f)), (4, .int (nI i2)), (5, .int (nI v2)), (6, .int (nI f2))]) hx hb dX12_isMade_118 hl (k := 1) rfl (nI_add k 1) (by decide) rfl (fun ls hl => ?_)
        refine lv_goto (tgt := 36) hx hb dX12_isMade_121 (by decide) ?_
        refine ih_k () ls (by omega) ⟨fun k9 h9 => (Nat.lt_or_ge k9 k).elim (hq_k k9) (fun h8 => by rw [show k9 = k by omega, c_15, decide_eq_false (by omega)]; rfl), show lv_has ls 10 [(8, .int (nI (k + 1))), (7, .ref (ma 21 ((i * 6 + v) * 6 + f))), (0, .ref (ma 0 0)), (1, .int (nI i)), (2, .int (nI v)), (3, .int (nI f)), (4, .int (nI i2)), (5, .int (nI v2)), (6, .int (nI f2))] from ?_⟩
        exact lv_sub hl [0, 2, 3, 4, 5, 6, 7, 8, 9] rfl
      · have c_15 := bI_t c_15
        refine lv_iconst (v := nI 1) hx hb dX12_isMade_116 (by decide) ?_
        exact W.zret (v := nI 1) hx hb hr rfl (fun t ht hW => ⟨_, rfl, bI_n1 (mdN_t hkl9 (by rw [c_15, Bool.or_true])), ht⟩) (fun _ h => nomatch h) dX12_isMade_117
    · have c_13 := zn_neF (a := (cn (g 16 (lkj g nL ((i * 6 + v) * 6 + f) k)) / 36)) (b := i2) (by omega) (by omega) c_13
      refine lv_aload hx hb dX12_isMade_68 (lv_at hl 0 rfl) ?_
      refine va_get hx hb hts hinX8 hown hK (hM.Pa (hR.k23 (j := lkj g nL ((i * 6 + v) * 6 + f) k) (by omega)).1 rfl (hR.k23 (j := lkj g nL ((i * 6 + v) * 6 + f) k) (by omega)).2) 0 rfl rfl 1 (by decide) (hk12) (fun _ h9 => h9) rfl dX12_isMade_70 ?_
      refine lv_iload hx hb dX12_isMade_73 (lv_at hl 8 rfl) ?_
      refine lv_icmp_ne (tgt := 88) hx hb dX12_isMade_75 (by decide) (fun c_16 => ?_) (fun c_16 => ?_)
      · have c_16 := zn_neT (a := (cn (g 16 (lkj g nL ((i * 6 + v) * 6 + f) k)) / 6 % 6)) (b := v2) (by omega) (by omega) c_16
        refine lv_aload_n hx hb dX12_isMade_88 rfl (lv_at hl 3 rfl) ?_
        refine lv_aload hx hb dX12_isMade_89 (lv_at hl 0 rfl) ?_
        refine va_get hx hb hts hinX8 hown hK (hM.Pa (hR.k23 (j := lkj g nL ((i * 6 + v) * 6 + f) k) (by omega)).1 rfl (hR.k23 (j := lkj g nL ((i * 6 + v) * 6 + f) k) (by omega)).2) 0 rfl rfl 0 (by decide) (hk11) (fun _ h9 => h9) rfl dX12_isMade_91 ?_
        refine lv_aload hx hb dX12_isMade_94 (lv_at hl 0 rfl) ?_
        refine va_get hx hb hts hinX8 hown hK (hM.Pa (hR.k23 (j := lkj g nL ((i * 6 + v) * 6 + f) k) (by omega)).1 rfl (hR.k23 (j := lkj g nL ((i * 6 + v) * 6 + f) k) (by omega)).2) 0 rfl rfl 1 (by decide) (hk12) (fun _ h9 => h9) rfl dX12_isMade_96 ?_
        refine lv_aload hx hb dX12_isMade_99 (lv_at hl 0 rfl) ?_
        refine va_get hx hb hts hinX8 hown hK (hM.Pa (hR.k23 (j := lkj g nL ((i * 6 + v) * 6 + f) k) (by omega)).1 rfl (hR.k23 (j := lkj g nL ((i * 6 + v) * 6 + f) k) (by omega)).2) 0 rfl rfl 2 (by decide) (hk13) (fun _ h9 => h9) rfl dX12_isMade_101 ?_
        refine lv_iload hx hb dX12_isMade_104 (lv_at hl 7 rfl) ?_
        refine lv_iload hx hb dX12_isMade_106 (lv_at hl 8 rfl) ?_
        refine lv_iload hx hb dX12_isMade_108 (lv_at hl 9 rfl) ?_
        refine zcVi (As := [.int (nI (cn (g 16 (lkj g nL ((i * 6 + v) * 6 + f) k)) / 36)), .int (nI (cn (g 16 (lkj g nL ((i * 6 + v) * 6 + f) k)) / 6 % 6)), .int (nI (cn (g 16 (lkj g nL ((i * 6 + v) * 6 + f) k)) % 6)), .int (nI i2), .int (nI v2), .int (nI f2)]) (rest := []) ⟨hx, hb, hml, hown, hts⟩ (c_X12_isMade_4 l D ty A u C ma t0 mi g n1 n2 nL n4 n5 th rep bro hR (cn (g 16 (lkj g nL ((i * 6 + v) * 6 + f) k)) / 36) (cn (g 16 (lkj g nL ((i * 6 + v) * 6 + f) k)) / 6 % 6) (cn (g 16 (lkj g nL ((i * 6 + v) * 6 + f) k)) % 6) i2 v2 f2 (by omega) (by omega) (by omega) (by omega) (by omega) (by omega) (by omega)) (cwV 6 hts gX12_isMade_X12_isMade rfl rfl rfl (by decide +kernel) ⟨Nat.le_of_ble_eq_true rfl, Nat.le_of_ble_eq_true rfl⟩) mI_blind (mI_pre hM hK hMS hS) (va_recv hK (hM.Pa hR.o.1 rfl hR.o.2) (ci := 13) (q0 := 0) rfl rfl) rfl hl.1 rfl (Nat.le_of_ble_eq_true rfl) dX12_isMade_110 ⟨Nat.le_of_ble_eq_true rfl, Nat.le_of_ble_eq_true rfl⟩ (fun r_17 hr_17 => ?_)
        subst hr_17
        refine zeq (show bI _ = bI (mdN g nL ((i2 * 6 + v2) * 6 + f2) 4 (cn (g 16 (lkj g nL ((i * 6 + v) * 6 + f) k)))) from by rw [show ((cn (g 16 (lkj g nL ((i * 6 + v) * 6 + f) k))) / 36 * 6 + (cn (g 16 (lkj g nL ((i * 6 + v) * 6 + f) k))) / 6 % 6) * 6 + (cn (g 16 (lkj g nL ((i * 6 + v) * 6 + f) k))) % 6 = (cn (g 16 (lkj g nL ((i * 6 + v) * 6 + f) k))) by omega]) ?_
        refine lv_if_eq (tgt := 118) hx hb dX12_isMade_113 (by decide) (fun c_18 => ?_) (fun c_18 => ?_)
        · have c_18 := bI_f c_18
          refine lv_iinc (v := nI (k + 1)) (lv' := [(8, .int (nI (k + 1))), (9, .ref (ma 23 (lkj g nL ((i * 6 + v) * 6 + f) k))), (7, .ref (ma 21 ((i * 6 + v) * 6 + f))), (0, .ref (ma 0 0)), (1, .int (nI i)), (2, .int (nI v)), (3, .int (nI f)), (4, .int (nI i2)), (5, .int (nI v2)), (6, .int (nI f2))]) hx hb dX12_isMade_118 hl (k := 1) rfl (nI_add k 1) (by decide) rfl (fun ls hl => ?_)
          refine lv_goto (tgt := 36) hx hb dX12_isMade_121 (by decide) ?_
          refine ih_k () ls (by omega) ⟨fun k9 h9 => (Nat.lt_or_ge k9 k).elim (hq_k k9) (fun h8 => by rw [show k9 = k by omega, c_18, decide_eq_false (by omega)]; rfl), show lv_has ls 10 [(8, .int (nI (k + 1))), (7, .ref (ma 21 ((i * 6 + v) * 6 + f))), (0, .ref (ma 0 0)), (1, .int (nI i)), (2, .int (nI v)), (3, .int (nI f)), (4, .int (nI i2)), (5, .int (nI v2)), (6, .int (nI f2))] from ?_⟩
          exact lv_sub hl [0, 2, 3, 4, 5, 6, 7, 8, 9] rfl
        · have c_18 := bI_t c_18
          refine lv_iconst (v := nI 1) hx hb dX12_isMade_116 (by decide) ?_
          exact W.zret (v := nI 1) hx hb hr rfl (fun t ht hW => ⟨_, rfl, bI_n1 (mdN_t hkl9 (by rw [c_18, Bool.or_true])), ht⟩) (fun _ h => nomatch h) dX12_isMade_117
      · have c_16 := zn_neF (a := (cn (g 16 (lkj g nL ((i * 6 + v) * 6 + f) k)) / 6 % 6)) (b := v2) (by omega) (by omega) c_16
        refine lv_aload hx hb dX12_isMade_78 (lv_at hl 0 rfl) ?_
        refine va_get hx hb hts hinX8 hown hK (hM.Pa (hR.k23 (j := lkj g nL ((i * 6 + v) * 6 + f) k) (by omega)).1 rfl (hR.k23 (j := lkj g nL ((i * 6 + v) * 6 + f) k) (by omega)).2) 0 rfl rfl 2 (by decide) (hk13) (fun _ h9 => h9) rfl dX12_isMade_80 ?_
        refine lv_iload hx hb dX12_isMade_83 (lv_at hl 9 rfl) ?_
        refine lv_icmp_eq (tgt := 116) hx hb dX12_isMade_85 (by decide) (fun c_19 => ?_) (fun c_19 => ?_)
        · have c_19 := zn_eqT (a := (cn (g 16 (lkj g nL ((i * 6 + v) * 6 + f) k)) % 6)) (b := f2) (by omega) (by omega) c_19
          refine lv_iconst (v := nI 1) hx hb dX12_isMade_116 (by decide) ?_
          exact W.zret (v := nI 1) hx hb hr rfl (fun t ht hW => ⟨_, rfl, bI_n1 (mdN_t hkl9 (by rw [decide_eq_true (by omega), Bool.true_or])), ht⟩) (fun _ h => nomatch h) dX12_isMade_117
        · have c_19 := zn_eqF (a := (cn (g 16 (lkj g nL ((i * 6 + v) * 6 + f) k)) % 6)) (b := f2) (by omega) (by omega) c_19
          refine lv_aload_n hx hb dX12_isMade_88 rfl (lv_at hl 3 rfl) ?_
          refine lv_aload hx hb dX12_isMade_89 (lv_at hl 0 rfl) ?_
          refine va_get hx hb hts hinX8 hown hK (hM.Pa (hR.k23 (j := lkj g nL ((i * 6 + v) * 6 + f) k) (by omega)).1 rfl (hR.k23 (j := lkj g nL ((i * 6 + v) * 6 + f) k) (by omega)).2) 0 rfl rfl 0 (by decide) (hk11) (fun _ h9 => h9) rfl dX12_isMade_91 ?_
          refine lv_aload hx hb dX12_isMade_94 (lv_at hl 0 rfl) ?_
          refine va_get hx hb hts hinX8 hown hK (hM.Pa (hR.k23 (j := lkj g nL ((i * 6 + v) * 6 + f) k) (by omega)).1 rfl (hR.k23 (j := lkj g nL ((i * 6 + v) * 6 + f) k) (by omega)).2) 0 rfl rfl 1 (by decide) (hk12) (fun _ h9 => h9) rfl dX12_isMade_96 ?_
          refine lv_aload hx hb dX12_isMade_99 (lv_at hl 0 rfl) ?_
          refine va_get hx hb hts hinX8 hown hK (hM.Pa (hR.k23 (j := lkj g nL ((i * 6 + v) * 6 + f) k) (by omega)).1 rfl (hR.k23 (j := lkj g nL ((i * 6 + v) * 6 + f) k) (by omega)).2) 0 rfl rfl 2 (by decide) (hk13) (fun _ h9 => h9) rfl dX12_isMade_101 ?_
          refine lv_iload hx hb dX12_isMade_104 (lv_at hl 7 rfl) ?_
          refine lv_iload hx hb dX12_isMade_106 (lv_at hl 8 rfl) ?_
          refine lv_iload hx hb dX12_isMade_108 (lv_at hl 9 rfl) ?_
          refine zcVi (As := [.int (nI (cn (g 16 (lkj g nL ((i * 6 + v) * 6 + f) k)) / 36)), .int (nI (cn (g 16 (lkj g nL ((i * 6 + v) * 6 + f) k)) / 6 % 6)), .int (nI (cn (g 16 (lkj g nL ((i * 6 + v) * 6 + f) k)) % 6)), .int (nI i2), .int (nI v2), .int (nI f2)]) (rest := []) ⟨hx, hb, hml, hown, hts⟩ (c_X12_isMade_4 l D ty A u C ma t0 mi g n1 n2 nL n4 n5 th rep bro hR (cn (g 16 (lkj g nL ((i * 6 + v) * 6 + f) k)) / 36) (cn (g 16 (lkj g nL ((i * 6 + v) * 6 + f) k)) / 6 % 6) (cn (g 16 (lkj g nL ((i * 6 + v) * 6 + f) k)) % 6) i2 v2 f2 (by omega) (by omega) (by omega) (by omega) (by omega) (by omega) (by omega)) (cwV 6 hts gX12_isMade_X12_isMade rfl rfl rfl (by decide +kernel) ⟨Nat.le_of_ble_eq_true rfl, Nat.le_of_ble_eq_true rfl⟩) mI_blind (mI_pre hM hK hMS hS) (va_recv hK (hM.Pa hR.o.1 rfl hR.o.2) (ci := 13) (q0 := 0) rfl rfl) rfl hl.1 rfl (Nat.le_of_ble_eq_true rfl) dX12_isMade_110 ⟨Nat.le_of_ble_eq_true rfl, Nat.le_of_ble_eq_true rfl⟩ (fun r_20 hr_20 => ?_)
          subst hr_20
          refine zeq (show bI _ = bI (mdN g nL ((i2 * 6 + v2) * 6 + f2) 4 (cn (g 16 (lkj g nL ((i * 6 + v) * 6 + f) k)))) from by rw [show ((cn (g 16 (lkj g nL ((i * 6 + v) * 6 + f) k))) / 36 * 6 + (cn (g 16 (lkj g nL ((i * 6 + v) * 6 + f) k))) / 6 % 6) * 6 + (cn (g 16 (lkj g nL ((i * 6 + v) * 6 + f) k))) % 6 = (cn (g 16 (lkj g nL ((i * 6 + v) * 6 + f) k))) by omega]) ?_
          refine lv_if_eq (tgt := 118) hx hb dX12_isMade_113 (by decide) (fun c_21 => ?_) (fun c_21 => ?_)
          · have c_21 := bI_f c_21
            refine lv_iinc (v := nI (k + 1)) (lv' := [(8, .int (nI (k + 1))), (9, .ref (ma 23 (lkj g nL ((i * 6 + v) * 6 + f) k))), (7, .ref (ma 21 ((i * 6 + v) * 6 + f))), (0, .ref (ma 0 0)), (1, .int (nI i)), (2, .int (nI v)), (3, .int (nI f)), (4, .int (nI i2)), (5, .int (nI v2)), (6, .int (nI f2))]) hx hb dX12_isMade_118 hl (k := 1) rfl (nI_add k 1) (by decide) rfl (fun ls hl => ?_)
            refine lv_goto (tgt := 36) hx hb dX12_isMade_121 (by decide) ?_
            refine ih_k () ls (by omega) ⟨fun k9 h9 => (Nat.lt_or_ge k9 k).elim (hq_k k9) (fun h8 => by rw [show k9 = k by omega, c_21, decide_eq_false (by omega)]; rfl), show lv_has ls 10 [(8, .int (nI (k + 1))), (7, .ref (ma 21 ((i * 6 + v) * 6 + f))), (0, .ref (ma 0 0)), (1, .int (nI i)), (2, .int (nI v)), (3, .int (nI f)), (4, .int (nI i2)), (5, .int (nI v2)), (6, .int (nI f2))] from ?_⟩
            exact lv_sub hl [0, 2, 3, 4, 5, 6, 7, 8, 9] rfl
          · have c_21 := bI_t c_21
            refine lv_iconst (v := nI 1) hx hb dX12_isMade_116 (by decide) ?_
            exact W.zret (v := nI 1) hx hb hr rfl (fun t ht hW => ⟨_, rfl, bI_n1 (mdN_t hkl9 (by rw [c_21, Bool.or_true])), ht⟩) (fun _ h => nomatch h) dX12_isMade_117
set_option maxHeartbeats 400000 in
set_option maxRecDepth 100000 in
theorem c_X12_isMade_6 (l : Launch) (D : va_G) (ty : Nat → ClassId) (A : Nat → Prop) (u : Nat → Nat → Prop) (C : Nat → Nat → va_E) (ma : Nat → Nat → Nat) (t0 mi : Nat) (g : Nat → Nat → Int32) (n1 n2 nL n4 n5 : Nat) (th : Int32) (rep bro : Nat → Nat → Int32) (hR : mR ty t0 g n1 n2 nL n4 n5 th rep bro u C ma) (i v f i2 v2 f2 : Nat) (hd : i < 6) (hi : i < n1) (hv : v < nV g i) (hf : f < 6) (hi2 : i2 < 8) (hv2 : v2 < 6) (hf2 : f2 < 6) : Met l yX12_isMade wsX12_isMade ({ frames := 8, cells := 0, slots := 0, locals := 209 }) (va_Pc [.ref (ma 0 0), .int (nI i), .int (nI v), .int (nI f), .int (nI i2), .int (nI v2), .int (nI f2)] (mI D ty A u C ma t0 mi)) (vp_Si (fun v_ => v_ = bI (mdN g nL ((i2 * 6 + v2) * 6 + f2) 6 ((i * 6 + v) * 6 + f)))) 0 0 (fun _ => False) := by
  refine zMet (cc := cX12_isMade) (maxL := 10) (ret := (some .boolean)) (by decide) rfl (Nat.le_of_ble_eq_true rfl) ?_
  intro p e s m below meth c hx hb hr hts hown hlocks hml hB ls hl
  obtain ⟨hM, hK, hMS⟩ := hB
  have hS : va_S A s.heap s.heap [] := va_S.rf
  have hbn := hR.I.b1
  have hbs := hR.I.b2
  have hbl := hR.I.bL
  have hbc := hR.I.b4
  have hbr := hR.I.b5
  have hv7 := (hR.I.v7 hi).2
  have hlen := hR.I.len (show (i * 6 + v) * 6 + f < 288 by omega)
  have hl : lv_has ls 10 [(0, .ref (ma 0 0)), (1, .int (nI i)), (2, .int (nI v)), (3, .int (nI f)), (4, .int (nI i2)), (5, .int (nI v2)), (6, .int (nI f2))] := hl
  have hinX12 : ∀ w ∈ wsX120, w ∈ wsX12_isMade := by decide +kernel
  have hk1 := hts (.fieldLink RX12 10 "DatamarketDeskModel" "sets" "Ljava/util/ArrayList;") (by decide +kernel)
  have hk2 := hts (.classLink RX12 49 "DatamarketDeskModel$DataSet") (by decide +kernel)
  have hinX7 : ∀ w ∈ wsX70, w ∈ wsX12_isMade := by decide +kernel
  have hk4 := hts (.fieldLink RX12 69 "DatamarketDeskModel$DataSet" "versions" "Ljava/util/ArrayList;") (by decide +kernel)
  have hk5 := hts (.classLink RX12 72 "DatamarketDeskModel$Version") (by decide +kernel)
  have hinX11 : ∀ w ∈ wsX110, w ∈ wsX12_isMade := by decide +kernel
  have hk7 := hts (.fieldLink RX12 87 "DatamarketDeskModel$Version" "links" "Ljava/util/ArrayList;") (by decide +kernel)
  have hk8 := hts (.classLink RX12 7 "java/util/ArrayList") (by decide +kernel)
  have hk9 := hts (.classLink RX12 90 "DatamarketDeskModel$Link") (by decide +kernel)
  have hinX8 : ∀ w ∈ wsX80, w ∈ wsX12_isMade := by decide +kernel
  have hk11 := hts (.fieldLink RX12 92 "DatamarketDeskModel$Link" "set" "I") (by decide +kernel)
  have hk12 := hts (.fieldLink RX12 95 "DatamarketDeskModel$Link" "version" "I") (by decide +kernel)
  have hk13 := hts (.fieldLink RX12 98 "DatamarketDeskModel$Link" "field" "I") (by decide +kernel)
  refine lv_aload_n hx hb dX12_isMade_0 rfl (lv_at hl 0 rfl) ?_
  refine va_get hx hb hts hinX12 hown hK (hM.Pa hR.o.1 rfl hR.o.2) 0 rfl rfl 1 (by decide) (hk1) (fun _ h9 => h9) rfl dX12_isMade_1 ?_
  refine lv_iload_n hx hb dX12_isMade_4 rfl (lv_at hl 1 rfl) ?_
  obtain ⟨huz_1, hnz_1, mz_1, bz_1, hCz_1⟩ := isL.hd hR.l1
  refine zcVr (x := .ref (ma 9 i)) (As := [.int (nI i)]) (rest := []) ⟨hx, hb, hml, hown, hts⟩ (c_get l D ty A u C ma t0 mi 1 0 n1 (ma 9) hR.l1 i (by omega)) (cwV 1 hts gX12_isMade_Jx4a65c_get_915e3 rfl rfl rfl (by decide +kernel) ⟨Nat.le_of_ble_eq_true rfl, Nat.le_of_ble_eq_true rfl⟩) mI_blind (mI_pre hM hK hMS hS) (va_recv hK (hM.Pa huz_1 rfl hCz_1) (ci := 0) (q0 := 0) rfl rfl) rfl hl.1 rfl (Nat.le_of_ble_eq_true rfl) dX12_isMade_5 ⟨Nat.le_of_ble_eq_true rfl, Nat.le_of_ble_eq_true rfl⟩ ?_
  refine va_castS hx hb hown (hk2) ((hK.1 8 _ rfl).2) (va_recv hK (hM.Pa (hR.s9 (i := i) (by omega)).1 rfl (hR.s9 (i := i) (by omega)).2) (ci := 8) (q0 := 0) rfl rfl) dX12_isMade_8 ?_
  refine va_get hx hb hts hinX7 hown hK (hM.Pa (hR.s9 (i := i) (by omega)).1 rfl (hR.s9 (i := i) (by omega)).2) 0 rfl rfl 3 (by decide) (hk4) (fun _ h9 => h9) rfl dX12_isMade_11 ?_
  refine lv_iload_n hx hb dX12_isMade_14 rfl (lv_at hl 2 rfl) ?_
  obtain ⟨huz_3, hnz_3, mz_3, bz_3, hCz_3⟩ := isL.hd (hR.s12 (i := i) (by omega))
  refine zcVr (x := .ref (ma 15 (i * 6 + v))) (As := [.int (nI v)]) (rest := []) ⟨hx, hb, hml, hown, hts⟩ (c_get l D ty A u C ma t0 mi 12 i (nV g i) (fun v => ma 15 (i * 6 + v)) (hR.s12 (i := i) (by omega)) v (by omega)) (cwV 1 hts gX12_isMade_Jx4a65c_get_915e3 rfl rfl rfl (by decide +kernel) ⟨Nat.le_of_ble_eq_true rfl, Nat.le_of_ble_eq_true rfl⟩) mI_blind (mI_pre hM hK hMS hS) (va_recv hK (hM.Pa huz_3 rfl hCz_3) (ci := 0) (q0 := 0) rfl rfl) rfl hl.1 rfl (Nat.le_of_ble_eq_true rfl) dX12_isMade_15 ⟨Nat.le_of_ble_eq_true rfl, Nat.le_of_ble_eq_true rfl⟩ ?_
  refine va_castS hx hb hown (hk5) ((hK.1 12 _ rfl).2) (va_recv hK (hM.Pa (hR.v15 (i := i) (v := v) (by omega) (by omega)).1 rfl (hR.v15 (i := i) (v := v) (by omega) (by omega)).2) (ci := 12) (q0 := 0) rfl rfl) dX12_isMade_18 ?_
  refine va_get hx hb hts hinX11 hown hK (hM.Pa (hR.v15 (i := i) (v := v) (by omega) (by omega)).1 rfl (hR.v15 (i := i) (v := v) (by omega) (by omega)).2) 0 rfl rfl 4 (by decide) (hk7) (fun _ h9 => h9) rfl dX12_isMade_21 ?_
  refine lv_iload_n hx hb dX12_isMade_24 rfl (lv_at hl 3 rfl) ?_
  obtain ⟨huz_5, hnz_5, mz_5, bz_5, hCz_5⟩ := isL.hd (hR.v19 (i := i) (v := v) (by omega) (by omega))
  refine zcVr (x := .ref (ma 21 ((i * 6 + v) * 6 + f))) (As := [.int (nI f)]) (rest := []) ⟨hx, hb, hml, hown, hts⟩ (c_get l D ty A u C ma t0 mi 19 (i * 6 + v) 6 (fun f => ma 21 ((i * 6 + v) * 6 + f)) (hR.v19 (i := i) (v := v) (by omega) (by omega)) f (by omega)) (cwV 1 hts gX12_isMade_Jx4a65c_get_915e3 rfl rfl rfl (by decide +kernel) ⟨Nat.le_of_ble_eq_true rfl, Nat.le_of_ble_eq_true rfl⟩) mI_blind (mI_pre hM hK hMS hS) (va_recv hK (hM.Pa huz_5 rfl hCz_5) (ci := 0) (q0 := 0) rfl rfl) rfl hl.1 rfl (Nat.le_of_ble_eq_true rfl) dX12_isMade_25 ⟨Nat.le_of_ble_eq_true rfl, Nat.le_of_ble_eq_true rfl⟩ ?_
  obtain ⟨huz_7, hnz_7, mz_7, bz_7, hCz_7⟩ := isL.hd (hR.v21 (i := i) (v := v) (f := f) (by omega) (by omega) (by omega))
  refine va_castS hx hb hown (hk8) ((hK.1 0 _ rfl).2) (va_recv hK (hM.Pa huz_7 rfl hCz_7) (ci := 0) (q0 := 0) rfl rfl) dX12_isMade_28 ?_
  refine lv_astore (lv' := [(7, .ref (ma 21 ((i * 6 + v) * 6 + f))), (0, .ref (ma 0 0)), (1, .int (nI i)), (2, .int (nI v)), (3, .int (nI f)), (4, .int (nI i2)), (5, .int (nI v2)), (6, .int (nI f2))]) hx hb dX12_isMade_31 hl (by decide) rfl (fun ls hl => ?_)
  refine lv_iconst (v := nI 0) hx hb dX12_isMade_33 (by decide) ?_
  refine lv_istore (lv' := [(8, .int (nI 0)), (7, .ref (ma 21 ((i * 6 + v) * 6 + f))), (0, .ref (ma 0 0)), (1, .int (nI i)), (2, .int (nI v)), (3, .int (nI f)), (4, .int (nI i2)), (5, .int (nI v2)), (6, .int (nI f2))]) hx hb dX12_isMade_34 hl (by decide) rfl (fun ls hl => ?_)
  refine zloopP (τ := Unit) (fun k _ ls => (∀ k9, k9 < k → (decide (cn (g 16 (lkj g nL ((i * 6 + v) * 6 + f) k9)) = ((i2 * 6 + v2) * 6 + f2)) || mdN g nL ((i2 * 6 + v2) * 6 + f2) 5 (cn (g 16 (lkj g nL ((i * 6 + v) * 6 + f) k9)))) = false) ∧ lv_has ls 10 [(8, .int (nI k)), (7, .ref (ma 21 ((i * 6 + v) * 6 + f))), (0, .ref (ma 0 0)), (1, .int (nI i)), (2, .int (nI v)), (3, .int (nI f)), (4, .int (nI i2)), (5, .int (nI v2)), (6, .int (nI f2))]) ((lkl g nL ((i * 6 + v) * 6 + f)).length) ?_ 0 () ls (Nat.zero_le _) ⟨(fun _ h => absurd h (Nat.not_lt_zero _)), lv_sub hl [0, 1, 2, 3, 4, 5, 6, 7, 8] rfl⟩
  intro k _ ls hi_k hinv_k ih_k
  obtain ⟨hq_k, hl⟩ := hinv_k
  have hl : lv_has ls 10 [(8, .int (nI k)), (7, .ref (ma 21 ((i * 6 + v) * 6 + f))), (0, .ref (ma 0 0)), (1, .int (nI i)), (2, .int (nI v)), (3, .int (nI f)), (4, .int (nI i2)), (5, .int (nI v2)), (6, .int (nI f2))] := hl
  refine lv_iload hx hb dX12_isMade_36 (lv_at hl 0 rfl) ?_
  refine lv_aload hx hb dX12_isMade_38 (lv_at hl 1 rfl) ?_
  obtain ⟨huz_8, hnz_8, mz_8, bz_8, hCz_8⟩ := isL.hd (hR.v21 (i := i) (v := v) (f := f) (by omega) (by omega) (by omega))
  refine zcVi (As := []) (rest := [.int (nI k)]) ⟨hx, hb, hml, hown, hts⟩ (c_size l D ty A u C ma t0 mi 21 ((i * 6 + v) * 6 + f) ((lkl g nL ((i * 6 + v) * 6 + f)).length) (fun k => ma 23 (lkj g nL ((i * 6 + v) * 6 + f) k)) (hR.v21 (i := i) (v := v) (f := f) (by omega) (by omega) (by omega))) (cwV 0 hts gX12_isMade_Jx4a65c_size_8abf5 rfl rfl rfl (by decide +kernel) ⟨Nat.le_of_ble_eq_true rfl, Nat.le_of_ble_eq_true rfl⟩) mI_blind (mI_pre hM hK hMS hS) (va_recv hK (hM.Pa huz_8 rfl hCz_8) (ci := 0) (q0 := 0) rfl rfl) rfl hl.1 rfl (Nat.le_of_ble_eq_true rfl) dX12_isMade_40 ⟨Nat.le_of_ble_eq_true rfl, Nat.le_of_ble_eq_true rfl⟩ (fun r_9 hr_9 => ?_)
  subst hr_9
  refine lv_icmp_ge (tgt := 124) hx hb dX12_isMade_43 (by decide) (fun c_10 => ?_) (fun c_10 => ?_)
  · have c_10 := zn_geT (a := k) (b := ((lkl g nL ((i * 6 + v) * 6 + f)).length)) (by omega) (by omega) c_10
    obtain e9 : (lkl g nL ((i * 6 + v) * 6 + f)).length = k := by omega
    refine lv_iconst (v := nI 0) hx hb dX12_isMade_124 (by decide) ?_
    exact W.zret (v := nI 0) hx hb hr rfl (fun t ht hW => ⟨_, rfl, bI_n0 (mdN_f (fun k9 h9 => hq_k k9 (by omega))), ht⟩) (fun _ h => nomatch h) dX12_isMade_125
  · have c_10 := zn_geF (a := k) (b := ((lkl g nL ((i * 6 + v) * 6 + f)).length)) (by omega) (by omega) c_10
    have hkl9 : k < (lkl g nL ((i * 6 + v) * 6 + f)).length := c_10
    have hj := lkj_mem hkl9
    have hj1 := hj.1
    have hp15 : cn (g 15 (lkj g nL ((i * 6 + v) * 6 + f) k)) = (i * 6 + v) * 6 + f := by rw [hj.2]; exact cn_nI (by omega)
    have hlp := hR.I.lkp hj1
    have hlb := (hR.I.lk hj1).2.2
    rw [hp15] at hlp
    refine lv_aload hx hb dX12_isMade_46 (lv_at hl 1 rfl) ?_
    refine lv_iload hx hb dX12_isMade_48 (lv_at hl 0 rfl) ?_
    obtain ⟨huz_11, hnz_11, mz_11, bz_11, hCz_11⟩ := isL.hd (hR.v21 (i := i) (v := v) (f := f) (by omega) (by omega) (by omega))
    refine zcVr (x := .ref (ma 23 (lkj g nL ((i * 6 + v) * 6 + f) k))) (As := [.int (nI k)]) (rest := []) ⟨hx, hb, hml, hown, hts⟩ (c_get l D ty A u C ma t0 mi 21 ((i * 6 + v) * 6 + f) ((lkl g nL ((i * 6 + v) * 6 + f)).length) (fun k => ma 23 (lkj g nL ((i * 6 + v) * 6 + f) k)) (hR.v21 (i := i) (v := v) (f := f) (by omega) (by omega) (by omega)) k (by omega)) (cwV 1 hts gX12_isMade_Jx4a65c_get_915e3 rfl rfl rfl (by decide +kernel) ⟨Nat.le_of_ble_eq_true rfl, Nat.le_of_ble_eq_true rfl⟩) mI_blind (mI_pre hM hK hMS hS) (va_recv hK (hM.Pa huz_11 rfl hCz_11) (ci := 0) (q0 := 0) rfl rfl) rfl hl.1 rfl (Nat.le_of_ble_eq_true rfl) dX12_isMade_50 ⟨Nat.le_of_ble_eq_true rfl, Nat.le_of_ble_eq_true rfl⟩ ?_
    refine va_castS hx hb hown (hk9) ((hK.1 9 _ rfl).2) (va_recv hK (hM.Pa (hR.k23 (j := lkj g nL ((i * 6 + v) * 6 + f) k) (by omega)).1 rfl (hR.k23 (j := lkj g nL ((i * 6 + v) * 6 + f) k) (by omega)).2) (ci := 9) (q0 := 0) rfl rfl) dX12_isMade_53 ?_
    refine lv_astore (lv' := [(9, .ref (ma 23 (lkj g nL ((i * 6 + v) * 6 + f) k))), (8, .int (nI k)), (7, .ref (ma 21 ((i * 6 + v) * 6 + f))), (0, .ref (ma 0 0)), (1, .int (nI i)), (2, .int (nI v)), (3, .int (nI f)), (4, .int (nI i2)), (5, .int (nI v2)), (6, .int (nI f2))]) hx hb dX12_isMade_56 hl (by decide) rfl (fun ls hl => ?_)
    refine lv_aload hx hb dX12_isMade_58 (lv_at hl 0 rfl) ?_
    refine va_get hx hb hts hinX8 hown hK (hM.Pa (hR.k23 (j := lkj g nL ((i * 6 + v) * 6 + f) k) (by omega)).1 rfl (hR.k23 (j := lkj g nL ((i * 6 + v) * 6 + f) k) (by omega)).2) 0 rfl rfl 0 (by decide) (hk11) (fun _ h9 => h9) rfl dX12_isMade_60 ?_
    refine lv_iload hx hb dX12_isMade_63 (lv_at hl 7 rfl) ?_
    refine lv_icmp_ne (tgt := 88) hx hb dX12_isMade_65 (by decide) (fun c_13 => ?_) (fun c_13 => ?_)
    · have c_13 := zn_neT (a := (cn (g 16 (lkj g nL ((i * 6 + v) * 6 + f) k)) / 36)) (b := i2) (by omega) (by omega) c_13
      refine lv_aload_n hx hb dX12_isMade_88 rfl (lv_at hl 3 rfl) ?_
      refine lv_aload hx hb dX12_isMade_89 (lv_at hl 0 rfl) ?_
      refine va_get hx hb hts hinX8 hown hK (hM.Pa (hR.k23 (j := lkj g nL ((i * 6 + v) * 6 + f) k) (by omega)).1 rfl (hR.k23 (j := lkj g nL ((i * 6 + v) * 6 + f) k) (by omega)).2) 0 rfl rfl 0 (by decide) (hk11) (fun _ h9 => h9) rfl dX12_isMade_91 ?_
      refine lv_aload hx hb dX12_isMade_94 (lv_at hl 0 rfl) ?_
      refine va_get hx hb hts hinX8 hown hK (hM.Pa (hR.k23 (j := lkj g nL ((i * 6 + v) * 6 + f) k) (by omega)).1 rfl (hR.k23 (j := lkj g nL ((i * 6 + v) * 6 + f) k) (by omega)).2) 0 rfl rfl 1 (by decide) (hk12) (fun _ h9 => h9) rfl dX12_isMade_96 ?_
      refine lv_aload hx hb dX12_isMade_99 (lv_at hl 0 rfl) ?_
      refine va_get hx hb hts hinX8 hown hK (hM.Pa (hR.k23 (j := lkj g nL ((i * 6 + v) * 6 + f) k) (by omega)).1 rfl (hR.k23 (j := lkj g nL ((i * 6 + v) * 6 + f) k) (by omega)).2) 0 rfl rfl 2 (by decide) (hk13) (fun _ h9 => h9) rfl dX12_isMade_101 ?_
      refine lv_iload hx hb dX12_isMade_104 (lv_at hl 7 rfl) ?_
      refine lv_iload hx hb dX12_isMade_106 (lv_at hl 8 rfl) ?_
      refine lv_iload hx hb dX12_isMade_108 (lv_at hl 9 rfl) ?_
      refine zcVi (As := [.int (nI (cn (g 16 (lkj g nL ((i * 6 + v) * 6 + f) k)) / 36)), .int (nI (cn (g 16 (lkj g nL ((i * 6 + v) * 6 + f) k)) / 6 % 6)), .int (nI (cn (g 16 (lkj g nL ((i * 6 + v) * 6 + f) k)) % 6)), .int (nI i2), .int (nI v2), .int (nI f2)]) (rest := []) ⟨hx, hb, hml, hown, hts⟩ (c_X12_isMade_5 l D ty A u C ma t0 mi g n1 n2 nL n4 n5 th rep bro hR (cn (g 16 (lkj g nL ((i * 6 + v) * 6 + f) k)) / 36) (cn (g 16 (lkj g nL ((i * 6 + v) * 6 + f) k)) / 6 % 6) (cn (g 16 (lkj g nL ((i * 6 + v) * 6 + f) k)) % 6) i2 v2 f2 (by omega) (by omega) (by omega) (by omega) (by omega) (by omega) (by omega)) (cwV 6 hts gX12_isMade_X12_isMade rfl rfl rfl (by decide +kernel) ⟨Nat.le_of_ble_eq_true rfl, Nat.le_of_ble_eq_true rfl⟩) mI_blind (mI_pre hM hK hMS hS) (va_recv hK (hM.Pa hR.o.1 rfl hR.o.2) (ci := 13) (q0 := 0) rfl rfl) rfl hl.1 rfl (Nat.le_of_ble_eq_true rfl) dX12_isMade_110 ⟨Nat.le_of_ble_eq_true rfl, Nat.le_of_ble_eq_true rfl⟩ (fun r_14 hr_14 => ?_)
      subst hr_14
      refine zeq (show bI _ = bI (mdN g nL ((i2 * 6 + v2) * 6 + f2) 5 (cn (g 16 (lkj g nL ((i * 6 + v) * 6 + f) k)))) from by rw [show ((cn (g 16 (lkj g nL ((i * 6 + v) * 6 + f) k))) / 36 * 6 + (cn (g 16 (lkj g nL ((i * 6 + v) * 6 + f) k))) / 6 % 6) * 6 + (cn (g 16 (lkj g nL ((i * 6 + v) * 6 + f) k))) % 6 = (cn (g 16 (lkj g nL ((i * 6 + v) * 6 + f) k))) by omega]) ?_
      refine lv_if_eq (tgt := 118) hx hb dX12_isMade_113 (by decide) (fun c_15 => ?_) (fun c_15 => ?_)
      · have c_15 := bI_f c_15
        refine lv_iinc (v := nI (k + 1)) (lv' := [(8, .int (nI (k + 1))), (9, .ref (ma 23 (lkj g nL ((i * 6 + v) * 6 + f) k))), (7, .ref (ma 21 ((i * 6 + v) * 6 + f))), (0, .ref (ma 0 0)), (1, .int (nI i)), (2, .int (nI v)), (3, .int (nI f)), (4, .int (nI i2)), (5, .int (nI v2)), (6, .int (nI f2))]) hx hb dX12_isMade_118 hl (k := 1) rfl (nI_add k 1) (by decide) rfl (fun ls hl => ?_)
        refine lv_goto (tgt := 36) hx hb dX12_isMade_121 (by decide) ?_
        refine ih_k () ls (by omega) ⟨fun k9 h9 => (Nat.lt_or_ge k9 k).elim (hq_k k9) (fun h8 => by rw [show k9 = k by omega, c_15, decide_eq_false (by omega)]; rfl), show lv_has ls 10 [(8, .int (nI (k + 1))), (7, .ref (ma 21 ((i * 6 + v) * 6 + f))), (0, .ref (ma 0 0)), (1, .int (nI i)), (2, .int (nI v)), (3, .int (nI f)), (4, .int (nI i2)), (5, .int (nI v2)), (6, .int (nI f2))] from ?_⟩
        exact lv_sub hl [0, 2, 3, 4, 5, 6, 7, 8, 9] rfl
      · have c_15 := bI_t c_15
        refine lv_iconst (v := nI 1) hx hb dX12_isMade_116 (by decide) ?_
        exact W.zret (v := nI 1) hx hb hr rfl (fun t ht hW => ⟨_, rfl, bI_n1 (mdN_t hkl9 (by rw [c_15, Bool.or_true])), ht⟩) (fun _ h => nomatch h) dX12_isMade_117
    · have c_13 := zn_neF (a := (cn (g 16 (lkj g nL ((i * 6 + v) * 6 + f) k)) / 36)) (b := i2) (by omega) (by omega) c_13
      refine lv_aload hx hb dX12_isMade_68 (lv_at hl 0 rfl) ?_
      refine va_get hx hb hts hinX8 hown hK (hM.Pa (hR.k23 (j := lkj g nL ((i * 6 + v) * 6 + f) k) (by omega)).1 rfl (hR.k23 (j := lkj g nL ((i * 6 + v) * 6 + f) k) (by omega)).2) 0 rfl rfl 1 (by decide) (hk12) (fun _ h9 => h9) rfl dX12_isMade_70 ?_
      refine lv_iload hx hb dX12_isMade_73 (lv_at hl 8 rfl) ?_
      refine lv_icmp_ne (tgt := 88) hx hb dX12_isMade_75 (by decide) (fun c_16 => ?_) (fun c_16 => ?_)
      · have c_16 := zn_neT (a := (cn (g 16 (lkj g nL ((i * 6 + v) * 6 + f) k)) / 6 % 6)) (b := v2) (by omega) (by omega) c_16
        refine lv_aload_n hx hb dX12_isMade_88 rfl (lv_at hl 3 rfl) ?_
        refine lv_aload hx hb dX12_isMade_89 (lv_at hl 0 rfl) ?_
        refine va_get hx hb hts hinX8 hown hK (hM.Pa (hR.k23 (j := lkj g nL ((i * 6 + v) * 6 + f) k) (by omega)).1 rfl (hR.k23 (j := lkj g nL ((i * 6 + v) * 6 + f) k) (by omega)).2) 0 rfl rfl 0 (by decide) (hk11) (fun _ h9 => h9) rfl dX12_isMade_91 ?_
        refine lv_aload hx hb dX12_isMade_94 (lv_at hl 0 rfl) ?_
        refine va_get hx hb hts hinX8 hown hK (hM.Pa (hR.k23 (j := lkj g nL ((i * 6 + v) * 6 + f) k) (by omega)).1 rfl (hR.k23 (j := lkj g nL ((i * 6 + v) * 6 + f) k) (by omega)).2) 0 rfl rfl 1 (by decide) (hk12) (fun _ h9 => h9) rfl dX12_isMade_96 ?_
        refine lv_aload hx hb dX12_isMade_99 (lv_at hl 0 rfl) ?_
        refine va_get hx hb hts hinX8 hown hK (hM.Pa (hR.k23 (j := lkj g nL ((i * 6 + v) * 6 + f) k) (by omega)).1 rfl (hR.k23 (j := lkj g nL ((i * 6 + v) * 6 + f) k) (by omega)).2) 0 rfl rfl 2 (by decide) (hk13) (fun _ h9 => h9) rfl dX12_isMade_101 ?_
        refine lv_iload hx hb dX12_isMade_104 (lv_at hl 7 rfl) ?_
        refine lv_iload hx hb dX12_isMade_106 (lv_at hl 8 rfl) ?_
        refine lv_iload hx hb dX12_isMade_108 (lv_at hl 9 rfl) ?_
        refine zcVi (As := [.int (nI (cn (g 16 (lkj g nL ((i * 6 + v) * 6 + f) k)) / 36)), .int (nI (cn (g 16 (lkj g nL ((i * 6 + v) * 6 + f) k)) / 6 % 6)), .int (nI (cn (g 16 (lkj g nL ((i * 6 + v) * 6 + f) k)) % 6)), .int (nI i2), .int (nI v2), .int (nI f2)]) (rest := []) ⟨hx, hb, hml, hown, hts⟩ (c_X12_isMade_5 l D ty A u C ma t0 mi g n1 n2 nL n4 n5 th rep bro hR (cn (g 16 (lkj g nL ((i * 6 + v) * 6 + f) k)) / 36) (cn (g 16 (lkj g nL ((i * 6 + v) * 6 + f) k)) / 6 % 6) (cn (g 16 (lkj g nL ((i * 6 + v) * 6 + f) k)) % 6) i2 v2 f2 (by omega) (by omega) (by omega) (by omega) (by omega) (by omega) (by omega)) (cwV 6 hts gX12_isMade_X12_isMade rfl rfl rfl (by decide +kernel) ⟨Nat.le_of_ble_eq_true rfl, Nat.le_of_ble_eq_true rfl⟩) mI_blind (mI_pre hM hK hMS hS) (va_recv hK (hM.Pa hR.o.1 rfl hR.o.2) (ci := 13) (q0 := 0) rfl rfl) rfl hl.1 rfl (Nat.le_of_ble_eq_true rfl) dX12_isMade_110 ⟨Nat.le_of_ble_eq_true rfl, Nat.le_of_ble_eq_true rfl⟩ (fun r_17 hr_17 => ?_)
        subst hr_17
        refine zeq (show bI _ = bI (mdN g nL ((i2 * 6 + v2) * 6 + f2) 5 (cn (g 16 (lkj g nL ((i * 6 + v) * 6 + f) k)))) from by rw [show ((cn (g 16 (lkj g nL ((i * 6 + v) * 6 + f) k))) / 36 * 6 + (cn (g 16 (lkj g nL ((i * 6 + v) * 6 + f) k))) / 6 % 6) * 6 + (cn (g 16 (lkj g nL ((i * 6 + v) * 6 + f) k))) % 6 = (cn (g 16 (lkj g nL ((i * 6 + v) * 6 + f) k))) by omega]) ?_
        refine lv_if_eq (tgt := 118) hx hb dX12_isMade_113 (by decide) (fun c_18 => ?_) (fun c_18 => ?_)
        · have c_18 := bI_f c_18
          refine lv_iinc (v := nI (k + 1)) (lv' := [(8, .int (nI (k + 1))), (9, .ref (ma 23 (lkj g nL ((i * 6 + v) * 6 + f) k))), (7, .ref (ma 21 ((i * 6 + v) * 6 + f))), (0, .ref (ma 0 0)), (1, .int (nI i)), (2, .int (nI v)), (3, .int (nI f)), (4, .int (nI i2)), (5, .int (nI v2)), (6, .int (nI f2))]) hx hb dX12_isMade_118 hl (k := 1) rfl (nI_add k 1) (by decide) rfl (fun ls hl => ?_)
          refine lv_goto (tgt := 36) hx hb dX12_isMade_121 (by decide) ?_
          refine ih_k () ls (by omega) ⟨fun k9 h9 => (Nat.lt_or_ge k9 k).elim (hq_k k9) (fun h8 => by rw [show k9 = k by omega, c_18, decide_eq_false (by omega)]; rfl), show lv_has ls 10 [(8, .int (nI (k + 1))), (7, .ref (ma 21 ((i * 6 + v) * 6 + f))), (0, .ref (ma 0 0)), (1, .int (nI i)), (2, .int (nI v)), (3, .int (nI f)), (4, .int (nI i2)), (5, .int (nI v2)), (6, .int (nI f2))] from ?_⟩
          exact lv_sub hl [0, 2, 3, 4, 5, 6, 7, 8, 9] rfl
        · have c_18 := bI_t c_18
          refine lv_iconst (v := nI 1) hx hb dX12_isMade_116 (by decide) ?_
          exact W.zret (v := nI 1) hx hb hr rfl (fun t ht hW => ⟨_, rfl, bI_n1 (mdN_t hkl9 (by rw [c_18, Bool.or_true])), ht⟩) (fun _ h => nomatch h) dX12_isMade_117
      · have c_16 := zn_neF (a := (cn (g 16 (lkj g nL ((i * 6 + v) * 6 + f) k)) / 6 % 6)) (b := v2) (by omega) (by omega) c_16
        refine lv_aload hx hb dX12_isMade_78 (lv_at hl 0 rfl) ?_
        refine va_get hx hb hts hinX8 hown hK (hM.Pa (hR.k23 (j := lkj g nL ((i * 6 + v) * 6 + f) k) (by omega)).1 rfl (hR.k23 (j := lkj g nL ((i * 6 + v) * 6 + f) k) (by omega)).2) 0 rfl rfl 2 (by decide) (hk13) (fun _ h9 => h9) rfl dX12_isMade_80 ?_
        refine lv_iload hx hb dX12_isMade_83 (lv_at hl 9 rfl) ?_
        refine lv_icmp_eq (tgt := 116) hx hb dX12_isMade_85 (by decide) (fun c_19 => ?_) (fun c_19 => ?_)
        · have c_19 := zn_eqT (a := (cn (g 16 (lkj g nL ((i * 6 + v) * 6 + f) k)) % 6)) (b := f2) (by omega) (by omega) c_19
          refine lv_iconst (v := nI 1) hx hb dX12_isMade_116 (by decide) ?_
          exact W.zret (v := nI 1) hx hb hr rfl (fun t ht hW => ⟨_, rfl, bI_n1 (mdN_t hkl9 (by rw [decide_eq_true (by omega), Bool.true_or])), ht⟩) (fun _ h => nomatch h) dX12_isMade_117
        · have c_19 := zn_eqF (a := (cn (g 16 (lkj g nL ((i * 6 + v) * 6 + f) k)) % 6)) (b := f2) (by omega) (by omega) c_19
          refine lv_aload_n hx hb dX12_isMade_88 rfl (lv_at hl 3 rfl) ?_
          refine lv_aload hx hb dX12_isMade_89 (lv_at hl 0 rfl) ?_
          refine va_get hx hb hts hinX8 hown hK (hM.Pa (hR.k23 (j := lkj g nL ((i * 6 + v) * 6 + f) k) (by omega)).1 rfl (hR.k23 (j := lkj g nL ((i * 6 + v) * 6 + f) k) (by omega)).2) 0 rfl rfl 0 (by decide) (hk11) (fun _ h9 => h9) rfl dX12_isMade_91 ?_
          refine lv_aload hx hb dX12_isMade_94 (lv_at hl 0 rfl) ?_
          refine va_get hx hb hts hinX8 hown hK (hM.Pa (hR.k23 (j := lkj g nL ((i * 6 + v) * 6 + f) k) (by omega)).1 rfl (hR.k23 (j := lkj g nL ((i * 6 + v) * 6 + f) k) (by omega)).2) 0 rfl rfl 1 (by decide) (hk12) (fun _ h9 => h9) rfl dX12_isMade_96 ?_
          refine lv_aload hx hb dX12_isMade_99 (lv_at hl 0 rfl) ?_
          refine va_get hx hb hts hinX8 hown hK (hM.Pa (hR.k23 (j := lkj g nL ((i * 6 + v) * 6 + f) k) (by omega)).1 rfl (hR.k23 (j := lkj g nL ((i * 6 + v) * 6 + f) k) (by omega)).2) 0 rfl rfl 2 (by decide) (hk13) (fun _ h9 => h9) rfl dX12_isMade_101 ?_
          refine lv_iload hx hb dX12_isMade_104 (lv_at hl 7 rfl) ?_
          refine lv_iload hx hb dX12_isMade_106 (lv_at hl 8 rfl) ?_
          refine lv_iload hx hb dX12_isMade_108 (lv_at hl 9 rfl) ?_
          refine zcVi (As := [.int (nI (cn (g 16 (lkj g nL ((i * 6 + v) * 6 + f) k)) / 36)), .int (nI (cn (g 16 (lkj g nL ((i * 6 + v) * 6 + f) k)) / 6 % 6)), .int (nI (cn (g 16 (lkj g nL ((i * 6 + v) * 6 + f) k)) % 6)), .int (nI i2), .int (nI v2), .int (nI f2)]) (rest := []) ⟨hx, hb, hml, hown, hts⟩ (c_X12_isMade_5 l D ty A u C ma t0 mi g n1 n2 nL n4 n5 th rep bro hR (cn (g 16 (lkj g nL ((i * 6 + v) * 6 + f) k)) / 36) (cn (g 16 (lkj g nL ((i * 6 + v) * 6 + f) k)) / 6 % 6) (cn (g 16 (lkj g nL ((i * 6 + v) * 6 + f) k)) % 6) i2 v2 f2 (by omega) (by omega) (by omega) (by omega) (by omega) (by omega) (by omega)) (cwV 6 hts gX12_isMade_X12_isMade rfl rfl rfl (by decide +kernel) ⟨Nat.le_of_ble_eq_true rfl, Nat.le_of_ble_eq_true rfl⟩) mI_blind (mI_pre hM hK hMS hS) (va_recv hK (hM.Pa hR.o.1 rfl hR.o.2) (ci := 13) (q0 := 0) rfl rfl) rfl hl.1 rfl (Nat.le_of_ble_eq_true rfl) dX12_isMade_110 ⟨Nat.le_of_ble_eq_true rfl, Nat.le_of_ble_eq_true rfl⟩ (fun r_20 hr_20 => ?_)
          subst hr_20
          refine zeq (show bI _ = bI (mdN g nL ((i2 * 6 + v2) * 6 + f2) 5 (cn (g 16 (lkj g nL ((i * 6 + v) * 6 + f) k)))) from by rw [show ((cn (g 16 (lkj g nL ((i * 6 + v) * 6 + f) k))) / 36 * 6 + (cn (g 16 (lkj g nL ((i * 6 + v) * 6 + f) k))) / 6 % 6) * 6 + (cn (g 16 (lkj g nL ((i * 6 + v) * 6 + f) k))) % 6 = (cn (g 16 (lkj g nL ((i * 6 + v) * 6 + f) k))) by omega]) ?_
          refine lv_if_eq (tgt := 118) hx hb dX12_isMade_113 (by decide) (fun c_21 => ?_) (fun c_21 => ?_)
          · have c_21 := bI_f c_21
            refine lv_iinc (v := nI (k + 1)) (lv' := [(8, .int (nI (k + 1))), (9, .ref (ma 23 (lkj g nL ((i * 6 + v) * 6 + f) k))), (7, .ref (ma 21 ((i * 6 + v) * 6 + f))), (0, .ref (ma 0 0)), (1, .int (nI i)), (2, .int (nI v)), (3, .int (nI f)), (4, .int (nI i2)), (5, .int (nI v2)), (6, .int (nI f2))]) hx hb dX12_isMade_118 hl (k := 1) rfl (nI_add k 1) (by decide) rfl (fun ls hl => ?_)
            refine lv_goto (tgt := 36) hx hb dX12_isMade_121 (by decide) ?_
            refine ih_k () ls (by omega) ⟨fun k9 h9 => (Nat.lt_or_ge k9 k).elim (hq_k k9) (fun h8 => by rw [show k9 = k by omega, c_21, decide_eq_false (by omega)]; rfl), show lv_has ls 10 [(8, .int (nI (k + 1))), (7, .ref (ma 21 ((i * 6 + v) * 6 + f))), (0, .ref (ma 0 0)), (1, .int (nI i)), (2, .int (nI v)), (3, .int (nI f)), (4, .int (nI i2)), (5, .int (nI v2)), (6, .int (nI f2))] from ?_⟩
            exact lv_sub hl [0, 2, 3, 4, 5, 6, 7, 8, 9] rfl
          · have c_21 := bI_t c_21
            refine lv_iconst (v := nI 1) hx hb dX12_isMade_116 (by decide) ?_
            exact W.zret (v := nI 1) hx hb hr rfl (fun t ht hW => ⟨_, rfl, bI_n1 (mdN_t hkl9 (by rw [c_21, Bool.or_true])), ht⟩) (fun _ h => nomatch h) dX12_isMade_117
set_option maxHeartbeats 400000 in
set_option maxRecDepth 100000 in
theorem c_X12_isMade_7 (l : Launch) (D : va_G) (ty : Nat → ClassId) (A : Nat → Prop) (u : Nat → Nat → Prop) (C : Nat → Nat → va_E) (ma : Nat → Nat → Nat) (t0 mi : Nat) (g : Nat → Nat → Int32) (n1 n2 nL n4 n5 : Nat) (th : Int32) (rep bro : Nat → Nat → Int32) (hR : mR ty t0 g n1 n2 nL n4 n5 th rep bro u C ma) (i v f i2 v2 f2 : Nat) (hd : i < 7) (hi : i < n1) (hv : v < nV g i) (hf : f < 6) (hi2 : i2 < 8) (hv2 : v2 < 6) (hf2 : f2 < 6) : Met l yX12_isMade wsX12_isMade ({ frames := 9, cells := 0, slots := 0, locals := 238 }) (va_Pc [.ref (ma 0 0), .int (nI i), .int (nI v), .int (nI f), .int (nI i2), .int (nI v2), .int (nI f2)] (mI D ty A u C ma t0 mi)) (vp_Si (fun v_ => v_ = bI (mdN g nL ((i2 * 6 + v2) * 6 + f2) 7 ((i * 6 + v) * 6 + f)))) 0 0 (fun _ => False) := by
  refine zMet (cc := cX12_isMade) (maxL := 10) (ret := (some .boolean)) (by decide) rfl (Nat.le_of_ble_eq_true rfl) ?_
  intro p e s m below meth c hx hb hr hts hown hlocks hml hB ls hl
  obtain ⟨hM, hK, hMS⟩ := hB
  have hS : va_S A s.heap s.heap [] := va_S.rf
  have hbn := hR.I.b1
  have hbs := hR.I.b2
  have hbl := hR.I.bL
  have hbc := hR.I.b4
  have hbr := hR.I.b5
  have hv7 := (hR.I.v7 hi).2
  have hlen := hR.I.len (show (i * 6 + v) * 6 + f < 288 by omega)
  have hl : lv_has ls 10 [(0, .ref (ma 0 0)), (1, .int (nI i)), (2, .int (nI v)), (3, .int (nI f)), (4, .int (nI i2)), (5, .int (nI v2)), (6, .int (nI f2))] := hl
  have hinX12 : ∀ w ∈ wsX120, w ∈ wsX12_isMade := by decide +kernel
  have hk1 := hts (.fieldLink RX12 10 "DatamarketDeskModel" "sets" "Ljava/util/ArrayList;") (by decide +kernel)
  have hk2 := hts (.classLink RX12 49 "DatamarketDeskModel$DataSet") (by decide +kernel)
  have hinX7 : ∀ w ∈ wsX70, w ∈ wsX12_isMade := by decide +kernel
  have hk4 := hts (.fieldLink RX12 69 "DatamarketDeskModel$DataSet" "versions" "Ljava/util/ArrayList;") (by decide +kernel)
  have hk5 := hts (.classLink RX12 72 "DatamarketDeskModel$Version") (by decide +kernel)
  have hinX11 : ∀ w ∈ wsX110, w ∈ wsX12_isMade := by decide +kernel
  have hk7 := hts (.fieldLink RX12 87 "DatamarketDeskModel$Version" "links" "Ljava/util/ArrayList;") (by decide +kernel)
  have hk8 := hts (.classLink RX12 7 "java/util/ArrayList") (by decide +kernel)
  have hk9 := hts (.classLink RX12 90 "DatamarketDeskModel$Link") (by decide +kernel)
  have hinX8 : ∀ w ∈ wsX80, w ∈ wsX12_isMade := by decide +kernel
  have hk11 := hts (.fieldLink RX12 92 "DatamarketDeskModel$Link" "set" "I") (by decide +kernel)
  have hk12 := hts (.fieldLink RX12 95 "DatamarketDeskModel$Link" "version" "I") (by decide +kernel)
  have hk13 := hts (.fieldLink RX12 98 "DatamarketDeskModel$Link" "field" "I") (by decide +kernel)
  refine lv_aload_n hx hb dX12_isMade_0 rfl (lv_at hl 0 rfl) ?_
  refine va_get hx hb hts hinX12 hown hK (hM.Pa hR.o.1 rfl hR.o.2) 0 rfl rfl 1 (by decide) (hk1) (fun _ h9 => h9) rfl dX12_isMade_1 ?_
  refine lv_iload_n hx hb dX12_isMade_4 rfl (lv_at hl 1 rfl) ?_
  obtain ⟨huz_1, hnz_1, mz_1, bz_1, hCz_1⟩ := isL.hd hR.l1
  refine zcVr (x := .ref (ma 9 i)) (As := [.int (nI i)]) (rest := []) ⟨hx, hb, hml, hown, hts⟩ (c_get l D ty A u C ma t0 mi 1 0 n1 (ma 9) hR.l1 i (by omega)) (cwV 1 hts gX12_isMade_Jx4a65c_get_915e3 rfl rfl rfl (by decide +kernel) ⟨Nat.le_of_ble_eq_true rfl, Nat.le_of_ble_eq_true rfl⟩) mI_blind (mI_pre hM hK hMS hS) (va_recv hK (hM.Pa huz_1 rfl hCz_1) (ci := 0) (q0 := 0) rfl rfl) rfl hl.1 rfl (Nat.le_of_ble_eq_true rfl) dX12_isMade_5 ⟨Nat.le_of_ble_eq_true rfl, Nat.le_of_ble_eq_true rfl⟩ ?_
  refine va_castS hx hb hown (hk2) ((hK.1 8 _ rfl).2) (va_recv hK (hM.Pa (hR.s9 (i := i) (by omega)).1 rfl (hR.s9 (i := i) (by omega)).2) (ci := 8) (q0 := 0) rfl rfl) dX12_isMade_8 ?_
  refine va_get hx hb hts hinX7 hown hK (hM.Pa (hR.s9 (i := i) (by omega)).1 rfl (hR.s9 (i := i) (by omega)).2) 0 rfl rfl 3 (by decide) (hk4) (fun _ h9 => h9) rfl dX12_isMade_11 ?_
  refine lv_iload_n hx hb dX12_isMade_14 rfl (lv_at hl 2 rfl) ?_
  obtain ⟨huz_3, hnz_3, mz_3, bz_3, hCz_3⟩ := isL.hd (hR.s12 (i := i) (by omega))
  refine zcVr (x := .ref (ma 15 (i * 6 + v))) (As := [.int (nI v)]) (rest := []) ⟨hx, hb, hml, hown, hts⟩ (c_get l D ty A u C ma t0 mi 12 i (nV g i) (fun v => ma 15 (i * 6 + v)) (hR.s12 (i := i) (by omega)) v (by omega)) (cwV 1 hts gX12_isMade_Jx4a65c_get_915e3 rfl rfl rfl (by decide +kernel) ⟨Nat.le_of_ble_eq_true rfl, Nat.le_of_ble_eq_true rfl⟩) mI_blind (mI_pre hM hK hMS hS) (va_recv hK (hM.Pa huz_3 rfl hCz_3) (ci := 0) (q0 := 0) rfl rfl) rfl hl.1 rfl (Nat.le_of_ble_eq_true rfl) dX12_isMade_15 ⟨Nat.le_of_ble_eq_true rfl, Nat.le_of_ble_eq_true rfl⟩ ?_
  refine va_castS hx hb hown (hk5) ((hK.1 12 _ rfl).2) (va_recv hK (hM.Pa (hR.v15 (i := i) (v := v) (by omega) (by omega)).1 rfl (hR.v15 (i := i) (v := v) (by omega) (by omega)).2) (ci := 12) (q0 := 0) rfl rfl) dX12_isMade_18 ?_
  refine va_get hx hb hts hinX11 hown hK (hM.Pa (hR.v15 (i := i) (v := v) (by omega) (by omega)).1 rfl (hR.v15 (i := i) (v := v) (by omega) (by omega)).2) 0 rfl rfl 4 (by decide) (hk7) (fun _ h9 => h9) rfl dX12_isMade_21 ?_
  refine lv_iload_n hx hb dX12_isMade_24 rfl (lv_at hl 3 rfl) ?_
  obtain ⟨huz_5, hnz_5, mz_5, bz_5, hCz_5⟩ := isL.hd (hR.v19 (i := i) (v := v) (by omega) (by omega))
  refine zcVr (x := .ref (ma 21 ((i * 6 + v) * 6 + f))) (As := [.int (nI f)]) (rest := []) ⟨hx, hb, hml, hown, hts⟩ (c_get l D ty A u C ma t0 mi 19 (i * 6 + v) 6 (fun f => ma 21 ((i * 6 + v) * 6 + f)) (hR.v19 (i := i) (v := v) (by omega) (by omega)) f (by omega)) (cwV 1 hts gX12_isMade_Jx4a65c_get_915e3 rfl rfl rfl (by decide +kernel) ⟨Nat.le_of_ble_eq_true rfl, Nat.le_of_ble_eq_true rfl⟩) mI_blind (mI_pre hM hK hMS hS) (va_recv hK (hM.Pa huz_5 rfl hCz_5) (ci := 0) (q0 := 0) rfl rfl) rfl hl.1 rfl (Nat.le_of_ble_eq_true rfl) dX12_isMade_25 ⟨Nat.le_of_ble_eq_true rfl, Nat.le_of_ble_eq_true rfl⟩ ?_
  obtain ⟨huz_7, hnz_7, mz_7, bz_7, hCz_7⟩ := isL.hd (hR.v21 (i := i) (v := v) (f := f) (by omega) (by omega) (by omega))
  refine va_castS hx hb hown (hk8) ((hK.1 0 _ rfl).2) (va_recv hK (hM.Pa huz_7 rfl hCz_7) (ci := 0) (q0 := 0) rfl rfl) dX12_isMade_28 ?_
  refine lv_astore (lv' := [(7, .ref (ma 21 ((i * 6 + v) * 6 + f))), (0, .ref (ma 0 0)), (1, .int (nI i)), (2, .int (nI v)), (3, .int (nI f)), (4, .int (nI i2)), (5, .int (nI v2)), (6, .int (nI f2))]) hx hb dX12_isMade_31 hl (by decide) rfl (fun ls hl => ?_)
  refine lv_iconst (v := nI 0) hx hb dX12_isMade_33 (by decide) ?_
  refine lv_istore (lv' := [(8, .int (nI 0)), (7, .ref (ma 21 ((i * 6 + v) * 6 + f))), (0, .ref (ma 0 0)), (1, .int (nI i)), (2, .int (nI v)), (3, .int (nI f)), (4, .int (nI i2)), (5, .int (nI v2)), (6, .int (nI f2))]) hx hb dX12_isMade_34 hl (by decide) rfl (fun ls hl => ?_)
  refine zloopP (τ := Unit) (fun k _ ls => (∀ k9, k9 < k → (decide (cn (g 16 (lkj g nL ((i * 6 + v) * 6 + f) k9)) = ((i2 * 6 + v2) * 6 + f2)) || mdN g nL ((i2 * 6 + v2) * 6 + f2) 6 (cn (g 16 (lkj g nL ((i * 6 + v) * 6 + f) k9)))) = false) ∧ lv_has ls 10 [(8, .int (nI k)), (7, .ref (ma 21 ((i * 6 + v) * 6 + f))), (0, .ref (ma 0 0)), (1, .int (nI i)), (2, .int (nI v)), (3, .int (nI f)), (4, .int (nI i2)), (5, .int (nI v2)), (6, .int (nI f2))]) ((lkl g nL ((i * 6 + v) * 6 + f)).length) ?_ 0 () ls (Nat.zero_le _) ⟨(fun _ h => absurd h (Nat.not_lt_zero _)), lv_sub hl [0, 1, 2, 3, 4, 5, 6, 7, 8] rfl⟩
  intro k _ ls hi_k hinv_k ih_k
  obtain ⟨hq_k, hl⟩ := hinv_k
  have hl : lv_has ls 10 [(8, .int (nI k)), (7, .ref (ma 21 ((i * 6 + v) * 6 + f))), (0, .ref (ma 0 0)), (1, .int (nI i)), (2, .int (nI v)), (3, .int (nI f)), (4, .int (nI i2)), (5, .int (nI v2)), (6, .int (nI f2))] := hl
  refine lv_iload hx hb dX12_isMade_36 (lv_at hl 0 rfl) ?_
  refine lv_aload hx hb dX12_isMade_38 (lv_at hl 1 rfl) ?_
  obtain ⟨huz_8, hnz_8, mz_8, bz_8, hCz_8⟩ := isL.hd (hR.v21 (i := i) (v := v) (f := f) (by omega) (by omega) (by omega))
  refine zcVi (As := []) (rest := [.int (nI k)]) ⟨hx, hb, hml, hown, hts⟩ (c_size l D ty A u C ma t0 mi 21 ((i * 6 + v) * 6 + f) ((lkl g nL ((i * 6 + v) * 6 + f)).length) (fun k => ma 23 (lkj g nL ((i * 6 + v) * 6 + f) k)) (hR.v21 (i := i) (v := v) (f := f) (by omega) (by omega) (by omega))) (cwV 0 hts gX12_isMade_Jx4a65c_size_8abf5 rfl rfl rfl (by decide +kernel) ⟨Nat.le_of_ble_eq_true rfl, Nat.le_of_ble_eq_true rfl⟩) mI_blind (mI_pre hM hK hMS hS) (va_recv hK (hM.Pa huz_8 rfl hCz_8) (ci := 0) (q0 := 0) rfl rfl) rfl hl.1 rfl (Nat.le_of_ble_eq_true rfl) dX12_isMade_40 ⟨Nat.le_of_ble_eq_true rfl, Nat.le_of_ble_eq_true rfl⟩ (fun r_9 hr_9 => ?_)
  subst hr_9
  refine lv_icmp_ge (tgt := 124) hx hb dX12_isMade_43 (by decide) (fun c_10 => ?_) (fun c_10 => ?_)
  · have c_10 := zn_geT (a := k) (b := ((lkl g nL ((i * 6 + v) * 6 + f)).length)) (by omega) (by omega) c_10
    obtain e9 : (lkl g nL ((i * 6 + v) * 6 + f)).length = k := by omega
    refine lv_iconst (v := nI 0) hx hb dX12_isMade_124 (by decide) ?_
    exact W.zret (v := nI 0) hx hb hr rfl (fun t ht hW => ⟨_, rfl, bI_n0 (mdN_f (fun k9 h9 => hq_k k9 (by omega))), ht⟩) (fun _ h => nomatch h) dX12_isMade_125
  · have c_10 := zn_geF (a := k) (b := ((lkl g nL ((i * 6 + v) * 6 + f)).length)) (by omega) (by omega) c_10
    have hkl9 : k < (lkl g nL ((i * 6 + v) * 6 + f)).length := c_10
    have hj := lkj_mem hkl9
    have hj1 := hj.1
    have hp15 : cn (g 15 (lkj g nL ((i * 6 + v) * 6 + f) k)) = (i * 6 + v) * 6 + f := by rw [hj.2]; exact cn_nI (by omega)
    have hlp := hR.I.lkp hj1
    have hlb := (hR.I.lk hj1).2.2
    rw [hp15] at hlp
    refine lv_aload hx hb dX12_isMade_46 (lv_at hl 1 rfl) ?_
    refine lv_iload hx hb dX12_isMade_48 (lv_at hl 0 rfl) ?_
    obtain ⟨huz_11, hnz_11, mz_11, bz_11, hCz_11⟩ := isL.hd (hR.v21 (i := i) (v := v) (f := f) (by omega) (by omega) (by omega))
    refine zcVr (x := .ref (ma 23 (lkj g nL ((i * 6 + v) * 6 + f) k))) (As := [.int (nI k)]) (rest := []) ⟨hx, hb, hml, hown, hts⟩ (c_get l D ty A u C ma t0 mi 21 ((i * 6 + v) * 6 + f) ((lkl g nL ((i * 6 + v) * 6 + f)).length) (fun k => ma 23 (lkj g nL ((i * 6 + v) * 6 + f) k)) (hR.v21 (i := i) (v := v) (f := f) (by omega) (by omega) (by omega)) k (by omega)) (cwV 1 hts gX12_isMade_Jx4a65c_get_915e3 rfl rfl rfl (by decide +kernel) ⟨Nat.le_of_ble_eq_true rfl, Nat.le_of_ble_eq_true rfl⟩) mI_blind (mI_pre hM hK hMS hS) (va_recv hK (hM.Pa huz_11 rfl hCz_11) (ci := 0) (q0 := 0) rfl rfl) rfl hl.1 rfl (Nat.le_of_ble_eq_true rfl) dX12_isMade_50 ⟨Nat.le_of_ble_eq_true rfl, Nat.le_of_ble_eq_true rfl⟩ ?_
    refine va_castS hx hb hown (hk9) ((hK.1 9 _ rfl).2) (va_recv hK (hM.Pa (hR.k23 (j := lkj g nL ((i * 6 + v) * 6 + f) k) (by omega)).1 rfl (hR.k23 (j := lkj g nL ((i * 6 + v) * 6 + f) k) (by omega)).2) (ci := 9) (q0 := 0) rfl rfl) dX12_isMade_53 ?_
    refine lv_astore (lv' := [(9, .ref (ma 23 (lkj g nL ((i * 6 + v) * 6 + f) k))), (8, .int (nI k)), (7, .ref (ma 21 ((i * 6 + v) * 6 + f))), (0, .ref (ma 0 0)), (1, .int (nI i)), (2, .int (nI v)), (3, .int (nI f)), (4, .int (nI i2)), (5, .int (nI v2)), (6, .int (nI f2))]) hx hb dX12_isMade_56 hl (by decide) rfl (fun ls hl => ?_)
    refine lv_aload hx hb dX12_isMade_58 (lv_at hl 0 rfl) ?_
    refine va_get hx hb hts hinX8 hown hK (hM.Pa (hR.k23 (j := lkj g nL ((i * 6 + v) * 6 + f) k) (by omega)).1 rfl (hR.k23 (j := lkj g nL ((i * 6 + v) * 6 + f) k) (by omega)).2) 0 rfl rfl 0 (by decide) (hk11) (fun _ h9 => h9) rfl dX12_isMade_60 ?_
    refine lv_iload hx hb dX12_isMade_63 (lv_at hl 7 rfl) ?_
    refine lv_icmp_ne (tgt := 88) hx hb dX12_isMade_65 (by decide) (fun c_13 => ?_) (fun c_13 => ?_)
    · have c_13 := zn_neT (a := (cn (g 16 (lkj g nL ((i * 6 + v) * 6 + f) k)) / 36)) (b := i2) (by omega) (by omega) c_13
      refine lv_aload_n hx hb dX12_isMade_88 rfl (lv_at hl 3 rfl) ?_
      refine lv_aload hx hb dX12_isMade_89 (lv_at hl 0 rfl) ?_
      refine va_get hx hb hts hinX8 hown hK (hM.Pa (hR.k23 (j := lkj g nL ((i * 6 + v) * 6 + f) k) (by omega)).1 rfl (hR.k23 (j := lkj g nL ((i * 6 + v) * 6 + f) k) (by omega)).2) 0 rfl rfl 0 (by decide) (hk11) (fun _ h9 => h9) rfl dX12_isMade_91 ?_
      refine lv_aload hx hb dX12_isMade_94 (lv_at hl 0 rfl) ?_
      refine va_get hx hb hts hinX8 hown hK (hM.Pa (hR.k23 (j := lkj g nL ((i * 6 + v) * 6 + f) k) (by omega)).1 rfl (hR.k23 (j := lkj g nL ((i * 6 + v) * 6 + f) k) (by omega)).2) 0 rfl rfl 1 (by decide) (hk12) (fun _ h9 => h9) rfl dX12_isMade_96 ?_
      refine lv_aload hx hb dX12_isMade_99 (lv_at hl 0 rfl) ?_
      refine va_get hx hb hts hinX8 hown hK (hM.Pa (hR.k23 (j := lkj g nL ((i * 6 + v) * 6 + f) k) (by omega)).1 rfl (hR.k23 (j := lkj g nL ((i * 6 + v) * 6 + f) k) (by omega)).2) 0 rfl rfl 2 (by decide) (hk13) (fun _ h9 => h9) rfl dX12_isMade_101 ?_
      refine lv_iload hx hb dX12_isMade_104 (lv_at hl 7 rfl) ?_
      refine lv_iload hx hb dX12_isMade_106 (lv_at hl 8 rfl) ?_
      refine lv_iload hx hb dX12_isMade_108 (lv_at hl 9 rfl) ?_
      refine zcVi (As := [.int (nI (cn (g 16 (lkj g nL ((i * 6 + v) * 6 + f) k)) / 36)), .int (nI (cn (g 16 (lkj g nL ((i * 6 + v) * 6 + f) k)) / 6 % 6)), .int (nI (cn (g 16 (lkj g nL ((i * 6 + v) * 6 + f) k)) % 6)), .int (nI i2), .int (nI v2), .int (nI f2)]) (rest := []) ⟨hx, hb, hml, hown, hts⟩ (c_X12_isMade_6 l D ty A u C ma t0 mi g n1 n2 nL n4 n5 th rep bro hR (cn (g 16 (lkj g nL ((i * 6 + v) * 6 + f) k)) / 36) (cn (g 16 (lkj g nL ((i * 6 + v) * 6 + f) k)) / 6 % 6) (cn (g 16 (lkj g nL ((i * 6 + v) * 6 + f) k)) % 6) i2 v2 f2 (by omega) (by omega) (by omega) (by omega) (by omega) (by omega) (by omega)) (cwV 6 hts gX12_isMade_X12_isMade rfl rfl rfl (by decide +kernel) ⟨Nat.le_of_ble_eq_true rfl, Nat.le_of_ble_eq_true rfl⟩) mI_blind (mI_pre hM hK hMS hS) (va_recv hK (hM.Pa hR.o.1 rfl hR.o.2) (ci := 13) (q0 := 0) rfl rfl) rfl hl.1 rfl (Nat.le_of_ble_eq_true rfl) dX12_isMade_110 ⟨Nat.le_of_ble_eq_true rfl, Nat.le_of_ble_eq_true rfl⟩ (fun r_14 hr_14 => ?_)
      subst hr_14
      refine zeq (show bI _ = bI (mdN g nL ((i2 * 6 + v2) * 6 + f2) 6 (cn (g 16 (lkj g nL ((i * 6 + v) * 6 + f) k)))) from by rw [show ((cn (g 16 (lkj g nL ((i * 6 + v) * 6 + f) k))) / 36 * 6 + (cn (g 16 (lkj g nL ((i * 6 + v) * 6 + f) k))) / 6 % 6) * 6 + (cn (g 16 (lkj g nL ((i * 6 + v) * 6 + f) k))) % 6 = (cn (g 16 (lkj g nL ((i * 6 + v) * 6 + f) k))) by omega]) ?_
      refine lv_if_eq (tgt := 118) hx hb dX12_isMade_113 (by decide) (fun c_15 => ?_) (fun c_15 => ?_)
      · have c_15 := bI_f c_15
        refine lv_iinc (v := nI (k + 1)) (lv' := [(8, .int (nI (k + 1))), (9, .ref (ma 23 (lkj g nL ((i * 6 + v) * 6 + f) k))), (7, .ref (ma 21 ((i * 6 + v) * 6 + f))), (0, .ref (ma 0 0)), (1, .int (nI i)), (2, .int (nI v)), (3, .int (nI f)), (4, .int (nI i2)), (5, .int (nI v2)), (6, .int (nI f2))]) hx hb dX12_isMade_118 hl (k := 1) rfl (nI_add k 1) (by decide) rfl (fun ls hl => ?_)
        refine lv_goto (tgt := 36) hx hb dX12_isMade_121 (by decide) ?_
        refine ih_k () ls (by omega) ⟨fun k9 h9 => (Nat.lt_or_ge k9 k).elim (hq_k k9) (fun h8 => by rw [show k9 = k by omega, c_15, decide_eq_false (by omega)]; rfl), show lv_has ls 10 [(8, .int (nI (k + 1))), (7, .ref (ma 21 ((i * 6 + v) * 6 + f))), (0, .ref (ma 0 0)), (1, .int (nI i)), (2, .int (nI v)), (3, .int (nI f)), (4, .int (nI i2)), (5, .int (nI v2)), (6, .int (nI f2))] from ?_⟩
        exact lv_sub hl [0, 2, 3, 4, 5, 6, 7, 8, 9] rfl
      · have c_15 := bI_t c_15
        refine lv_iconst (v := nI 1) hx hb dX12_isMade_116 (by decide) ?_
        exact W.zret (v := nI 1) hx hb hr rfl (fun t ht hW => ⟨_, rfl, bI_n1 (mdN_t hkl9 (by rw [c_15, Bool.or_true])), ht⟩) (fun _ h => nomatch h) dX12_isMade_117
    · have c_13 := zn_neF (a := (cn (g 16 (lkj g nL ((i * 6 + v) * 6 + f) k)) / 36)) (b := i2) (by omega) (by omega) c_13
      refine lv_aload hx hb dX12_isMade_68 (lv_at hl 0 rfl) ?_
      refine va_get hx hb hts hinX8 hown hK (hM.Pa (hR.k23 (j := lkj g nL ((i * 6 + v) * 6 + f) k) (by omega)).1 rfl (hR.k23 (j := lkj g nL ((i * 6 + v) * 6 + f) k) (by omega)).2) 0 rfl rfl 1 (by decide) (hk12) (fun _ h9 => h9) rfl dX12_isMade_70 ?_
      refine lv_iload hx hb dX12_isMade_73 (lv_at hl 8 rfl) ?_
      refine lv_icmp_ne (tgt := 88) hx hb dX12_isMade_75 (by decide) (fun c_16 => ?_) (fun c_16 => ?_)
      · have c_16 := zn_neT (a := (cn (g 16 (lkj g nL ((i * 6 + v) * 6 + f) k)) / 6 % 6)) (b := v2) (by omega) (by omega) c_16
        refine lv_aload_n hx hb dX12_isMade_88 rfl (lv_at hl 3 rfl) ?_
        refine lv_aload hx hb dX12_isMade_89 (lv_at hl 0 rfl) ?_
        refine va_get hx hb hts hinX8 hown hK (hM.Pa (hR.k23 (j := lkj g nL ((i * 6 + v) * 6 + f) k) (by omega)).1 rfl (hR.k23 (j := lkj g nL ((i * 6 + v) * 6 + f) k) (by omega)).2) 0 rfl rfl 0 (by decide) (hk11) (fun _ h9 => h9) rfl dX12_isMade_91 ?_
        refine lv_aload hx hb dX12_isMade_94 (lv_at hl 0 rfl) ?_
        refine va_get hx hb hts hinX8 hown hK (hM.Pa (hR.k23 (j := lkj g nL ((i * 6 + v) * 6 + f) k) (by omega)).1 rfl (hR.k23 (j := lkj g nL ((i * 6 + v) * 6 + f) k) (by omega)).2) 0 rfl rfl 1 (by decide) (hk12) (fun _ h9 => h9) rfl dX12_isMade_96 ?_
        refine lv_aload hx hb dX12_isMade_99 (lv_at hl 0 rfl) ?_
        refine va_get hx hb hts hinX8 hown hK (hM.Pa (hR.k23 (j := lkj g nL ((i * 6 + v) * 6 + f) k) (by omega)).1 rfl (hR.k23 (j := lkj g nL ((i * 6 + v) * 6 + f) k) (by omega)).2) 0 rfl rfl 2 (by decide) (hk13) (fun _ h9 => h9) rfl dX12_isMade_101 ?_
        refine lv_iload hx hb dX12_isMade_104 (lv_at hl 7 rfl) ?_
        refine lv_iload hx hb dX12_isMade_106 (lv_at hl 8 rfl) ?_
        refine lv_iload hx hb dX12_isMade_108 (lv_at hl 9 rfl) ?_
        refine zcVi (As := [.int (nI (cn (g 16 (lkj g nL ((i * 6 + v) * 6 + f) k)) / 36)), .int (nI (cn (g 16 (lkj g nL ((i * 6 + v) * 6 + f) k)) / 6 % 6)), .int (nI (cn (g 16 (lkj g nL ((i * 6 + v) * 6 + f) k)) % 6)), .int (nI i2), .int (nI v2), .int (nI f2)]) (rest := []) ⟨hx, hb, hml, hown, hts⟩ (c_X12_isMade_6 l D ty A u C ma t0 mi g n1 n2 nL n4 n5 th rep bro hR (cn (g 16 (lkj g nL ((i * 6 + v) * 6 + f) k)) / 36) (cn (g 16 (lkj g nL ((i * 6 + v) * 6 + f) k)) / 6 % 6) (cn (g 16 (lkj g nL ((i * 6 + v) * 6 + f) k)) % 6) i2 v2 f2 (by omega) (by omega) (by omega) (by omega) (by omega) (by omega) (by omega)) (cwV 6 hts gX12_isMade_X12_isMade rfl rfl rfl (by decide +kernel) ⟨Nat.le_of_ble_eq_true rfl, Nat.le_of_ble_eq_true rfl⟩) mI_blind (mI_pre hM hK hMS hS) (va_recv hK (hM.Pa hR.o.1 rfl hR.o.2) (ci := 13) (q0 := 0) rfl rfl) rfl hl.1 rfl (Nat.le_of_ble_eq_true rfl) dX12_isMade_110 ⟨Nat.le_of_ble_eq_true rfl, Nat.le_of_ble_eq_true rfl⟩ (fun r_17 hr_17 => ?_)
        subst hr_17
        refine zeq (show bI _ = bI (mdN g nL ((i2 * 6 + v2) * 6 + f2) 6 (cn (g 16 (lkj g nL ((i * 6 + v) * 6 + f) k)))) from by rw [show ((cn (g 16 (lkj g nL ((i * 6 + v) * 6 + f) k))) / 36 * 6 + (cn (g 16 (lkj g nL ((i * 6 + v) * 6 + f) k))) / 6 % 6) * 6 + (cn (g 16 (lkj g nL ((i * 6 + v) * 6 + f) k))) % 6 = (cn (g 16 (lkj g nL ((i * 6 + v) * 6 + f) k))) by omega]) ?_
        refine lv_if_eq (tgt := 118) hx hb dX12_isMade_113 (by decide) (fun c_18 => ?_) (fun c_18 => ?_)
        · have c_18 := bI_f c_18
          refine lv_iinc (v := nI (k + 1)) (lv' := [(8, .int (nI (k + 1))), (9, .ref (ma 23 (lkj g nL ((i * 6 + v) * 6 + f) k))), (7, .ref (ma 21 ((i * 6 + v) * 6 + f))), (0, .ref (ma 0 0)), (1, .int (nI i)), (2, .int (nI v)), (3, .int (nI f)), (4, .int (nI i2)), (5, .int (nI v2)), (6, .int (nI f2))]) hx hb dX12_isMade_118 hl (k := 1) rfl (nI_add k 1) (by decide) rfl (fun ls hl => ?_)
          refine lv_goto (tgt := 36) hx hb dX12_isMade_121 (by decide) ?_
          refine ih_k () ls (by omega) ⟨fun k9 h9 => (Nat.lt_or_ge k9 k).elim (hq_k k9) (fun h8 => by rw [show k9 = k by omega, c_18, decide_eq_false (by omega)]; rfl), show lv_has ls 10 [(8, .int (nI (k + 1))), (7, .ref (ma 21 ((i * 6 + v) * 6 + f))), (0, .ref (ma 0 0)), (1, .int (nI i)), (2, .int (nI v)), (3, .int (nI f)), (4, .int (nI i2)), (5, .int (nI v2)), (6, .int (nI f2))] from ?_⟩
          exact lv_sub hl [0, 2, 3, 4, 5, 6, 7, 8, 9] rfl
        · have c_18 := bI_t c_18
          refine lv_iconst (v := nI 1) hx hb dX12_isMade_116 (by decide) ?_
          exact W.zret (v := nI 1) hx hb hr rfl (fun t ht hW => ⟨_, rfl, bI_n1 (mdN_t hkl9 (by rw [c_18, Bool.or_true])), ht⟩) (fun _ h => nomatch h) dX12_isMade_117
      · have c_16 := zn_neF (a := (cn (g 16 (lkj g nL ((i * 6 + v) * 6 + f) k)) / 6 % 6)) (b := v2) (by omega) (by omega) c_16
        refine lv_aload hx hb dX12_isMade_78 (lv_at hl 0 rfl) ?_
        refine va_get hx hb hts hinX8 hown hK (hM.Pa (hR.k23 (j := lkj g nL ((i * 6 + v) * 6 + f) k) (by omega)).1 rfl (hR.k23 (j := lkj g nL ((i * 6 + v) * 6 + f) k) (by omega)).2) 0 rfl rfl 2 (by decide) (hk13) (fun _ h9 => h9) rfl dX12_isMade_80 ?_
        refine lv_iload hx hb dX12_isMade_83 (lv_at hl 9 rfl) ?_
        refine lv_icmp_eq (tgt := 116) hx hb dX12_isMade_85 (by decide) (fun c_19 => ?_) (fun c_19 => ?_)
        · have c_19 := zn_eqT (a := (cn (g 16 (lkj g nL ((i * 6 + v) * 6 + f) k)) % 6)) (b := f2) (by omega) (by omega) c_19
          refine lv_iconst (v := nI 1) hx hb dX12_isMade_116 (by decide) ?_
          exact W.zret (v := nI 1) hx hb hr rfl (fun t ht hW => ⟨_, rfl, bI_n1 (mdN_t hkl9 (by rw [decide_eq_true (by omega), Bool.true_or])), ht⟩) (fun _ h => nomatch h) dX12_isMade_117
        · have c_19 := zn_eqF (a := (cn (g 16 (lkj g nL ((i * 6 + v) * 6 + f) k)) % 6)) (b := f2) (by omega) (by omega) c_19
          refine lv_aload_n hx hb dX12_isMade_88 rfl (lv_at hl 3 rfl) ?_
          refine lv_aload hx hb dX12_isMade_89 (lv_at hl 0 rfl) ?_
          refine va_get hx hb hts hinX8 hown hK (hM.Pa (hR.k23 (j := lkj g nL ((i * 6 + v) * 6 + f) k) (by omega)).1 rfl (hR.k23 (j := lkj g nL ((i * 6 + v) * 6 + f) k) (by omega)).2) 0 rfl rfl 0 (by decide) (hk11) (fun _ h9 => h9) rfl dX12_isMade_91 ?_
          refine lv_aload hx hb dX12_isMade_94 (lv_at hl 0 rfl) ?_
          refine va_get hx hb hts hinX8 hown hK (hM.Pa (hR.k23 (j := lkj g nL ((i * 6 + v) * 6 + f) k) (by omega)).1 rfl (hR.k23 (j := lkj g nL ((i * 6 + v) * 6 + f) k) (by omega)).2) 0 rfl rfl 1 (by decide) (hk12) (fun _ h9 => h9) rfl dX12_isMade_96 ?_
          refine lv_aload hx hb dX12_isMade_99 (lv_at hl 0 rfl) ?_
          refine va_get hx hb hts hinX8 hown hK (hM.Pa (hR.k23 (j := lkj g nL ((i * 6 + v) * 6 + f) k) (by omega)).1 rfl (hR.k23 (j := lkj g nL ((i * 6 + v) * 6 + f) k) (by omega)).2) 0 rfl rfl 2 (by decide) (hk13) (fun _ h9 => h9) rfl dX12_isMade_101 ?_
          refine lv_iload hx hb dX12_isMade_104 (lv_at hl 7 rfl) ?_
          refine lv_iload hx hb dX12_isMade_106 (lv_at hl 8 rfl) ?_
          refine lv_iload hx hb dX12_isMade_108 (lv_at hl 9 rfl) ?_
          refine zcVi (As := [.int (nI (cn (g 16 (lkj g nL ((i * 6 + v) * 6 + f) k)) / 36)), .int (nI (cn (g 16 (lkj g nL ((i * 6 + v) * 6 + f) k)) / 6 % 6)), .int (nI (cn (g 16 (lkj g nL ((i * 6 + v) * 6 + f) k)) % 6)), .int (nI i2), .int (nI v2), .int (nI f2)]) (rest := []) ⟨hx, hb, hml, hown, hts⟩ (c_X12_isMade_6 l D ty A u C ma t0 mi g n1 n2 nL n4 n5 th rep bro hR (cn (g 16 (lkj g nL ((i * 6 + v) * 6 + f) k)) / 36) (cn (g 16 (lkj g nL ((i * 6 + v) * 6 + f) k)) / 6 % 6) (cn (g 16 (lkj g nL ((i * 6 + v) * 6 + f) k)) % 6) i2 v2 f2 (by omega) (by omega) (by omega) (by omega) (by omega) (by omega) (by omega)) (cwV 6 hts gX12_isMade_X12_isMade rfl rfl rfl (by decide +kernel) ⟨Nat.le_of_ble_eq_true rfl, Nat.le_of_ble_eq_true rfl⟩) mI_blind (mI_pre hM hK hMS hS) (va_recv hK (hM.Pa hR.o.1 rfl hR.o.2) (ci := 13) (q0 := 0) rfl rfl) rfl hl.1 rfl (Nat.le_of_ble_eq_true rfl) dX12_isMade_110 ⟨Nat.le_of_ble_eq_true rfl, Nat.le_of_ble_eq_true rfl⟩ (fun r_20 hr_20 => ?_)
          subst hr_20
          refine zeq (show bI _ = bI (mdN g nL ((i2 * 6 + v2) * 6 + f2) 6 (cn (g 16 (lkj g nL ((i * 6 + v) * 6 + f) k)))) from by rw [show ((cn (g 16 (lkj g nL ((i * 6 + v) * 6 + f) k))) / 36 * 6 + (cn (g 16 (lkj g nL ((i * 6 + v) * 6 + f) k))) / 6 % 6) * 6 + (cn (g 16 (lkj g nL ((i * 6 + v) * 6 + f) k))) % 6 = (cn (g 16 (lkj g nL ((i * 6 + v) * 6 + f) k))) by omega]) ?_
          refine lv_if_eq (tgt := 118) hx hb dX12_isMade_113 (by decide) (fun c_21 => ?_) (fun c_21 => ?_)
          · have c_21 := bI_f c_21
            refine lv_iinc (v := nI (k + 1)) (lv' := [(8, .int (nI (k + 1))), (9, .ref (ma 23 (lkj g nL ((i * 6 + v) * 6 + f) k))), (7, .ref (ma 21 ((i * 6 + v) * 6 + f))), (0, .ref (ma 0 0)), (1, .int (nI i)), (2, .int (nI v)), (3, .int (nI f)), (4, .int (nI i2)), (5, .int (nI v2)), (6, .int (nI f2))]) hx hb dX12_isMade_118 hl (k := 1) rfl (nI_add k 1) (by decide) rfl (fun ls hl => ?_)
            refine lv_goto (tgt := 36) hx hb dX12_isMade_121 (by decide) ?_
            refine ih_k () ls (by omega) ⟨fun k9 h9 => (Nat.lt_or_ge k9 k).elim (hq_k k9) (fun h8 => by rw [show k9 = k by omega, c_21, decide_eq_false (by omega)]; rfl), show lv_has ls 10 [(8, .int (nI (k + 1))), (7, .ref (ma 21 ((i * 6 + v) * 6 + f))), (0, .ref (ma 0 0)), (1, .int (nI i)), (2, .int (nI v)), (3, .int (nI f)), (4, .int (nI i2)), (5, .int (nI v2)), (6, .int (nI f2))] from ?_⟩
            exact lv_sub hl [0, 2, 3, 4, 5, 6, 7, 8, 9] rfl
          · have c_21 := bI_t c_21
            refine lv_iconst (v := nI 1) hx hb dX12_isMade_116 (by decide) ?_
            exact W.zret (v := nI 1) hx hb hr rfl (fun t ht hW => ⟨_, rfl, bI_n1 (mdN_t hkl9 (by rw [c_21, Bool.or_true])), ht⟩) (fun _ h => nomatch h) dX12_isMade_117
set_option maxHeartbeats 400000 in
set_option maxRecDepth 100000 in
theorem c_X12_isMade_8 (l : Launch) (D : va_G) (ty : Nat → ClassId) (A : Nat → Prop) (u : Nat → Nat → Prop) (C : Nat → Nat → va_E) (ma : Nat → Nat → Nat) (t0 mi : Nat) (g : Nat → Nat → Int32) (n1 n2 nL n4 n5 : Nat) (th : Int32) (rep bro : Nat → Nat → Int32) (hR : mR ty t0 g n1 n2 nL n4 n5 th rep bro u C ma) (i v f i2 v2 f2 : Nat) (hd : i < 8) (hi : i < n1) (hv : v < nV g i) (hf : f < 6) (hi2 : i2 < 8) (hv2 : v2 < 6) (hf2 : f2 < 6) : Met l yX12_isMade wsX12_isMade ({ frames := 10, cells := 0, slots := 0, locals := 267 }) (va_Pc [.ref (ma 0 0), .int (nI i), .int (nI v), .int (nI f), .int (nI i2), .int (nI v2), .int (nI f2)] (mI D ty A u C ma t0 mi)) (vp_Si (fun v_ => v_ = bI (mdN g nL ((i2 * 6 + v2) * 6 + f2) 8 ((i * 6 + v) * 6 + f)))) 0 0 (fun _ => False) := by
  refine zMet (cc := cX12_isMade) (maxL := 10) (ret := (some .boolean)) (by decide) rfl (Nat.le_of_ble_eq_true rfl) ?_
  intro p e s m below meth c hx hb hr hts hown hlocks hml hB ls hl
  obtain ⟨hM, hK, hMS⟩ := hB
  have hS : va_S A s.heap s.heap [] := va_S.rf
  have hbn := hR.I.b1
  have hbs := hR.I.b2
  have hbl := hR.I.bL
  have hbc := hR.I.b4
  have hbr := hR.I.b5
  have hv7 := (hR.I.v7 hi).2
  have hlen := hR.I.len (show (i * 6 + v) * 6 + f < 288 by omega)
  have hl : lv_has ls 10 [(0, .ref (ma 0 0)), (1, .int (nI i)), (2, .int (nI v)), (3, .int (nI f)), (4, .int (nI i2)), (5, .int (nI v2)), (6, .int (nI f2))] := hl
  have hinX12 : ∀ w ∈ wsX120, w ∈ wsX12_isMade := by decide +kernel
  have hk1 := hts (.fieldLink RX12 10 "DatamarketDeskModel" "sets" "Ljava/util/ArrayList;") (by decide +kernel)
  have hk2 := hts (.classLink RX12 49 "DatamarketDeskModel$DataSet") (by decide +kernel)
  have hinX7 : ∀ w ∈ wsX70, w ∈ wsX12_isMade := by decide +kernel
  have hk4 := hts (.fieldLink RX12 69 "DatamarketDeskModel$DataSet" "versions" "Ljava/util/ArrayList;") (by decide +kernel)
  have hk5 := hts (.classLink RX12 72 "DatamarketDeskModel$Version") (by decide +kernel)
  have hinX11 : ∀ w ∈ wsX110, w ∈ wsX12_isMade := by decide +kernel
  have hk7 := hts (.fieldLink RX12 87 "DatamarketDeskModel$Version" "links" "Ljava/util/ArrayList;") (by decide +kernel)
  have hk8 := hts (.classLink RX12 7 "java/util/ArrayList") (by decide +kernel)
  have hk9 := hts (.classLink RX12 90 "DatamarketDeskModel$Link") (by decide +kernel)
  have hinX8 : ∀ w ∈ wsX80, w ∈ wsX12_isMade := by decide +kernel
  have hk11 := hts (.fieldLink RX12 92 "DatamarketDeskModel$Link" "set" "I") (by decide +kernel)
  have hk12 := hts (.fieldLink RX12 95 "DatamarketDeskModel$Link" "version" "I") (by decide +kernel)
  have hk13 := hts (.fieldLink RX12 98 "DatamarketDeskModel$Link" "field" "I") (by decide +kernel)
  refine lv_aload_n hx hb dX12_isMade_0 rfl (lv_at hl 0 rfl) ?_
  refine va_get hx hb hts hinX12 hown hK (hM.Pa hR.o.1 rfl hR.o.2) 0 rfl rfl 1 (by decide) (hk1) (fun _ h9 => h9) rfl dX12_isMade_1 ?_
  refine lv_iload_n hx hb dX12_isMade_4 rfl (lv_at hl 1 rfl) ?_
  obtain ⟨huz_1, hnz_1, mz_1, bz_1, hCz_1⟩ := isL.hd hR.l1
  refine zcVr (x := .ref (ma 9 i)) (As := [.int (nI i)]) (rest := []) ⟨hx, hb, hml, hown, hts⟩ (c_get l D ty A u C ma t0 mi 1 0 n1 (ma 9) hR.l1 i (by omega)) (cwV 1 hts gX12_isMade_Jx4a65c_get_915e3 rfl rfl rfl (by decide +kernel) ⟨Nat.le_of_ble_eq_true rfl, Nat.le_of_ble_eq_true rfl⟩) mI_blind (mI_pre hM hK hMS hS) (va_recv hK (hM.Pa huz_1 rfl hCz_1) (ci := 0) (q0 := 0) rfl rfl) rfl hl.1 rfl (Nat.le_of_ble_eq_true rfl) dX12_isMade_5 ⟨Nat.le_of_ble_eq_true rfl, Nat.le_of_ble_eq_true rfl⟩ ?_
  refine va_castS hx hb hown (hk2) ((hK.1 8 _ rfl).2) (va_recv hK (hM.Pa (hR.s9 (i := i) (by omega)).1 rfl (hR.s9 (i := i) (by omega)).2) (ci := 8) (q0 := 0) rfl rfl) dX12_isMade_8 ?_
  refine va_get hx hb hts hinX7 hown hK (hM.Pa (hR.s9 (i := i) (by omega)).1 rfl (hR.s9 (i := i) (by omega)).2) 0 rfl rfl 3 (by decide) (hk4) (fun _ h9 => h9) rfl dX12_isMade_11 ?_
  refine lv_iload_n hx hb dX12_isMade_14 rfl (lv_at hl 2 rfl) ?_
  obtain ⟨huz_3, hnz_3, mz_3, bz_3, hCz_3⟩ := isL.hd (hR.s12 (i := i) (by omega))
  refine zcVr (x := .ref (ma 15 (i * 6 + v))) (As := [.int (nI v)]) (rest := []) ⟨hx, hb, hml, hown, hts⟩ (c_get l D ty A u C ma t0 mi 12 i (nV g i) (fun v => ma 15 (i * 6 + v)) (hR.s12 (i := i) (by omega)) v (by omega)) (cwV 1 hts gX12_isMade_Jx4a65c_get_915e3 rfl rfl rfl (by decide +kernel) ⟨Nat.le_of_ble_eq_true rfl, Nat.le_of_ble_eq_true rfl⟩) mI_blind (mI_pre hM hK hMS hS) (va_recv hK (hM.Pa huz_3 rfl hCz_3) (ci := 0) (q0 := 0) rfl rfl) rfl hl.1 rfl (Nat.le_of_ble_eq_true rfl) dX12_isMade_15 ⟨Nat.le_of_ble_eq_true rfl, Nat.le_of_ble_eq_true rfl⟩ ?_
  refine va_castS hx hb hown (hk5) ((hK.1 12 _ rfl).2) (va_recv hK (hM.Pa (hR.v15 (i := i) (v := v) (by omega) (by omega)).1 rfl (hR.v15 (i := i) (v := v) (by omega) (by omega)).2) (ci := 12) (q0 := 0) rfl rfl) dX12_isMade_18 ?_
  refine va_get hx hb hts hinX11 hown hK (hM.Pa (hR.v15 (i := i) (v := v) (by omega) (by omega)).1 rfl (hR.v15 (i := i) (v := v) (by omega) (by omega)).2) 0 rfl rfl 4 (by decide) (hk7) (fun _ h9 => h9) rfl dX12_isMade_21 ?_
  refine lv_iload_n hx hb dX12_isMade_24 rfl (lv_at hl 3 rfl) ?_
  obtain ⟨huz_5, hnz_5, mz_5, bz_5, hCz_5⟩ := isL.hd (hR.v19 (i := i) (v := v) (by omega) (by omega))
  refine zcVr (x := .ref (ma 21 ((i * 6 + v) * 6 + f))) (As := [.int (nI f)]) (rest := []) ⟨hx, hb, hml, hown, hts⟩ (c_get l D ty A u C ma t0 mi 19 (i * 6 + v) 6 (fun f => ma 21 ((i * 6 + v) * 6 + f)) (hR.v19 (i := i) (v := v) (by omega) (by omega)) f (by omega)) (cwV 1 hts gX12_isMade_Jx4a65c_get_915e3 rfl rfl rfl (by decide +kernel) ⟨Nat.le_of_ble_eq_true rfl, Nat.le_of_ble_eq_true rfl⟩) mI_blind (mI_pre hM hK hMS hS) (va_recv hK (hM.Pa huz_5 rfl hCz_5) (ci := 0) (q0 := 0) rfl rfl) rfl hl.1 rfl (Nat.le_of_ble_eq_true rfl) dX12_isMade_25 ⟨Nat.le_of_ble_eq_true rfl, Nat.le_of_ble_eq_true rfl⟩ ?_
  obtain ⟨huz_7, hnz_7, mz_7, bz_7, hCz_7⟩ := isL.hd (hR.v21 (i := i) (v := v) (f := f) (by omega) (by omega) (by omega))
  refine va_castS hx hb hown (hk8) ((hK.1 0 _ rfl).2) (va_recv hK (hM.Pa huz_7 rfl hCz_7) (ci := 0) (q0 := 0) rfl rfl) dX12_isMade_28 ?_
  refine lv_astore (lv' := [(7, .ref (ma 21 ((i * 6 + v) * 6 + f))), (0, .ref (ma 0 0)), (1, .int (nI i)), (2, .int (nI v)), (3, .int (nI f)), (4, .int (nI i2)), (5, .int (nI v2)), (6, .int (nI f2))]) hx hb dX12_isMade_31 hl (by decide) rfl (fun ls hl => ?_)
  refine lv_iconst (v := nI 0) hx hb dX12_isMade_33 (by decide) ?_
  refine lv_istore (lv' := [(8, .int (nI 0)), (7, .ref (ma 21 ((i * 6 + v) * 6 + f))), (0, .ref (ma 0 0)), (1, .int (nI i)), (2, .int (nI v)), (3, .int (nI f)), (4, .int (nI i2)), (5, .int (nI v2)), (6, .int (nI f2))]) hx hb dX12_isMade_34 hl (by decide) rfl (fun ls hl => ?_)
  refine zloopP (τ := Unit) (fun k _ ls => (∀ k9, k9 < k → (decide (cn (g 16 (lkj g nL ((i * 6 + v) * 6 + f) k9)) = ((i2 * 6 + v2) * 6 + f2)) || mdN g nL ((i2 * 6 + v2) * 6 + f2) 7 (cn (g 16 (lkj g nL ((i * 6 + v) * 6 + f) k9)))) = false) ∧ lv_has ls 10 [(8, .int (nI k)), (7, .ref (ma 21 ((i * 6 + v) * 6 + f))), (0, .ref (ma 0 0)), (1, .int (nI i)), (2, .int (nI v)), (3, .int (nI f)), (4, .int (nI i2)), (5, .int (nI v2)), (6, .int (nI f2))]) ((lkl g nL ((i * 6 + v) * 6 + f)).length) ?_ 0 () ls (Nat.zero_le _) ⟨(fun _ h => absurd h (Nat.not_lt_zero _)), lv_sub hl [0, 1, 2, 3, 4, 5, 6, 7, 8] rfl⟩
  intro k _ ls hi_k hinv_k ih_k
  obtain ⟨hq_k, hl⟩ := hinv_k
  have hl : lv_has ls 10 [(8, .int (nI k)), (7, .ref (ma 21 ((i * 6 + v) * 6 + f))), (0, .ref (ma 0 0)), (1, .int (nI i)), (2, .int (nI v)), (3, .int (nI f)), (4, .int (nI i2)), (5, .int (nI v2)), (6, .int (nI f2))] := hl
  refine lv_iload hx hb dX12_isMade_36 (lv_at hl 0 rfl) ?_
  refine lv_aload hx hb dX12_isMade_38 (lv_at hl 1 rfl) ?_
  obtain ⟨huz_8, hnz_8, mz_8, bz_8, hCz_8⟩ := isL.hd (hR.v21 (i := i) (v := v) (f := f) (by omega) (by omega) (by omega))
  refine zcVi (As := []) (rest := [.int (nI k)]) ⟨hx, hb, hml, hown, hts⟩ (c_size l D ty A u C ma t0 mi 21 ((i * 6 + v) * 6 + f) ((lkl g nL ((i * 6 + v) * 6 + f)).length) (fun k => ma 23 (lkj g nL ((i * 6 + v) * 6 + f) k)) (hR.v21 (i := i) (v := v) (f := f) (by omega) (by omega) (by omega))) (cwV 0 hts gX12_isMade_Jx4a65c_size_8abf5 rfl rfl rfl (by decide +kernel) ⟨Nat.le_of_ble_eq_true rfl, Nat.le_of_ble_eq_true rfl⟩) mI_blind (mI_pre hM hK hMS hS) (va_recv hK (hM.Pa huz_8 rfl hCz_8) (ci := 0) (q0 := 0) rfl rfl) rfl hl.1 rfl (Nat.le_of_ble_eq_true rfl) dX12_isMade_40 ⟨Nat.le_of_ble_eq_true rfl, Nat.le_of_ble_eq_true rfl⟩ (fun r_9 hr_9 => ?_)
  subst hr_9
  refine lv_icmp_ge (tgt := 124) hx hb dX12_isMade_43 (by decide) (fun c_10 => ?_) (fun c_10 => ?_)
  · have c_10 := zn_geT (a := k) (b := ((lkl g nL ((i * 6 + v) * 6 + f)).length)) (by omega) (by omega) c_10
    obtain e9 : (lkl g nL ((i * 6 + v) * 6 + f)).length = k := by omega
    refine lv_iconst (v := nI 0) hx hb dX12_isMade_124 (by decide) ?_
    exact W.zret (v := nI 0) hx hb hr rfl (fun t ht hW => ⟨_, rfl, bI_n0 (mdN_f (fun k9 h9 => hq_k k9 (by omega))), ht⟩) (fun _ h => nomatch h) dX12_isMade_125
  · have c_10 := zn_geF (a := k) (b := ((lkl g nL ((i * 6 + v) * 6 + f)).length)) (by omega) (by omega) c_10
    have hkl9 : k < (lkl g nL ((i * 6 + v) * 6 + f)).length := c_10
    have hj := lkj_mem hkl9
    have hj1 := hj.1
    have hp15 : cn (g 15 (lkj g nL ((i * 6 + v) * 6 + f) k)) = (i * 6 + v) * 6 + f := by rw [hj.2]; exact cn_nI (by omega)
    have hlp := hR.I.lkp hj1
    have hlb := (hR.I.lk hj1).2.2
    rw [hp15] at hlp
    refine lv_aload hx hb dX12_isMade_46 (lv_at hl 1 rfl) ?_
    refine lv_iload hx hb dX12_isMade_48 (lv_at hl 0 rfl) ?_
    obtain ⟨huz_11, hnz_11, mz_11, bz_11, hCz_11⟩ := isL.hd (hR.v21 (i := i) (v := v) (f := f) (by omega) (by omega) (by omega))
    refine zcVr (x := .ref (ma 23 (lkj g nL ((i * 6 + v) * 6 + f) k))) (As := [.int (nI k)]) (rest := []) ⟨hx, hb, hml, hown, hts⟩ (c_get l D ty A u C ma t0 mi 21 ((i * 6 + v) * 6 + f) ((lkl g nL ((i * 6 + v) * 6 + f)).length) (fun k => ma 23 (lkj g nL ((i * 6 + v) * 6 + f) k)) (hR.v21 (i := i) (v := v) (f := f) (by omega) (by omega) (by omega)) k (by omega)) (cwV 1 hts gX12_isMade_Jx4a65c_get_915e3 rfl rfl rfl (by decide +kernel) ⟨Nat.le_of_ble_eq_true rfl, Nat.le_of_ble_eq_true rfl⟩) mI_blind (mI_pre hM hK hMS hS) (va_recv hK (hM.Pa huz_11 rfl hCz_11) (ci := 0) (q0 := 0) rfl rfl) rfl hl.1 rfl (Nat.le_of_ble_eq_true rfl) dX12_isMade_50 ⟨Nat.le_of_ble_eq_true rfl, Nat.le_of_ble_eq_true rfl⟩ ?_
    refine va_castS hx hb hown (hk9) ((hK.1 9 _ rfl).2) (va_recv hK (hM.Pa (hR.k23 (j := lkj g nL ((i * 6 + v) * 6 + f) k) (by omega)).1 rfl (hR.k23 (j := lkj g nL ((i * 6 + v) * 6 + f) k) (by omega)).2) (ci := 9) (q0 := 0) rfl rfl) dX12_isMade_53 ?_
    refine lv_astore (lv' := [(9, .ref (ma 23 (lkj g nL ((i * 6 + v) * 6 + f) k))), (8, .int (nI k)), (7, .ref (ma 21 ((i * 6 + v) * 6 + f))), (0, .ref (ma 0 0)), (1, .int (nI i)), (2, .int (nI v)), (3, .int (nI f)), (4, .int (nI i2)), (5, .int (nI v2)), (6, .int (nI f2))]) hx hb dX12_isMade_56 hl (by decide) rfl (fun ls hl => ?_)
    refine lv_aload hx hb dX12_isMade_58 (lv_at hl 0 rfl) ?_
    refine va_get hx hb hts hinX8 hown hK (hM.Pa (hR.k23 (j := lkj g nL ((i * 6 + v) * 6 + f) k) (by omega)).1 rfl (hR.k23 (j := lkj g nL ((i * 6 + v) * 6 + f) k) (by omega)).2) 0 rfl rfl 0 (by decide) (hk11) (fun _ h9 => h9) rfl dX12_isMade_60 ?_
    refine lv_iload hx hb dX12_isMade_63 (lv_at hl 7 rfl) ?_
    refine lv_icmp_ne (tgt := 88) hx hb dX12_isMade_65 (by decide) (fun c_13 => ?_) (fun c_13 => ?_)
    · have c_13 := zn_neT (a := (cn (g 16 (lkj g nL ((i * 6 + v) * 6 + f) k)) / 36)) (b := i2) (by omega) (by omega) c_13
      refine lv_aload_n hx hb dX12_isMade_88 rfl (lv_at hl 3 rfl) ?_
      refine lv_aload hx hb dX12_isMade_89 (lv_at hl 0 rfl) ?_
      refine va_get hx hb hts hinX8 hown hK (hM.Pa (hR.k23 (j := lkj g nL ((i * 6 + v) * 6 + f) k) (by omega)).1 rfl (hR.k23 (j := lkj g nL ((i * 6 + v) * 6 + f) k) (by omega)).2) 0 rfl rfl 0 (by decide) (hk11) (fun _ h9 => h9) rfl dX12_isMade_91 ?_
      refine lv_aload hx hb dX12_isMade_94 (lv_at hl 0 rfl) ?_
      refine va_get hx hb hts hinX8 hown hK (hM.Pa (hR.k23 (j := lkj g nL ((i * 6 + v) * 6 + f) k) (by omega)).1 rfl (hR.k23 (j := lkj g nL ((i * 6 + v) * 6 + f) k) (by omega)).2) 0 rfl rfl 1 (by decide) (hk12) (fun _ h9 => h9) rfl dX12_isMade_96 ?_
      refine lv_aload hx hb dX12_isMade_99 (lv_at hl 0 rfl) ?_
      refine va_get hx hb hts hinX8 hown hK (hM.Pa (hR.k23 (j := lkj g nL ((i * 6 + v) * 6 + f) k) (by omega)).1 rfl (hR.k23 (j := lkj g nL ((i * 6 + v) * 6 + f) k) (by omega)).2) 0 rfl rfl 2 (by decide) (hk13) (fun _ h9 => h9) rfl dX12_isMade_101 ?_
      refine lv_iload hx hb dX12_isMade_104 (lv_at hl 7 rfl) ?_
      refine lv_iload hx hb dX12_isMade_106 (lv_at hl 8 rfl) ?_
      refine lv_iload hx hb dX12_isMade_108 (lv_at hl 9 rfl) ?_
      refine zcVi (As := [.int (nI (cn (g 16 (lkj g nL ((i * 6 + v) * 6 + f) k)) / 36)), .int (nI (cn (g 16 (lkj g nL ((i * 6 + v) * 6 + f) k)) / 6 % 6)), .int (nI (cn (g 16 (lkj g nL ((i * 6 + v) * 6 + f) k)) % 6)), .int (nI i2), .int (nI v2), .int (nI f2)]) (rest := []) ⟨hx, hb, hml, hown, hts⟩ (c_X12_isMade_7 l D ty A u C ma t0 mi g n1 n2 nL n4 n5 th rep bro hR (cn (g 16 (lkj g nL ((i * 6 + v) * 6 + f) k)) / 36) (cn (g 16 (lkj g nL ((i * 6 + v) * 6 + f) k)) / 6 % 6) (cn (g 16 (lkj g nL ((i * 6 + v) * 6 + f) k)) % 6) i2 v2 f2 (by omega) (by omega) (by omega) (by omega) (by omega) (by omega) (by omega)) (cwV 6 hts gX12_isMade_X12_isMade rfl rfl rfl (by decide +kernel) ⟨Nat.le_of_ble_eq_true rfl, Nat.le_of_ble_eq_true rfl⟩) mI_blind (mI_pre hM hK hMS hS) (va_recv hK (hM.Pa hR.o.1 rfl hR.o.2) (ci := 13) (q0 := 0) rfl rfl) rfl hl.1 rfl (Nat.le_of_ble_eq_true rfl) dX12_isMade_110 ⟨Nat.le_of_ble_eq_true rfl, Nat.le_of_ble_eq_true rfl⟩ (fun r_14 hr_14 => ?_)
      subst hr_14
      refine zeq (show bI _ = bI (mdN g nL ((i2 * 6 + v2) * 6 + f2) 7 (cn (g 16 (lkj g nL ((i * 6 + v) * 6 + f) k)))) from by rw [show ((cn (g 16 (lkj g nL ((i * 6 + v) * 6 + f) k))) / 36 * 6 + (cn (g 16 (lkj g nL ((i * 6 + v) * 6 + f) k))) / 6 % 6) * 6 + (cn (g 16 (lkj g nL ((i * 6 + v) * 6 + f) k))) % 6 = (cn (g 16 (lkj g nL ((i * 6 + v) * 6 + f) k))) by omega]) ?_
      refine lv_if_eq (tgt := 118) hx hb dX12_isMade_113 (by decide) (fun c_15 => ?_) (fun c_15 => ?_)
      · have c_15 := bI_f c_15
        refine lv_iinc (v := nI (k + 1)) (lv' := [(8, .int (nI (k + 1))), (9, .ref (ma 23 (lkj g nL ((i * 6 + v) * 6 + f) k))), (7, .ref (ma 21 ((i * 6 + v) * 6 + f))), (0, .ref (ma 0 0)), (1, .int (nI i)), (2, .int (nI v)), (3, .int (nI f)), (4, .int (nI i2)), (5, .int (nI v2)), (6, .int (nI f2))]) hx hb dX12_isMade_118 hl (k := 1) rfl (nI_add k 1) (by decide) rfl (fun ls hl => ?_)
        refine lv_goto (tgt := 36) hx hb dX12_isMade_121 (by decide) ?_
        refine ih_k () ls (by omega) ⟨fun k9 h9 => (Nat.lt_or_ge k9 k).elim (hq_k k9) (fun h8 => by rw [show k9 = k by omega, c_15, decide_eq_false (by omega)]; rfl), show lv_has ls 10 [(8, .int (nI (k + 1))), (7, .ref (ma 21 ((i * 6 + v) * 6 + f))), (0, .ref (ma 0 0)), (1, .int (nI i)), (2, .int (nI v)), (3, .int (nI f)), (4, .int (nI i2)), (5, .int (nI v2)), (6, .int (nI f2))] from ?_⟩
        exact lv_sub hl [0, 2, 3, 4, 5, 6, 7, 8, 9] rfl
      · have c_15 := bI_t c_15
        refine lv_iconst (v := nI 1) hx hb dX12_isMade_116 (by decide) ?_
        exact W.zret (v := nI 1) hx hb hr rfl (fun t ht hW => ⟨_, rfl, bI_n1 (mdN_t hkl9 (by rw [c_15, Bool.or_true])), ht⟩) (fun _ h => nomatch h) dX12_isMade_117
    · have c_13 := zn_neF (a := (cn (g 16 (lkj g nL ((i * 6 + v) * 6 + f) k)) / 36)) (b := i2) (by omega) (by omega) c_13
      refine lv_aload hx hb dX12_isMade_68 (lv_at hl 0 rfl) ?_
      refine va_get hx hb hts hinX8 hown hK (hM.Pa (hR.k23 (j := lkj g nL ((i * 6 + v) * 6 + f) k) (by omega)).1 rfl (hR.k23 (j := lkj g nL ((i * 6 + v) * 6 + f) k) (by omega)).2) 0 rfl rfl 1 (by decide) (hk12) (fun _ h9 => h9) rfl dX12_isMade_70 ?_
      refine lv_iload hx hb dX12_isMade_73 (lv_at hl 8 rfl) ?_
      refine lv_icmp_ne (tgt := 88) hx hb dX12_isMade_75 (by decide) (fun c_16 => ?_) (fun c_16 => ?_)
      · have c_16 := zn_neT (a := (cn (g 16 (lkj g nL ((i * 6 + v) * 6 + f) k)) / 6 % 6)) (b := v2) (by omega) (by omega) c_16
        refine lv_aload_n hx hb dX12_isMade_88 rfl (lv_at hl 3 rfl) ?_
        refine lv_aload hx hb dX12_isMade_89 (lv_at hl 0 rfl) ?_
        refine va_get hx hb hts hinX8 hown hK (hM.Pa (hR.k23 (j := lkj g nL ((i * 6 + v) * 6 + f) k) (by omega)).1 rfl (hR.k23 (j := lkj g nL ((i * 6 + v) * 6 + f) k) (by omega)).2) 0 rfl rfl 0 (by decide) (hk11) (fun _ h9 => h9) rfl dX12_isMade_91 ?_
        refine lv_aload hx hb dX12_isMade_94 (lv_at hl 0 rfl) ?_
        refine va_get hx hb hts hinX8 hown hK (hM.Pa (hR.k23 (j := lkj g nL ((i * 6 + v) * 6 + f) k) (by omega)).1 rfl (hR.k23 (j := lkj g nL ((i * 6 + v) * 6 + f) k) (by omega)).2) 0 rfl rfl 1 (by decide) (hk12) (fun _ h9 => h9) rfl dX12_isMade_96 ?_
        refine lv_aload hx hb dX12_isMade_99 (lv_at hl 0 rfl) ?_
        refine va_get hx hb hts hinX8 hown hK (hM.Pa (hR.k23 (j := lkj g nL ((i * 6 + v) * 6 + f) k) (by omega)).1 rfl (hR.k23 (j := lkj g nL ((i * 6 + v) * 6 + f) k) (by omega)).2) 0 rfl rfl 2 (by decide) (hk13) (fun _ h9 => h9) rfl dX12_isMade_101 ?_
        refine lv_iload hx hb dX12_isMade_104 (lv_at hl 7 rfl) ?_
        refine lv_iload hx hb dX12_isMade_106 (lv_at hl 8 rfl) ?_
        refine lv_iload hx hb dX12_isMade_108 (lv_at hl 9 rfl) ?_
        refine zcVi (As := [.int (nI (cn (g 16 (lkj g nL ((i * 6 + v) * 6 + f) k)) / 36)), .int (nI (cn (g 16 (lkj g nL ((i * 6 + v) * 6 + f) k)) / 6 % 6)), .int (nI (cn (g 16 (lkj g nL ((i * 6 + v) * 6 + f) k)) % 6)), .int (nI i2), .int (nI v2), .int (nI f2)]) (rest := []) ⟨hx, hb, hml, hown, hts⟩ (c_X12_isMade_7 l D ty A u C ma t0 mi g n1 n2 nL n4 n5 th rep bro hR (cn (g 16 (lkj g nL ((i * 6 + v) * 6 + f) k)) / 36) (cn (g 16 (lkj g nL ((i * 6 + v) * 6 + f) k)) / 6 % 6) (cn (g 16 (lkj g nL ((i * 6 + v) * 6 + f) k)) % 6) i2 v2 f2 (by omega) (by omega) (by omega) (by omega) (by omega) (by omega) (by omega)) (cwV 6 hts gX12_isMade_X12_isMade rfl rfl rfl (by decide +kernel) ⟨Nat.le_of_ble_eq_true rfl, Nat.le_of_ble_eq_true rfl⟩) mI_blind (mI_pre hM hK hMS hS) (va_recv hK (hM.Pa hR.o.1 rfl hR.o.2) (ci := 13) (q0 := 0) rfl rfl) rfl hl.1 rfl (Nat.le_of_ble_eq_true rfl) dX12_isMade_110 ⟨Nat.le_of_ble_eq_true rfl, Nat.le_of_ble_eq_true rfl⟩ (fun r_17 hr_17 => ?_)
        subst hr_17
        refine zeq (show bI _ = bI (mdN g nL ((i2 * 6 + v2) * 6 + f2) 7 (cn (g 16 (lkj g nL ((i * 6 + v) * 6 + f) k)))) from by rw [show ((cn (g 16 (lkj g nL ((i * 6 + v) * 6 + f) k))) / 36 * 6 + (cn (g 16 (lkj g nL ((i * 6 + v) * 6 + f) k))) / 6 % 6) * 6 + (cn (g 16 (lkj g nL ((i * 6 + v) * 6 + f) k))) % 6 = (cn (g 16 (lkj g nL ((i * 6 + v) * 6 + f) k))) by omega]) ?_
        refine lv_if_eq (tgt := 118) hx hb dX12_isMade_113 (by decide) (fun c_18 => ?_) (fun c_18 => ?_)
        · have c_18 := bI_f c_18
          refine lv_iinc (v := nI (k + 1)) (lv' := [(8, .int (nI (k + 1))), (9, .ref (ma 23 (lkj g nL ((i * 6 + v) * 6 + f) k))), (7, .ref (ma 21 ((i * 6 + v) * 6 + f))), (0, .ref (ma 0 0)), (1, .int (nI i)), (2, .int (nI v)), (3, .int (nI f)), (4, .int (nI i2)), (5, .int (nI v2)), (6, .int (nI f2))]) hx hb dX12_isMade_118 hl (k := 1) rfl (nI_add k 1) (by decide) rfl (fun ls hl => ?_)
          refine lv_goto (tgt := 36) hx hb dX12_isMade_121 (by decide) ?_
          refine ih_k () ls (by omega) ⟨fun k9 h9 => (Nat.lt_or_ge k9 k).elim (hq_k k9) (fun h8 => by rw [show k9 = k by omega, c_18, decide_eq_false (by omega)]; rfl), show lv_has ls 10 [(8, .int (nI (k + 1))), (7, .ref (ma 21 ((i * 6 + v) * 6 + f))), (0, .ref (ma 0 0)), (1, .int (nI i)), (2, .int (nI v)), (3, .int (nI f)), (4, .int (nI i2)), (5, .int (nI v2)), (6, .int (nI f2))] from ?_⟩
          exact lv_sub hl [0, 2, 3, 4, 5, 6, 7, 8, 9] rfl
        · have c_18 := bI_t c_18
          refine lv_iconst (v := nI 1) hx hb dX12_isMade_116 (by decide) ?_
          exact W.zret (v := nI 1) hx hb hr rfl (fun t ht hW => ⟨_, rfl, bI_n1 (mdN_t hkl9 (by rw [c_18, Bool.or_true])), ht⟩) (fun _ h => nomatch h) dX12_isMade_117
      · have c_16 := zn_neF (a := (cn (g 16 (lkj g nL ((i * 6 + v) * 6 + f) k)) / 6 % 6)) (b := v2) (by omega) (by omega) c_16
        refine lv_aload hx hb dX12_isMade_78 (lv_at hl 0 rfl) ?_
        refine va_get hx hb hts hinX8 hown hK (hM.Pa (hR.k23 (j := lkj g nL ((i * 6 + v) * 6 + f) k) (by omega)).1 rfl (hR.k23 (j := lkj g nL ((i * 6 + v) * 6 + f) k) (by omega)).2) 0 rfl rfl 2 (by decide) (hk13) (fun _ h9 => h9) rfl dX12_isMade_80 ?_
        refine lv_iload hx hb dX12_isMade_83 (lv_at hl 9 rfl) ?_
        refine lv_icmp_eq (tgt := 116) hx hb dX12_isMade_85 (by decide) (fun c_19 => ?_) (fun c_19 => ?_)
        · have c_19 := zn_eqT (a := (cn (g 16 (lkj g nL ((i * 6 + v) * 6 + f) k)) % 6)) (b := f2) (by omega) (by omega) c_19
          refine lv_iconst (v := nI 1) hx hb dX12_isMade_116 (by decide) ?_
          exact W.zret (v := nI 1) hx hb hr rfl (fun t ht hW => ⟨_, rfl, bI_n1 (mdN_t hkl9 (by rw [decide_eq_true (by omega), Bool.true_or])), ht⟩) (fun _ h => nomatch h) dX12_isMade_117
        · have c_19 := zn_eqF (a := (cn (g 16 (lkj g nL ((i * 6 + v) * 6 + f) k)) % 6)) (b := f2) (by omega) (by omega) c_19
          refine lv_aload_n hx hb dX12_isMade_88 rfl (lv_at hl 3 rfl) ?_
          refine lv_aload hx hb dX12_isMade_89 (lv_at hl 0 rfl) ?_
          refine va_get hx hb hts hinX8 hown hK (hM.Pa (hR.k23 (j := lkj g nL ((i * 6 + v) * 6 + f) k) (by omega)).1 rfl (hR.k23 (j := lkj g nL ((i * 6 + v) * 6 + f) k) (by omega)).2) 0 rfl rfl 0 (by decide) (hk11) (fun _ h9 => h9) rfl dX12_isMade_91 ?_
          refine lv_aload hx hb dX12_isMade_94 (lv_at hl 0 rfl) ?_
          refine va_get hx hb hts hinX8 hown hK (hM.Pa (hR.k23 (j := lkj g nL ((i * 6 + v) * 6 + f) k) (by omega)).1 rfl (hR.k23 (j := lkj g nL ((i * 6 + v) * 6 + f) k) (by omega)).2) 0 rfl rfl 1 (by decide) (hk12) (fun _ h9 => h9) rfl dX12_isMade_96 ?_
          refine lv_aload hx hb dX12_isMade_99 (lv_at hl 0 rfl) ?_
          refine va_get hx hb hts hinX8 hown hK (hM.Pa (hR.k23 (j := lkj g nL ((i * 6 + v) * 6 + f) k) (by omega)).1 rfl (hR.k23 (j := lkj g nL ((i * 6 + v) * 6 + f) k) (by omega)).2) 0 rfl rfl 2 (by decide) (hk13) (fun _ h9 => h9) rfl dX12_isMade_101 ?_
          refine lv_iload hx hb dX12_isMade_104 (lv_at hl 7 rfl) ?_
          refine lv_iload hx hb dX12_isMade_106 (lv_at hl 8 rfl) ?_
          refine lv_iload hx hb dX12_isMade_108 (lv_at hl 9 rfl) ?_
          refine zcVi (As := [.int (nI (cn (g 16 (lkj g nL ((i * 6 + v) * 6 + f) k)) / 36)), .int (nI (cn (g 16 (lkj g nL ((i * 6 + v) * 6 + f) k)) / 6 % 6)), .int (nI (cn (g 16 (lkj g nL ((i * 6 + v) * 6 + f) k)) % 6)), .int (nI i2), .int (nI v2), .int (nI f2)]) (rest := []) ⟨hx, hb, hml, hown, hts⟩ (c_X12_isMade_7 l D ty A u C ma t0 mi g n1 n2 nL n4 n5 th rep bro hR (cn (g 16 (lkj g nL ((i * 6 + v) * 6 + f) k)) / 36) (cn (g 16 (lkj g nL ((i * 6 + v) * 6 + f) k)) / 6 % 6) (cn (g 16 (lkj g nL ((i * 6 + v) * 6 + f) k)) % 6) i2 v2 f2 (by omega) (by omega) (by omega) (by omega) (by omega) (by omega) (by omega)) (cwV 6 hts gX12_isMade_X12_isMade rfl rfl rfl (by decide +kernel) ⟨Nat.le_of_ble_eq_true rfl, Nat.le_of_ble_eq_true rfl⟩) mI_blind (mI_pre hM hK hMS hS) (va_recv hK (hM.Pa hR.o.1 rfl hR.o.2) (ci := 13) (q0 := 0) rfl rfl) rfl hl.1 rfl (Nat.le_of_ble_eq_true rfl) dX12_isMade_110 ⟨Nat.le_of_ble_eq_true rfl, Nat.le_of_ble_eq_true rfl⟩ (fun r_20 hr_20 => ?_)
          subst hr_20
          refine zeq (show bI _ = bI (mdN g nL ((i2 * 6 + v2) * 6 + f2) 7 (cn (g 16 (lkj g nL ((i * 6 + v) * 6 + f) k)))) from by rw [show ((cn (g 16 (lkj g nL ((i * 6 + v) * 6 + f) k))) / 36 * 6 + (cn (g 16 (lkj g nL ((i * 6 + v) * 6 + f) k))) / 6 % 6) * 6 + (cn (g 16 (lkj g nL ((i * 6 + v) * 6 + f) k))) % 6 = (cn (g 16 (lkj g nL ((i * 6 + v) * 6 + f) k))) by omega]) ?_
          refine lv_if_eq (tgt := 118) hx hb dX12_isMade_113 (by decide) (fun c_21 => ?_) (fun c_21 => ?_)
          · have c_21 := bI_f c_21
            refine lv_iinc (v := nI (k + 1)) (lv' := [(8, .int (nI (k + 1))), (9, .ref (ma 23 (lkj g nL ((i * 6 + v) * 6 + f) k))), (7, .ref (ma 21 ((i * 6 + v) * 6 + f))), (0, .ref (ma 0 0)), (1, .int (nI i)), (2, .int (nI v)), (3, .int (nI f)), (4, .int (nI i2)), (5, .int (nI v2)), (6, .int (nI f2))]) hx hb dX12_isMade_118 hl (k := 1) rfl (nI_add k 1) (by decide) rfl (fun ls hl => ?_)
            refine lv_goto (tgt := 36) hx hb dX12_isMade_121 (by decide) ?_
            refine ih_k () ls (by omega) ⟨fun k9 h9 => (Nat.lt_or_ge k9 k).elim (hq_k k9) (fun h8 => by rw [show k9 = k by omega, c_21, decide_eq_false (by omega)]; rfl), show lv_has ls 10 [(8, .int (nI (k + 1))), (7, .ref (ma 21 ((i * 6 + v) * 6 + f))), (0, .ref (ma 0 0)), (1, .int (nI i)), (2, .int (nI v)), (3, .int (nI f)), (4, .int (nI i2)), (5, .int (nI v2)), (6, .int (nI f2))] from ?_⟩
            exact lv_sub hl [0, 2, 3, 4, 5, 6, 7, 8, 9] rfl
          · have c_21 := bI_t c_21
            refine lv_iconst (v := nI 1) hx hb dX12_isMade_116 (by decide) ?_
            exact W.zret (v := nI 1) hx hb hr rfl (fun t ht hW => ⟨_, rfl, bI_n1 (mdN_t hkl9 (by rw [c_21, Bool.or_true])), ht⟩) (fun _ h => nomatch h) dX12_isMade_117
