set_option maxHeartbeats 4000000 in
set_option maxRecDepth 100000 in
theorem c_add30 (l : Launch) (D : va_G) (ty : Nat → ClassId) (A : Nat → Prop) (u : Nat → Nat → Prop) (C : Nat → Nat → va_E) (ma : Nat → Nat → Nat) (t0 mi : Nat) (kl x n : Nat) (f : Nat → Nat) (hL : isL ty t0 u C ma kl x n f) (ke xe ci : Nat) (gs : List Value) (rc : vw_C) (hue : u ke xe) (hCe : C ke xe = eO ci gs) (hrc : vwCl[ci]? = some rc) (hcast : Cond.castable rc.1 "java/lang/Object" ∈ zNl) (hn1 : ¬ (ke = kl ∧ xe = x)) (hn2 : ¬ (ke = kl + 1 ∧ xe = x)) (h0 : n = 0) (hn40 : n < 40) : Met l yJx4a65c_add_72be8 wsJx4a65c_add_72be8 ({ frames := 3, cells := 1, slots := 60, locals := 61 }) (va_Pc [.ref (ma kl x), .ref (ma ke xe), .ref t0, .int (nI n)] (mI D ty A u C ma t0 mi)) (va_Qv (fun S : mSt => chg kl x u C ma S ∧ isL ty t0 S.1 S.2.1 S.2.2 kl x (n + 1) (fun j => if j = n then ma ke xe else f j)) (fun S t => mI D ty A S.1 S.2.1 S.2.2 t0 mi t) A) 1 60 A := by
  refine zMet (cc := cJx4a65c_add_72be8) (maxL := 4) (ret := none) (by decide) rfl (Nat.le_of_ble_eq_true rfl) ?_
  intro p e s m below meth c hx hb hr hts hown hlocks hml hB ls hl
  obtain ⟨hM, hK, hMS⟩ := hB
  have hS : va_S A s.heap s.heap [] := va_S.rf
  obtain ⟨hu1, hn0, m1, b1, hC1⟩ := hL.hd
  have hl : lv_has ls 4 [(0, .ref (ma kl x)), (1, .ref (ma ke xe)), (2, .ref t0), (3, .int (nI n))] := hl
  have hinJx4a65c : ∀ w ∈ wsJx4a65c0, w ∈ wsJx4a65c_add_72be8 := by decide +kernel
  have hk1 := hts (.fieldLink RJx4a65c 48 "java/util/ArrayList" "size" "I") (by decide +kernel)
  refine lv_iload_n hx hb dJx4a65c_add_72be8_0 rfl (lv_at hl 3 rfl) ?_
  refine lv_aload_n hx hb dJx4a65c_add_72be8_1 rfl (lv_at hl 2 rfl) ?_
  refine hMS.len hx hb hS dJx4a65c_add_72be8_2 ?_
  refine lv_icmp_ne (tgt := 11) hx hb dJx4a65c_add_72be8_3 (by decide) (fun c_1 => ?_) (fun c_1 => ?_)
  · have c_1 := zn_neT (a := n) (b := 0) (by omega) (by omega) c_1
    omega
  · have c_1 := zn_neF (a := n) (b := 0) (by omega) (by omega) c_1
    refine lv_aload_n hx hb dJx4a65c_add_72be8_6 rfl (lv_at hl 0 rfl) ?_
    refine va_callr (va_runV (As := []) (rest := []) ⟨hx, hb, hml, hown, hts⟩ (c_grow10 l D ty A u C ma t0 mi kl x n f hL h0) (cwV 0 hts gJx4a65c_add_72be8_Jx4a65c_grow_d5877 rfl rfl rfl (by decide +kernel) ⟨Nat.le_of_ble_eq_true rfl, Nat.le_of_ble_eq_true rfl⟩) ⟨zBl mI_blind, (va_recv hK (hM.Pa hu1 rfl hC1) (ci := 0) (q0 := 0) rfl rfl), fun U h1 h2 => ⟨rfl, mI_pre hM hK hMS hS U h1 h2⟩⟩ rfl rfl hl.1 rfl (lv_room (Nat.le_of_ble_eq_true rfl)) dJx4a65c_add_72be8_7 ⟨Nat.le_of_ble_eq_true rfl, Nat.le_of_ble_eq_true rfl⟩) hS (fun _ _ h => h) (fun _ h => h) (fun S_2 r_3 t H1 locs ht hvm hw hB9 hz1 hk1 hS => ?_)
    obtain ⟨u_4, C_5, ma_6⟩ := S_2
    obtain ⟨hchg, m2, N2, h2, gu1, gC1, gu2, gC2, gl1, gl2, gl3, gh⟩ := hw
    obtain ⟨hq9, hM, -, -⟩ := hB9
    rw [ht] at hM
    clear hk1 hz1 hvm ht
    clear t
    generalize H1 = H at hM hS ⊢
    have hM : mW D A u_4 C_5 ma_6 H := hM
    have hq9 : ma_6 (kl + 1) x = r_3 := hq9.symm
    have gu1 : u_4 kl x := gu1
    have gu2 : u_4 (kl + 1) x := gu2
    have gC1 : C_5 kl x = eO 0 [.int m2, .ref r_3, .int (nI n)] := by rw [← hq9]; exact gC1
    have gC2 : C_5 (kl + 1) x = eR (ty 2) N2 h2 := gC2
    have ga1 : ma_6 kl x = ma kl x := hchg.2.2 kl x (fun z => by omega)
    have hue : u_4 ke xe := hchg.1 _ _ hue
    have hCe : C_5 ke xe = eO ci gs := (hchg.2.1 ke xe hn1 hn2).trans hCe
    have hae : ma_6 ke xe = ma ke xe := hchg.2.2 ke xe hn2
    refine lv_astore_n (lv' := [(2, .ref r_3), (0, .ref (ma kl x)), (1, .ref (ma ke xe)), (3, .int (nI n))]) hx hb dJx4a65c_add_72be8_10 rfl hl (by decide) rfl (fun ls hl => ?_)
    refine lv_aload_n hx hb dJx4a65c_add_72be8_11 rfl (lv_at hl 0 rfl) ?_
    refine lv_iload_n hx hb dJx4a65c_add_72be8_12 rfl (lv_at hl 3 rfl) ?_
    refine lv_aload_n hx hb dJx4a65c_add_72be8_13 rfl (lv_at hl 2 rfl) ?_
    refine mastq hx hb hK hM hS gu2 hq9 2 gC2 rfl (okE.any hK hMS.2.2.2.2.2.1 (elO.ok ⟨ke, xe, _, _, _, hue, hae, hCe, hrc, hcast⟩ hM)) (i := n) (by omega) (by omega) dJx4a65c_add_72be8_14 (fun H locs hM hS ho => ?_)
    obtain ⟨C_7, eC_7⟩ : ∃ z, z = up2 C_5 (kl + 1) x (eR (ty 2) N2 (va_up h2 n (some (ma ke xe)))) := ⟨_, rfl⟩
    have hM : mW D A u_4 C_7 ma_6 H := by rw [eC_7]; exact hM
    have hC_8 : C_7 kl x = eO 0 [.int m2, .ref r_3, .int (nI n)] := by rw [eC_7, up2_n _ _ (fun z => by omega)]; exact gC1
    have hC_9 : C_7 (kl + 1) x = eR (ty 2) N2 (va_up h2 n (some (ma ke xe))) := by rw [eC_7]; exact up2_s _ _ _ _
    have hC_10 : C_7 ke xe = eO ci gs := by rw [eC_7, up2_n _ _ (fun z => by omega)]; exact hCe
    refine lv_aload_n hx hb dJx4a65c_add_72be8_15 rfl (lv_at hl 1 rfl) ?_
    refine lv_iload_n hx hb dJx4a65c_add_72be8_16 rfl (lv_at hl 3 rfl) ?_
    refine lv_iconst (v := nI 1) hx hb dJx4a65c_add_72be8_17 (by decide) ?_
    refine lv_iadd hx hb dJx4a65c_add_72be8_18 ?_
    refine zeq (nI_add n 1) ?_
    refine mput (v := .int (nI (n + 1))) (ty := .int) hx hb hts hinJx4a65c tyJx4a65c tyJx4a65c_ok nmJx4a65c hown hK hM hS gu1 ga1 hC_8 rfl 2 (by decide) (hk1) (fun _ h9 => h9) rfl (by decide +kernel) rfl rfl (Nat.le_of_ble_eq_true rfl) dJx4a65c_add_72be8_19 (fun H locs hM hS ho => ?_)
    obtain ⟨C_11, eC_11⟩ : ∃ z, z = up2 C_7 kl x (eO 0 [.int m2, .ref r_3, .int (nI (n + 1))]) := ⟨_, rfl⟩
    have hM : mW D A u_4 C_11 ma_6 H := by rw [eC_11]; exact hM
    have hC_12 : C_11 kl x = eO 0 [.int m2, .ref r_3, .int (nI (n + 1))] := by rw [eC_11]; exact up2_s _ _ _ _
    have hC_13 : C_11 (kl + 1) x = eR (ty 2) N2 (va_up h2 n (some (ma ke xe))) := by rw [eC_11, up2_n _ _ (fun z => by omega)]; exact hC_9
    have hC_14 : C_11 ke xe = eO ci gs := by rw [eC_11, up2_n _ _ (fun z => by omega)]; exact hC_10
    have hch9 : chg kl x u C ma (u_4, C_11, ma_6) := ⟨hchg.1, fun k9 x9 h1 h2 => by show C_11 k9 x9 = _; rw [eC_11, up2_n _ _ h1, eC_7, up2_n _ _ h2]; exact hchg.2.1 k9 x9 h1 h2, hchg.2.2⟩
    have hL9 : isL ty t0 (u_4, C_11, ma_6).1 (u_4, C_11, ma_6).2.1 (u_4, C_11, ma_6).2.2 kl x (n + 1) (fun j => if j = n then ma ke xe else f j) := ⟨gu1, by omega, m2, Or.inr ⟨by omega, by rw [show (u_4, C_11, ma_6).2.2 (kl + 1) x = _ from hq9]; exact hC_12, gu2, N2, va_up h2 n (some (ma ke xe)), hC_13, by omega, by omega, by omega, upL gh⟩⟩
    exact W.vret hx hb hr (fun t ht hW => ⟨⟨(u_4, C_11, ma_6), rfl, ⟨hch9, hL9⟩, mI_pre hM hK hMS hS t ht hW⟩, hS.F ht⟩) hS.2.2 dJx4a65c_add_72be8_22
set_option maxHeartbeats 4000000 in
set_option maxRecDepth 100000 in
theorem c_add3N (l : Launch) (D : va_G) (ty : Nat → ClassId) (A : Nat → Prop) (u : Nat → Nat → Prop) (C : Nat → Nat → va_E) (ma : Nat → Nat → Nat) (t0 mi : Nat) (kl x n : Nat) (f : Nat → Nat) (hL : isL ty t0 u C ma kl x n f) (ke xe ci : Nat) (gs : List Value) (rc : vw_C) (hue : u ke xe) (hCe : C ke xe = eO ci gs) (hrc : vwCl[ci]? = some rc) (hcast : Cond.castable rc.1 "java/lang/Object" ∈ zNl) (hn1 : ¬ (ke = kl ∧ xe = x)) (hn2 : ¬ (ke = kl + 1 ∧ xe = x)) (hpos : 0 < n) (hel : ∀ j, j < n → elO u C ma (f j)) (hful : ∀ N h, C (kl + 1) x = eR (ty 2) N h → 0 < n → N = n) (hn40 : n < 40) : Met l yJx4a65c_add_72be8 wsJx4a65c_add_72be8 ({ frames := 5, cells := 1, slots := 60, locals := 154 }) (va_Pc [.ref (ma kl x), .ref (ma ke xe), .ref (ma (kl + 1) x), .int (nI n)] (mI D ty A u C ma t0 mi)) (va_Qv (fun S : mSt => chg kl x u C ma S ∧ isL ty t0 S.1 S.2.1 S.2.2 kl x (n + 1) (fun j => if j = n then ma ke xe else f j)) (fun S t => mI D ty A S.1 S.2.1 S.2.2 t0 mi t) A) 1 60 A := by
  refine zMet (cc := cJx4a65c_add_72be8) (maxL := 4) (ret := none) (by decide) rfl (Nat.le_of_ble_eq_true rfl) ?_
  intro p e s m below meth c hx hb hr hts hown hlocks hml hB ls hl
  obtain ⟨hM, hK, hMS⟩ := hB
  have hS : va_S A s.heap s.heap [] := va_S.rf
  have hL0 := hL
  obtain ⟨hu1, hn0, m1, hC1, hu2, cap, hcv, hC2, hcap, hc2, hc3, hh⟩ := hL0.pos (by omega)
  obtain rfl : n = cap := (hful _ _ hC2 (by omega)).symm
  have hl : lv_has ls 4 [(0, .ref (ma kl x)), (1, .ref (ma ke xe)), (2, .ref (ma (kl + 1) x)), (3, .int (nI n))] := hl
  have hinJx4a65c : ∀ w ∈ wsJx4a65c0, w ∈ wsJx4a65c_add_72be8 := by decide +kernel
  have hk1 := hts (.fieldLink RJx4a65c 48 "java/util/ArrayList" "size" "I") (by decide +kernel)
  refine lv_iload_n hx hb dJx4a65c_add_72be8_0 rfl (lv_at hl 3 rfl) ?_
  refine lv_aload_n hx hb dJx4a65c_add_72be8_1 rfl (lv_at hl 2 rfl) ?_
  refine va_alen hx hb hK (hM.Pa hu2 rfl hC2) 0 2 rfl rfl (v := nI n) rfl dJx4a65c_add_72be8_2 ?_
  refine lv_icmp_ne (tgt := 11) hx hb dJx4a65c_add_72be8_3 (by decide) (fun c_1 => ?_) (fun c_1 => ?_)
  · have c_1 := zn_neT (a := n) (b := n) (by omega) (by omega) c_1
    omega
  · have c_1 := zn_neF (a := n) (b := n) (by omega) (by omega) c_1
    refine lv_aload_n hx hb dJx4a65c_add_72be8_6 rfl (lv_at hl 0 rfl) ?_
    refine va_callr (va_runV (As := []) (rest := []) ⟨hx, hb, hml, hown, hts⟩ (c_grow1N l D ty A u C ma t0 mi kl x n f hL hpos hel hful) (cwV 0 hts gJx4a65c_add_72be8_Jx4a65c_grow_d5877 rfl rfl rfl (by decide +kernel) ⟨Nat.le_of_ble_eq_true rfl, Nat.le_of_ble_eq_true rfl⟩) ⟨zBl mI_blind, (va_recv hK (hM.Pa hu1 rfl hC1) (ci := 0) (q0 := 0) rfl rfl), fun U h1 h2 => ⟨rfl, mI_pre hM hK hMS hS U h1 h2⟩⟩ rfl rfl hl.1 rfl (lv_room (Nat.le_of_ble_eq_true rfl)) dJx4a65c_add_72be8_7 ⟨Nat.le_of_ble_eq_true rfl, Nat.le_of_ble_eq_true rfl⟩) hS (fun _ _ h => h) (fun _ h => h) (fun S_2 r_3 t H1 locs ht hvm hw hB9 hz1 hk1 hS => ?_)
    obtain ⟨u_4, C_5, ma_6⟩ := S_2
    obtain ⟨hchg, m2, N2, h2, gu1, gC1, gu2, gC2, gl1, gl2, gl3, gh⟩ := hw
    obtain ⟨hq9, hM, -, -⟩ := hB9
    rw [ht] at hM
    clear hk1 hz1 hvm ht
    clear t
    generalize H1 = H at hM hS ⊢
    have hM : mW D A u_4 C_5 ma_6 H := hM
    have hq9 : ma_6 (kl + 1) x = r_3 := hq9.symm
    have gu1 : u_4 kl x := gu1
    have gu2 : u_4 (kl + 1) x := gu2
    have gC1 : C_5 kl x = eO 0 [.int m2, .ref r_3, .int (nI n)] := by rw [← hq9]; exact gC1
    have gC2 : C_5 (kl + 1) x = eR (ty 2) N2 h2 := gC2
    have ga1 : ma_6 kl x = ma kl x := hchg.2.2 kl x (fun z => by omega)
    have hue : u_4 ke xe := hchg.1 _ _ hue
    have hCe : C_5 ke xe = eO ci gs := (hchg.2.1 ke xe hn1 hn2).trans hCe
    have hae : ma_6 ke xe = ma ke xe := hchg.2.2 ke xe hn2
    refine lv_astore_n (lv' := [(2, .ref r_3), (0, .ref (ma kl x)), (1, .ref (ma ke xe)), (3, .int (nI n))]) hx hb dJx4a65c_add_72be8_10 rfl hl (by decide) rfl (fun ls hl => ?_)
    refine lv_aload_n hx hb dJx4a65c_add_72be8_11 rfl (lv_at hl 0 rfl) ?_
    refine lv_iload_n hx hb dJx4a65c_add_72be8_12 rfl (lv_at hl 3 rfl) ?_
    refine lv_aload_n hx hb dJx4a65c_add_72be8_13 rfl (lv_at hl 2 rfl) ?_
    refine mastq hx hb hK hM hS gu2 hq9 2 gC2 rfl (okE.any hK hMS.2.2.2.2.2.1 (elO.ok ⟨ke, xe, _, _, _, hue, hae, hCe, hrc, hcast⟩ hM)) (i := n) (by omega) (by omega) dJx4a65c_add_72be8_14 (fun H locs hM hS ho => ?_)
    obtain ⟨C_7, eC_7⟩ : ∃ z, z = up2 C_5 (kl + 1) x (eR (ty 2) N2 (va_up h2 n (some (ma ke xe)))) := ⟨_, rfl⟩
    have hM : mW D A u_4 C_7 ma_6 H := by rw [eC_7]; exact hM
    have hC_8 : C_7 kl x = eO 0 [.int m2, .ref r_3, .int (nI n)] := by rw [eC_7, up2_n _ _ (fun z => by omega)]; exact gC1
    have hC_9 : C_7 (kl + 1) x = eR (ty 2) N2 (va_up h2 n (some (ma ke xe))) := by rw [eC_7]; exact up2_s _ _ _ _
    have hC_10 : C_7 ke xe = eO ci gs := by rw [eC_7, up2_n _ _ (fun z => by omega)]; exact hCe
    refine lv_aload_n hx hb dJx4a65c_add_72be8_15 rfl (lv_at hl 1 rfl) ?_
    refine lv_iload_n hx hb dJx4a65c_add_72be8_16 rfl (lv_at hl 3 rfl) ?_
    refine lv_iconst (v := nI 1) hx hb dJx4a65c_add_72be8_17 (by decide) ?_
    refine lv_iadd hx hb dJx4a65c_add_72be8_18 ?_
    refine zeq (nI_add n 1) ?_
    refine mput (v := .int (nI (n + 1))) (ty := .int) hx hb hts hinJx4a65c tyJx4a65c tyJx4a65c_ok nmJx4a65c hown hK hM hS gu1 ga1 hC_8 rfl 2 (by decide) (hk1) (fun _ h9 => h9) rfl (by decide +kernel) rfl rfl (Nat.le_of_ble_eq_true rfl) dJx4a65c_add_72be8_19 (fun H locs hM hS ho => ?_)
    obtain ⟨C_11, eC_11⟩ : ∃ z, z = up2 C_7 kl x (eO 0 [.int m2, .ref r_3, .int (nI (n + 1))]) := ⟨_, rfl⟩
    have hM : mW D A u_4 C_11 ma_6 H := by rw [eC_11]; exact hM
    have hC_12 : C_11 kl x = eO 0 [.int m2, .ref r_3, .int (nI (n + 1))] := by rw [eC_11]; exact up2_s _ _ _ _
    have hC_13 : C_11 (kl + 1) x = eR (ty 2) N2 (va_up h2 n (some (ma ke xe))) := by rw [eC_11, up2_n _ _ (fun z => by omega)]; exact hC_9
    have hC_14 : C_11 ke xe = eO ci gs := by rw [eC_11, up2_n _ _ (fun z => by omega)]; exact hC_10
    have hch9 : chg kl x u C ma (u_4, C_11, ma_6) := ⟨hchg.1, fun k9 x9 h1 h2 => by show C_11 k9 x9 = _; rw [eC_11, up2_n _ _ h1, eC_7, up2_n _ _ h2]; exact hchg.2.1 k9 x9 h1 h2, hchg.2.2⟩
    have hL9 : isL ty t0 (u_4, C_11, ma_6).1 (u_4, C_11, ma_6).2.1 (u_4, C_11, ma_6).2.2 kl x (n + 1) (fun j => if j = n then ma ke xe else f j) := ⟨gu1, by omega, m2, Or.inr ⟨by omega, by rw [show (u_4, C_11, ma_6).2.2 (kl + 1) x = _ from hq9]; exact hC_12, gu2, N2, va_up h2 n (some (ma ke xe)), hC_13, by omega, by omega, by omega, upL gh⟩⟩
    exact W.vret hx hb hr (fun t ht hW => ⟨⟨(u_4, C_11, ma_6), rfl, ⟨hch9, hL9⟩, mI_pre hM hK hMS hS t ht hW⟩, hS.F ht⟩) hS.2.2 dJx4a65c_add_72be8_22
set_option maxHeartbeats 4000000 in
set_option maxRecDepth 100000 in
theorem c_add3R (l : Launch) (D : va_G) (ty : Nat → ClassId) (A : Nat → Prop) (u : Nat → Nat → Prop) (C : Nat → Nat → va_E) (ma : Nat → Nat → Nat) (t0 mi : Nat) (kl x n : Nat) (f : Nat → Nat) (hL : isL ty t0 u C ma kl x n f) (ke xe ci : Nat) (gs : List Value) (rc : vw_C) (hue : u ke xe) (hCe : C ke xe = eO ci gs) (hrc : vwCl[ci]? = some rc) (hcast : Cond.castable rc.1 "java/lang/Object" ∈ zNl) (hn1 : ¬ (ke = kl ∧ xe = x)) (hn2 : ¬ (ke = kl + 1 ∧ xe = x)) (cap : Nat) (hcv : Nat → Option Nat) (hpos : 0 < n) (hC2 : C (kl + 1) x = eR (ty 2) cap hcv) (hroom : n < cap) (hn40 : n < 40) : Met l yJx4a65c_add_72be8 wsJx4a65c_add_72be8 ({ frames := 0, cells := 1, slots := 60, locals := 0 }) (va_Pc [.ref (ma kl x), .ref (ma ke xe), .ref (ma (kl + 1) x), .int (nI n)] (mI D ty A u C ma t0 mi)) (va_Qv (fun S : mSt => chg kl x u C ma S ∧ isL ty t0 S.1 S.2.1 S.2.2 kl x (n + 1) (fun j => if j = n then ma ke xe else f j)) (fun S t => mI D ty A S.1 S.2.1 S.2.2 t0 mi t) A) 1 60 A := by
  refine zMet (cc := cJx4a65c_add_72be8) (maxL := 4) (ret := none) (by decide) rfl (Nat.le_of_ble_eq_true rfl) ?_
  intro p e s m below meth c hx hb hr hts hown hlocks hml hB ls hl
  obtain ⟨hM, hK, hMS⟩ := hB
  have hS : va_S A s.heap s.heap [] := va_S.rf
  obtain ⟨hu1, hn0, m1, hC1, hu2, cap9, hcv9, hC9, hcap, hc2, hc3, hh9⟩ := hL.pos (by omega)
  have e9 := hC2.symm.trans hC9
  injection e9 with e9
  injection e9 with e8 e9
  injection e9 with e7 e9
  injection e9 with e9
  injection e9 with e9
  injection e9 with e9
  injection e9 with e9
  subst e7
  subst e9
  have hh := hh9
  have hl : lv_has ls 4 [(0, .ref (ma kl x)), (1, .ref (ma ke xe)), (2, .ref (ma (kl + 1) x)), (3, .int (nI n))] := hl
  have hinJx4a65c : ∀ w ∈ wsJx4a65c0, w ∈ wsJx4a65c_add_72be8 := by decide +kernel
  have hk1 := hts (.fieldLink RJx4a65c 48 "java/util/ArrayList" "size" "I") (by decide +kernel)
  refine lv_iload_n hx hb dJx4a65c_add_72be8_0 rfl (lv_at hl 3 rfl) ?_
  refine lv_aload_n hx hb dJx4a65c_add_72be8_1 rfl (lv_at hl 2 rfl) ?_
  refine va_alen hx hb hK (hM.Pa hu2 rfl hC2) 0 2 rfl rfl (v := nI cap) rfl dJx4a65c_add_72be8_2 ?_
  refine lv_icmp_ne (tgt := 11) hx hb dJx4a65c_add_72be8_3 (by decide) (fun c_1 => ?_) (fun c_1 => ?_)
  · have c_1 := zn_neT (a := n) (b := cap) (by omega) (by omega) c_1
    refine lv_aload_n hx hb dJx4a65c_add_72be8_11 rfl (lv_at hl 2 rfl) ?_
    refine lv_iload_n hx hb dJx4a65c_add_72be8_12 rfl (lv_at hl 3 rfl) ?_
    refine lv_aload_n hx hb dJx4a65c_add_72be8_13 rfl (lv_at hl 1 rfl) ?_
    refine mastq hx hb hK hM hS hu2 rfl 2 hC2 rfl (okE.any hK hMS.2.2.2.2.2.1 (elO.ok ⟨ke, xe, _, _, _, hue, rfl, hCe, hrc, hcast⟩ hM)) (i := n) (by omega) (by omega) dJx4a65c_add_72be8_14 (fun H locs hM hS ho => ?_)
    obtain ⟨C_2, eC_2⟩ : ∃ z, z = up2 C (kl + 1) x (eR (ty 2) cap (va_up hcv n (some (ma ke xe)))) := ⟨_, rfl⟩
    have hM : mW D A u C_2 ma H := by rw [eC_2]; exact hM
    have hC_3 : C_2 ke xe = eO ci gs := by rw [eC_2, up2_n _ _ (fun z => by omega)]; exact hCe
    have hC_4 : C_2 kl x = eO 0 [.int m1, .ref (ma (kl + 1) x), .int (nI n)] := by rw [eC_2, up2_n _ _ (fun z => by omega)]; exact hC1
    have hC_5 : C_2 (kl + 1) x = eR (ty 2) cap (va_up hcv n (some (ma ke xe))) := by rw [eC_2]; exact up2_s _ _ _ _
    refine lv_aload_n hx hb dJx4a65c_add_72be8_15 rfl (lv_at hl 0 rfl) ?_
    refine lv_iload_n hx hb dJx4a65c_add_72be8_16 rfl (lv_at hl 3 rfl) ?_
    refine lv_iconst (v := nI 1) hx hb dJx4a65c_add_72be8_17 (by decide) ?_
    refine lv_iadd hx hb dJx4a65c_add_72be8_18 ?_
    refine zeq (nI_add n 1) ?_
    refine mput (v := .int (nI (n + 1))) (ty := .int) hx hb hts hinJx4a65c tyJx4a65c tyJx4a65c_ok nmJx4a65c hown hK hM hS hu1 rfl hC_4 rfl 2 (by decide) (hk1) (fun _ h9 => h9) rfl (by decide +kernel) rfl rfl (Nat.le_of_ble_eq_true rfl) dJx4a65c_add_72be8_19 (fun H locs hM hS ho => ?_)
    obtain ⟨C_6, eC_6⟩ : ∃ z, z = up2 C_2 kl x (eO 0 [.int m1, .ref (ma (kl + 1) x), .int (nI (n + 1))]) := ⟨_, rfl⟩
    have hM : mW D A u C_6 ma H := by rw [eC_6]; exact hM
    have hC_7 : C_6 ke xe = eO ci gs := by rw [eC_6, up2_n _ _ (fun z => by omega)]; exact hC_3
    have hC_8 : C_6 kl x = eO 0 [.int m1, .ref (ma (kl + 1) x), .int (nI (n + 1))] := by rw [eC_6]; exact up2_s _ _ _ _
    have hC_9 : C_6 (kl + 1) x = eR (ty 2) cap (va_up hcv n (some (ma ke xe))) := by rw [eC_6, up2_n _ _ (fun z => by omega)]; exact hC_5
    have hch9 : chg kl x u C ma (u, C_6, ma) := ⟨fun _ _ h => h, fun k9 x9 h1 h2 => by show C_6 k9 x9 = _; rw [eC_6, up2_n _ _ h1, eC_2, up2_n _ _ h2], fun _ _ _ => rfl⟩
    have hL9 : isL ty t0 (u, C_6, ma).1 (u, C_6, ma).2.1 (u, C_6, ma).2.2 kl x (n + 1) (fun j => if j = n then ma ke xe else f j) := ⟨hu1, by omega, m1, Or.inr ⟨by omega, by exact hC_8, hu2, cap, va_up hcv n (some (ma ke xe)), hC_9, by omega, by omega, by omega, upL hh⟩⟩
    refine W.widen (k := 1) (n := 60) (by omega) (by omega) ?_
    exact W.vret hx hb hr (fun t ht hW => ⟨⟨(u, C_6, ma), rfl, ⟨hch9, hL9⟩, mI_pre hM hK hMS hS t ht hW⟩, hS.F ht⟩) hS.2.2 dJx4a65c_add_72be8_22
  · have c_1 := zn_neF (a := n) (b := cap) (by omega) (by omega) c_1
    omega
