/-- an element of the list (kl, x), which is not the list itself -/
def elL (kl x : Nat) (u : Nat → Nat → Prop) (C : Nat → Nat → va_E) (ma : Nat → Nat → Nat) (y : Nat) : Prop := ∃ k' x' ci gs r, ¬ (k' = kl ∧ x' = x) ∧ u k' x' ∧ ma k' x' = y ∧ C k' x' = eO ci gs ∧ vwCl[ci]? = some r ∧ Cond.castable r.1 "java/lang/Object" ∈ zNl
theorem elL.up {kl x : Nat} {u : Nat → Nat → Prop} {C : Nat → Nat → va_E} {ma : Nat → Nat → Nat} {y : Nat} {e : va_E} (h : elL kl x u C ma y) : elO u (up2 C kl x e) ma y := by
  obtain ⟨k', x', ci, gs, r, h0, h1, h2, h3, h4, h5⟩ := h
  exact ⟨k', x', ci, gs, r, h1, h2, (up2_n _ _ h0).trans h3, h4, h5⟩
set_option maxHeartbeats 4000000 in
set_option maxRecDepth 100000 in
theorem c_add0 (l : Launch) (D : va_G) (ty : Nat → ClassId) (A : Nat → Prop) (u : Nat → Nat → Prop) (C : Nat → Nat → va_E) (ma : Nat → Nat → Nat) (t0 mi : Nat) (kl x n : Nat) (f : Nat → Nat) (hL : isL ty t0 u C ma kl x n f) (ke xe ci : Nat) (gs : List Value) (rc : vw_C) (hue : u ke xe) (hCe : C ke xe = eO ci gs) (hrc : vwCl[ci]? = some rc) (hcast : Cond.castable rc.1 "java/lang/Object" ∈ zNl) (hn1 : ¬ (ke = kl ∧ xe = x)) (hn2 : ¬ (ke = kl + 1 ∧ xe = x)) (h0 : n = 0) (hn40 : n < 40) : Met l yJx4a65c_add_9ea2d wsJx4a65c_add_9ea2d ({ frames := 6, cells := 1, slots := 60, locals := 194 }) (va_Pc [.ref (ma kl x), .ref (ma ke xe)] (mI D ty A u C ma t0 mi)) (va_Qi (fun (v9 : Int32) (S : mSt) => v9 = nI 1 ∧ chg kl x u C ma S ∧ isL ty t0 S.1 S.2.1 S.2.2 kl x (n + 1) (fun j => if j = n then ma ke xe else f j)) (fun S t => mI D ty A S.1 S.2.1 S.2.2 t0 mi t) A) 1 60 A := by
  refine zMet (cc := cJx4a65c_add_9ea2d) (maxL := 2) (ret := (some .boolean)) (by decide) rfl (Nat.le_of_ble_eq_true rfl) ?_
  intro p e s m below meth c hx hb hr hts hown hlocks hml hB ls hl
  obtain ⟨hM, hK, hMS⟩ := hB
  have hS : va_S A s.heap s.heap [] := va_S.rf
  have hL0 := hL
  obtain ⟨hu1, hn0, m1, ⟨-, hC1⟩ | ⟨hpos, -⟩⟩ := hL0
  rotate_left
  · omega
  have hl : lv_has ls 2 [(0, .ref (ma kl x)), (1, .ref (ma ke xe))] := hl
  have hinJx4a65c : ∀ w ∈ wsJx4a65c0, w ∈ wsJx4a65c_add_9ea2d := by decide +kernel
  have hk1 := hts (.fieldLink RJx4a65c 63 "java/util/ArrayList" "modCount" "I") (by decide +kernel)
  have hk2 := hts (.sameField "java/util/ArrayList" "java/util/AbstractList" "modCount" "I") (by decide +kernel)
  have hk3 := hts (.fieldLink RJx4a65c 9 "java/util/ArrayList" "elementData" "[Ljava/lang/Object;") (by decide +kernel)
  have hk4 := hts (.fieldLink RJx4a65c 48 "java/util/ArrayList" "size" "I") (by decide +kernel)
  refine lv_aload_n hx hb dJx4a65c_add_9ea2d_0 rfl (lv_at hl 0 rfl) ?_
  refine lv_dup hx hb dJx4a65c_add_9ea2d_1 rfl ?_
  refine va_get hx hb hts hinJx4a65c hown hK (hM.Pa hu1 rfl hC1) 0 rfl rfl 0 (by decide) (hk1) (fun x9 h9 => u_same (hk2) x9 h9) rfl dJx4a65c_add_9ea2d_2 ?_
  refine lv_iconst (v := nI 1) hx hb dJx4a65c_add_9ea2d_5 (by decide) ?_
  refine lv_iadd hx hb dJx4a65c_add_9ea2d_6 ?_
  refine mput (v := .int (m1 + (nI 1))) (ty := .int) hx hb hts hinJx4a65c tyJx4a65c tyJx4a65c_ok nmJx4a65c hown hK hM hS hu1 rfl hC1 rfl 0 (by decide) (hk1) (fun x9 h9 => u_same (hk2) x9 h9) rfl (by decide +kernel) rfl rfl (Nat.le_of_ble_eq_true rfl) dJx4a65c_add_9ea2d_7 (fun H locs hM hS ho => ?_)
  obtain ⟨C_1, eC_1⟩ : ∃ z, z = up2 C kl x (eO 0 [.int (m1 + (nI 1)), .ref t0, .int (nI n)]) := ⟨_, rfl⟩
  have hM : mW D A u C_1 ma H := by rw [eC_1]; exact hM
  have hC_2 : C_1 ke xe = eO ci gs := by rw [eC_1, up2_n _ _ (fun z => by omega)]; exact hCe
  have hC_3 : C_1 kl x = eO 0 [.int (m1 + (nI 1)), .ref t0, .int (nI n)] := by rw [eC_1]; exact up2_s _ _ _ _
  refine lv_aload_n hx hb dJx4a65c_add_9ea2d_10 rfl (lv_at hl 0 rfl) ?_
  refine lv_aload_n hx hb dJx4a65c_add_9ea2d_11 rfl (lv_at hl 1 rfl) ?_
  refine lv_aload_n hx hb dJx4a65c_add_9ea2d_12 rfl (lv_at hl 0 rfl) ?_
  refine va_get hx hb hts hinJx4a65c hown hK (hM.Pa hu1 rfl hC_3) 0 rfl rfl 1 (by decide) (hk3) (fun _ h9 => h9) rfl dJx4a65c_add_9ea2d_13 ?_
  refine lv_aload_n hx hb dJx4a65c_add_9ea2d_16 rfl (lv_at hl 0 rfl) ?_
  refine va_get hx hb hts hinJx4a65c hown hK (hM.Pa hu1 rfl hC_3) 0 rfl rfl 2 (by decide) (hk4) (fun _ h9 => h9) rfl dJx4a65c_add_9ea2d_17 ?_
  refine va_callv (va_runV (As := [.ref (ma ke xe), .ref t0, .int (nI n)]) (rest := []) ⟨hx, hb, hml, hown, hts⟩ (c_add30 l D ty A u C_1 ma t0 mi kl x n f ⟨hu1, hn0, _, Or.inl ⟨h0, hC_3⟩⟩ ke xe ci gs rc hue hC_2 hrc hcast hn1 hn2 h0 hn40) (cwV 3 hts gJx4a65c_add_9ea2d_Jx4a65c_add_72be8 rfl rfl rfl (by decide +kernel) ⟨Nat.le_of_ble_eq_true rfl, Nat.le_of_ble_eq_true rfl⟩) ⟨zBl mI_blind, (va_recv hK (hM.Pa hu1 rfl hC_3) (ci := 0) (q0 := 0) rfl rfl), fun U h1 h2 => ⟨rfl, mI_pre hM hK hMS hS U h1 h2⟩⟩ rfl rfl hl.1 rfl (lv_room (Nat.le_of_ble_eq_true rfl)) dJx4a65c_add_9ea2d_20 ⟨Nat.le_of_ble_eq_true rfl, Nat.le_of_ble_eq_true rfl⟩) hS (fun _ _ h => h) (fun _ h => h) (fun S_4 t H1 locs ht hvm hw hB9 hz1 hk1 hS => ?_)
  obtain ⟨u_6, C_7, ma_8⟩ := S_4
  obtain ⟨hM, -, -⟩ := hB9
  rw [ht] at hM
  clear hk1 hz1 hvm ht
  clear t
  generalize H1 = H at hM hS ⊢
  obtain ⟨hchg, hL9⟩ := hw
  refine lv_iconst (v := nI 1) hx hb dJx4a65c_add_9ea2d_23 (by decide) ?_
  have hch9 : chg kl x u C ma (u_6, C_7, ma_8) := ⟨hchg.1, fun k9 x9 h1 h2 => (hchg.2.1 k9 x9 h1 h2).trans (by rw [eC_1, up2_n _ _ h1]), hchg.2.2⟩
  exact W.zret (v := nI 1) hx hb hr rfl (fun t ht hW => ⟨⟨_, (u_6, C_7, ma_8), rfl, ⟨rfl, hch9, hL9⟩, mI_pre hM hK hMS hS t ht hW⟩, hS.F ht⟩) hS.2.2 dJx4a65c_add_9ea2d_24
set_option maxHeartbeats 4000000 in
set_option maxRecDepth 100000 in
theorem c_addN (l : Launch) (D : va_G) (ty : Nat → ClassId) (A : Nat → Prop) (u : Nat → Nat → Prop) (C : Nat → Nat → va_E) (ma : Nat → Nat → Nat) (t0 mi : Nat) (kl x n : Nat) (f : Nat → Nat) (hL : isL ty t0 u C ma kl x n f) (ke xe ci : Nat) (gs : List Value) (rc : vw_C) (hue : u ke xe) (hCe : C ke xe = eO ci gs) (hrc : vwCl[ci]? = some rc) (hcast : Cond.castable rc.1 "java/lang/Object" ∈ zNl) (hn1 : ¬ (ke = kl ∧ xe = x)) (hn2 : ¬ (ke = kl + 1 ∧ xe = x)) (hpos : 0 < n) (hel : ∀ j, j < n → elL kl x u C ma (f j)) (hful : ∀ N h, C (kl + 1) x = eR (ty 2) N h → 0 < n → N = n) (hn40 : n < 40) : Met l yJx4a65c_add_9ea2d wsJx4a65c_add_9ea2d ({ frames := 6, cells := 1, slots := 60, locals := 194 }) (va_Pc [.ref (ma kl x), .ref (ma ke xe)] (mI D ty A u C ma t0 mi)) (va_Qi (fun (v9 : Int32) (S : mSt) => v9 = nI 1 ∧ chg kl x u C ma S ∧ isL ty t0 S.1 S.2.1 S.2.2 kl x (n + 1) (fun j => if j = n then ma ke xe else f j)) (fun S t => mI D ty A S.1 S.2.1 S.2.2 t0 mi t) A) 1 60 A := by
  refine zMet (cc := cJx4a65c_add_9ea2d) (maxL := 2) (ret := (some .boolean)) (by decide) rfl (Nat.le_of_ble_eq_true rfl) ?_
  intro p e s m below meth c hx hb hr hts hown hlocks hml hB ls hl
  obtain ⟨hM, hK, hMS⟩ := hB
  have hS : va_S A s.heap s.heap [] := va_S.rf
  have hL0 := hL
  obtain ⟨hu1, hn0, m1, hC1, hu2, cap, hcv, hC2, hcap, hc2, hc3, hh⟩ := hL0.pos (by omega)
  have hl : lv_has ls 2 [(0, .ref (ma kl x)), (1, .ref (ma ke xe))] := hl
  have hinJx4a65c : ∀ w ∈ wsJx4a65c0, w ∈ wsJx4a65c_add_9ea2d := by decide +kernel
  have hk1 := hts (.fieldLink RJx4a65c 63 "java/util/ArrayList" "modCount" "I") (by decide +kernel)
  have hk2 := hts (.sameField "java/util/ArrayList" "java/util/AbstractList" "modCount" "I") (by decide +kernel)
  have hk3 := hts (.fieldLink RJx4a65c 9 "java/util/ArrayList" "elementData" "[Ljava/lang/Object;") (by decide +kernel)
  have hk4 := hts (.fieldLink RJx4a65c 48 "java/util/ArrayList" "size" "I") (by decide +kernel)
  refine lv_aload_n hx hb dJx4a65c_add_9ea2d_0 rfl (lv_at hl 0 rfl) ?_
  refine lv_dup hx hb dJx4a65c_add_9ea2d_1 rfl ?_
  refine va_get hx hb hts hinJx4a65c hown hK (hM.Pa hu1 rfl hC1) 0 rfl rfl 0 (by decide) (hk1) (fun x9 h9 => u_same (hk2) x9 h9) rfl dJx4a65c_add_9ea2d_2 ?_
  refine lv_iconst (v := nI 1) hx hb dJx4a65c_add_9ea2d_5 (by decide) ?_
  refine lv_iadd hx hb dJx4a65c_add_9ea2d_6 ?_
  refine mput (v := .int (m1 + (nI 1))) (ty := .int) hx hb hts hinJx4a65c tyJx4a65c tyJx4a65c_ok nmJx4a65c hown hK hM hS hu1 rfl hC1 rfl 0 (by decide) (hk1) (fun x9 h9 => u_same (hk2) x9 h9) rfl (by decide +kernel) rfl rfl (Nat.le_of_ble_eq_true rfl) dJx4a65c_add_9ea2d_7 (fun H locs hM hS ho => ?_)
  obtain ⟨C_1, eC_1⟩ : ∃ z, z = up2 C kl x (eO 0 [.int (m1 + (nI 1)), .ref (ma (kl + 1) x), .int (nI n)]) := ⟨_, rfl⟩
  have hM : mW D A u C_1 ma H := by rw [eC_1]; exact hM
  have hC_2 : C_1 ke xe = eO ci gs := by rw [eC_1, up2_n _ _ (fun z => by omega)]; exact hCe
  have hC_3 : C_1 kl x = eO 0 [.int (m1 + (nI 1)), .ref (ma (kl + 1) x), .int (nI n)] := by rw [eC_1]; exact up2_s _ _ _ _
  have hC_4 : C_1 (kl + 1) x = eR (ty 2) cap hcv := by rw [eC_1, up2_n _ _ (fun z => by omega)]; exact hC2
  refine lv_aload_n hx hb dJx4a65c_add_9ea2d_10 rfl (lv_at hl 0 rfl) ?_
  refine lv_aload_n hx hb dJx4a65c_add_9ea2d_11 rfl (lv_at hl 1 rfl) ?_
  refine lv_aload_n hx hb dJx4a65c_add_9ea2d_12 rfl (lv_at hl 0 rfl) ?_
  refine va_get hx hb hts hinJx4a65c hown hK (hM.Pa hu1 rfl hC_3) 0 rfl rfl 1 (by decide) (hk3) (fun _ h9 => h9) rfl dJx4a65c_add_9ea2d_13 ?_
  refine lv_aload_n hx hb dJx4a65c_add_9ea2d_16 rfl (lv_at hl 0 rfl) ?_
  refine va_get hx hb hts hinJx4a65c hown hK (hM.Pa hu1 rfl hC_3) 0 rfl rfl 2 (by decide) (hk4) (fun _ h9 => h9) rfl dJx4a65c_add_9ea2d_17 ?_
  refine va_callv (va_runV (As := [.ref (ma ke xe), .ref (ma (kl + 1) x), .int (nI n)]) (rest := []) ⟨hx, hb, hml, hown, hts⟩ (c_add3N l D ty A u C_1 ma t0 mi kl x n f ⟨hu1, hn0, _, Or.inr ⟨hpos, hC_3, hu2, cap, hcv, hC_4, hcap, hc2, hc3, hh⟩⟩ ke xe ci gs rc hue hC_2 hrc hcast hn1 hn2 hpos (fun j hj => by rw [eC_1]; exact (hel j hj).up) (fun N9 h9 g9 p9 => hful N9 h9 (by rw [← g9, eC_1, up2_n _ _ (fun z => by omega)]) p9) hn40) (cwV 3 hts gJx4a65c_add_9ea2d_Jx4a65c_add_72be8 rfl rfl rfl (by decide +kernel) ⟨Nat.le_of_ble_eq_true rfl, Nat.le_of_ble_eq_true rfl⟩) ⟨zBl mI_blind, (va_recv hK (hM.Pa hu1 rfl hC_3) (ci := 0) (q0 := 0) rfl rfl), fun U h1 h2 => ⟨rfl, mI_pre hM hK hMS hS U h1 h2⟩⟩ rfl rfl hl.1 rfl (lv_room (Nat.le_of_ble_eq_true rfl)) dJx4a65c_add_9ea2d_20 ⟨Nat.le_of_ble_eq_true rfl, Nat.le_of_ble_eq_true rfl⟩) hS (fun _ _ h => h) (fun _ h => h) (fun S_5 t H1 locs ht hvm hw hB9 hz1 hk1 hS => ?_)
  obtain ⟨u_7, C_8, ma_9⟩ := S_5
  obtain ⟨hM, -, -⟩ := hB9
  rw [ht] at hM
  clear hk1 hz1 hvm ht
  clear t
  generalize H1 = H at hM hS ⊢
  obtain ⟨hchg, hL9⟩ := hw
  refine lv_iconst (v := nI 1) hx hb dJx4a65c_add_9ea2d_23 (by decide) ?_
  have hch9 : chg kl x u C ma (u_7, C_8, ma_9) := ⟨hchg.1, fun k9 x9 h1 h2 => (hchg.2.1 k9 x9 h1 h2).trans (by rw [eC_1, up2_n _ _ h1]), hchg.2.2⟩
  exact W.zret (v := nI 1) hx hb hr rfl (fun t ht hW => ⟨⟨_, (u_7, C_8, ma_9), rfl, ⟨rfl, hch9, hL9⟩, mI_pre hM hK hMS hS t ht hW⟩, hS.F ht⟩) hS.2.2 dJx4a65c_add_9ea2d_24
set_option maxHeartbeats 4000000 in
set_option maxRecDepth 100000 in
theorem c_addR (l : Launch) (D : va_G) (ty : Nat → ClassId) (A : Nat → Prop) (u : Nat → Nat → Prop) (C : Nat → Nat → va_E) (ma : Nat → Nat → Nat) (t0 mi : Nat) (kl x n : Nat) (f : Nat → Nat) (hL : isL ty t0 u C ma kl x n f) (ke xe ci : Nat) (gs : List Value) (rc : vw_C) (hue : u ke xe) (hCe : C ke xe = eO ci gs) (hrc : vwCl[ci]? = some rc) (hcast : Cond.castable rc.1 "java/lang/Object" ∈ zNl) (hn1 : ¬ (ke = kl ∧ xe = x)) (hn2 : ¬ (ke = kl + 1 ∧ xe = x)) (cap : Nat) (hcv : Nat → Option Nat) (hpos : 0 < n) (hC2 : C (kl + 1) x = eR (ty 2) cap hcv) (hroom : n < cap) (hn40 : n < 40) : Met l yJx4a65c_add_9ea2d wsJx4a65c_add_9ea2d ({ frames := 6, cells := 1, slots := 60, locals := 194 }) (va_Pc [.ref (ma kl x), .ref (ma ke xe)] (mI D ty A u C ma t0 mi)) (va_Qi (fun (v9 : Int32) (S : mSt) => v9 = nI 1 ∧ chg kl x u C ma S ∧ isL ty t0 S.1 S.2.1 S.2.2 kl x (n + 1) (fun j => if j = n then ma ke xe else f j)) (fun S t => mI D ty A S.1 S.2.1 S.2.2 t0 mi t) A) 1 60 A := by
  refine zMet (cc := cJx4a65c_add_9ea2d) (maxL := 2) (ret := (some .boolean)) (by decide) rfl (Nat.le_of_ble_eq_true rfl) ?_
  intro p e s m below meth c hx hb hr hts hown hlocks hml hB ls hl
  obtain ⟨hM, hK, hMS⟩ := hB
  have hS : va_S A s.heap s.heap [] := va_S.rf
  have hL0 := hL
  obtain ⟨hu1, hn0, m1, hC1, hu2, cap9, hcv9, hC9, hcap, hc2, hc3, hh⟩ := hL0.pos (by omega)
  have e9 := hC2.symm.trans hC9
  injection e9 with e9
  injection e9 with e8 e9
  injection e9 with e7 e9
  injection e9 with e9
  injection e9 with e9
  injection e9 with e9
  injection e9 with e9
  subst e7
  subst e9
  have hl : lv_has ls 2 [(0, .ref (ma kl x)), (1, .ref (ma ke xe))] := hl
  have hinJx4a65c : ∀ w ∈ wsJx4a65c0, w ∈ wsJx4a65c_add_9ea2d := by decide +kernel
  have hk1 := hts (.fieldLink RJx4a65c 63 "java/util/ArrayList" "modCount" "I") (by decide +kernel)
  have hk2 := hts (.sameField "java/util/ArrayList" "java/util/AbstractList" "modCount" "I") (by decide +kernel)
  have hk3 := hts (.fieldLink RJx4a65c 9 "java/util/ArrayList" "elementData" "[Ljava/lang/Object;") (by decide +kernel)
  have hk4 := hts (.fieldLink RJx4a65c 48 "java/util/ArrayList" "size" "I") (by decide +kernel)
  refine lv_aload_n hx hb dJx4a65c_add_9ea2d_0 rfl (lv_at hl 0 rfl) ?_
  refine lv_dup hx hb dJx4a65c_add_9ea2d_1 rfl ?_
  refine va_get hx hb hts hinJx4a65c hown hK (hM.Pa hu1 rfl hC1) 0 rfl rfl 0 (by decide) (hk1) (fun x9 h9 => u_same (hk2) x9 h9) rfl dJx4a65c_add_9ea2d_2 ?_
  refine lv_iconst (v := nI 1) hx hb dJx4a65c_add_9ea2d_5 (by decide) ?_
  refine lv_iadd hx hb dJx4a65c_add_9ea2d_6 ?_
  refine mput (v := .int (m1 + (nI 1))) (ty := .int) hx hb hts hinJx4a65c tyJx4a65c tyJx4a65c_ok nmJx4a65c hown hK hM hS hu1 rfl hC1 rfl 0 (by decide) (hk1) (fun x9 h9 => u_same (hk2) x9 h9) rfl (by decide +kernel) rfl rfl (Nat.le_of_ble_eq_true rfl) dJx4a65c_add_9ea2d_7 (fun H locs hM hS ho => ?_)
  obtain ⟨C_1, eC_1⟩ : ∃ z, z = up2 C kl x (eO 0 [.int (m1 + (nI 1)), .ref (ma (kl + 1) x), .int (nI n)]) := ⟨_, rfl⟩
  have hM : mW D A u C_1 ma H := by rw [eC_1]; exact hM
  have hC_2 : C_1 ke xe = eO ci gs := by rw [eC_1, up2_n _ _ (fun z => by omega)]; exact hCe
  have hC_3 : C_1 kl x = eO 0 [.int (m1 + (nI 1)), .ref (ma (kl + 1) x), .int (nI n)] := by rw [eC_1]; exact up2_s _ _ _ _
  have hC_4 : C_1 (kl + 1) x = eR (ty 2) cap hcv := by rw [eC_1, up2_n _ _ (fun z => by omega)]; exact hC2
  refine lv_aload_n hx hb dJx4a65c_add_9ea2d_10 rfl (lv_at hl 0 rfl) ?_
  refine lv_aload_n hx hb dJx4a65c_add_9ea2d_11 rfl (lv_at hl 1 rfl) ?_
  refine lv_aload_n hx hb dJx4a65c_add_9ea2d_12 rfl (lv_at hl 0 rfl) ?_
  refine va_get hx hb hts hinJx4a65c hown hK (hM.Pa hu1 rfl hC_3) 0 rfl rfl 1 (by decide) (hk3) (fun _ h9 => h9) rfl dJx4a65c_add_9ea2d_13 ?_
  refine lv_aload_n hx hb dJx4a65c_add_9ea2d_16 rfl (lv_at hl 0 rfl) ?_
  refine va_get hx hb hts hinJx4a65c hown hK (hM.Pa hu1 rfl hC_3) 0 rfl rfl 2 (by decide) (hk4) (fun _ h9 => h9) rfl dJx4a65c_add_9ea2d_17 ?_
  refine va_callv (va_runV (As := [.ref (ma ke xe), .ref (ma (kl + 1) x), .int (nI n)]) (rest := []) ⟨hx, hb, hml, hown, hts⟩ (c_add3R l D ty A u C_1 ma t0 mi kl x n f ⟨hu1, hn0, _, Or.inr ⟨hpos, hC_3, hu2, cap, hcv, hC_4, hcap, hc2, hc3, hh⟩⟩ ke xe ci gs rc hue hC_2 hrc hcast hn1 hn2 cap hcv hpos hC_4 hroom hn40) (cwV 3 hts gJx4a65c_add_9ea2d_Jx4a65c_add_72be8 rfl rfl rfl (by decide +kernel) ⟨Nat.le_of_ble_eq_true rfl, Nat.le_of_ble_eq_true rfl⟩) ⟨zBl mI_blind, (va_recv hK (hM.Pa hu1 rfl hC_3) (ci := 0) (q0 := 0) rfl rfl), fun U h1 h2 => ⟨rfl, mI_pre hM hK hMS hS U h1 h2⟩⟩ rfl rfl hl.1 rfl (lv_room (Nat.le_of_ble_eq_true rfl)) dJx4a65c_add_9ea2d_20 ⟨Nat.le_of_ble_eq_true rfl, Nat.le_of_ble_eq_true rfl⟩) hS (fun _ _ h => h) (fun _ h => h) (fun S_5 t H1 locs ht hvm hw hB9 hz1 hk1 hS => ?_)
  obtain ⟨u_7, C_8, ma_9⟩ := S_5
  obtain ⟨hM, -, -⟩ := hB9
  rw [ht] at hM
  clear hk1 hz1 hvm ht
  clear t
  generalize H1 = H at hM hS ⊢
  obtain ⟨hchg, hL9⟩ := hw
  refine lv_iconst (v := nI 1) hx hb dJx4a65c_add_9ea2d_23 (by decide) ?_
  have hch9 : chg kl x u C ma (u_7, C_8, ma_9) := ⟨hchg.1, fun k9 x9 h1 h2 => (hchg.2.1 k9 x9 h1 h2).trans (by rw [eC_1, up2_n _ _ h1]), hchg.2.2⟩
  exact W.zret (v := nI 1) hx hb hr rfl (fun t ht hW => ⟨⟨_, (u_7, C_8, ma_9), rfl, ⟨rfl, hch9, hL9⟩, mI_pre hM hK hMS hS t ht hW⟩, hS.F ht⟩) hS.2.2 dJx4a65c_add_9ea2d_24
