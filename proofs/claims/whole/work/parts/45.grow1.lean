set_option maxHeartbeats 4000000 in
set_option maxRecDepth 100000 in
theorem c_grow10 (l : Launch) (D : va_G) (ty : Nat → ClassId) (A : Nat → Prop) (u : Nat → Nat → Prop) (C : Nat → Nat → va_E) (ma : Nat → Nat → Nat) (t0 mi : Nat) (kl x n : Nat) (f : Nat → Nat) (hL : isL ty t0 u C ma kl x n f) (h0 : n = 0) : Met l yJx4a65c_grow_d5877 wsJx4a65c_grow_d5877 ({ frames := 2, cells := 1, slots := 60, locals := 41 }) (va_Pc [.ref (ma kl x)] (mI D ty A u C ma t0 mi)) (va_Qr (fun S : mSt => chg kl x u C ma S ∧ gr ty kl x n f S) (fun S q t => q = S.2.2 (kl + 1) x ∧ mI D ty A S.1 S.2.1 S.2.2 t0 mi t) A) 1 60 A := by
  refine zMet (cc := cJx4a65c_grow_d5877) (maxL := 1) (ret := (some (.array (.object "java/lang/Object")))) (by decide) rfl (Nat.le_of_ble_eq_true rfl) ?_
  intro p e s m below meth c hx hb hr hts hown hlocks hml hB ls hl
  obtain ⟨hM, hK, hMS⟩ := hB
  have hS : va_S A s.heap s.heap [] := va_S.rf
  obtain ⟨hu1, hn1, m1, b1, hC1⟩ := hL.hd
  have hl : lv_has ls 1 [(0, .ref (ma kl x))] := hl
  have hinJx4a65c : ∀ w ∈ wsJx4a65c0, w ∈ wsJx4a65c_grow_d5877 := by decide +kernel
  have hk1 := hts (.fieldLink RJx4a65c 48 "java/util/ArrayList" "size" "I") (by decide +kernel)
  refine lv_aload_n hx hb dJx4a65c_grow_d5877_0 rfl (lv_at hl 0 rfl) ?_
  refine lv_aload_n hx hb dJx4a65c_grow_d5877_1 rfl (lv_at hl 0 rfl) ?_
  refine va_get hx hb hts hinJx4a65c hown hK (hM.Pa hu1 rfl hC1) 0 rfl rfl 2 (by decide) (hk1) (fun _ h9 => h9) rfl dJx4a65c_grow_d5877_2 ?_
  refine lv_iconst (v := nI 1) hx hb dJx4a65c_grow_d5877_5 (by decide) ?_
  refine lv_iadd hx hb dJx4a65c_grow_d5877_6 ?_
  refine zeq (nI_add n 1) ?_
  refine va_callr (va_runV (As := [.int (nI (n + 1))]) (rest := []) ⟨hx, hb, hml, hown, hts⟩ (c_grow0 l D ty A u C ma t0 mi kl x n f hL h0) (cwV 1 hts gJx4a65c_grow_d5877_Jx4a65c_grow_92f84 rfl rfl rfl (by decide +kernel) ⟨Nat.le_of_ble_eq_true rfl, Nat.le_of_ble_eq_true rfl⟩) ⟨zBl mI_blind, (va_recv hK (hM.Pa hu1 rfl hC1) (ci := 0) (q0 := 0) rfl rfl), fun U h1 h2 => ⟨rfl, mI_pre hM hK hMS hS U h1 h2⟩⟩ rfl rfl hl.1 rfl (lv_room (Nat.le_of_ble_eq_true rfl)) dJx4a65c_grow_d5877_7 ⟨Nat.le_of_ble_eq_true rfl, Nat.le_of_ble_eq_true rfl⟩) hS (fun _ _ h => h) (fun _ h => h) (fun S_1 r_2 t H1 locs ht hvm hw hB9 hz1 hk1 hS => ?_)
  obtain ⟨u_3, C_4, ma_5⟩ := S_1
  obtain ⟨hq9, hM, -, -⟩ := hB9
  rw [ht] at hM
  clear hk1 hz1 hvm ht
  clear t
  generalize H1 = H at hM hS ⊢
  exact W.aret hx hb hr (Or.inr ⟨_, rfl⟩) (Or.inr ⟨_, rfl⟩) (fun t ht hW => ⟨⟨(u_3, C_4, ma_5), _, rfl, hw, hq9, mI_pre hM hK hMS hS t ht hW⟩, hS.F ht⟩) hS.2.2 dJx4a65c_grow_d5877_10
set_option maxHeartbeats 4000000 in
set_option maxRecDepth 100000 in
theorem c_grow1N (l : Launch) (D : va_G) (ty : Nat → ClassId) (A : Nat → Prop) (u : Nat → Nat → Prop) (C : Nat → Nat → va_E) (ma : Nat → Nat → Nat) (t0 mi : Nat) (kl x n : Nat) (f : Nat → Nat) (hL : isL ty t0 u C ma kl x n f) (hpos : 0 < n) (hel : ∀ j, j < n → elO u C ma (f j)) (hful : ∀ N h, C (kl + 1) x = eR (ty 2) N h → 0 < n → N = n) : Met l yJx4a65c_grow_d5877 wsJx4a65c_grow_d5877 ({ frames := 4, cells := 1, slots := 60, locals := 134 }) (va_Pc [.ref (ma kl x)] (mI D ty A u C ma t0 mi)) (va_Qr (fun S : mSt => chg kl x u C ma S ∧ gr ty kl x n f S) (fun S q t => q = S.2.2 (kl + 1) x ∧ mI D ty A S.1 S.2.1 S.2.2 t0 mi t) A) 1 60 A := by
  refine zMet (cc := cJx4a65c_grow_d5877) (maxL := 1) (ret := (some (.array (.object "java/lang/Object")))) (by decide) rfl (Nat.le_of_ble_eq_true rfl) ?_
  intro p e s m below meth c hx hb hr hts hown hlocks hml hB ls hl
  obtain ⟨hM, hK, hMS⟩ := hB
  have hS : va_S A s.heap s.heap [] := va_S.rf
  obtain ⟨hu1, hn1, m1, b1, hC1⟩ := hL.hd
  have hl : lv_has ls 1 [(0, .ref (ma kl x))] := hl
  have hinJx4a65c : ∀ w ∈ wsJx4a65c0, w ∈ wsJx4a65c_grow_d5877 := by decide +kernel
  have hk1 := hts (.fieldLink RJx4a65c 48 "java/util/ArrayList" "size" "I") (by decide +kernel)
  refine lv_aload_n hx hb dJx4a65c_grow_d5877_0 rfl (lv_at hl 0 rfl) ?_
  refine lv_aload_n hx hb dJx4a65c_grow_d5877_1 rfl (lv_at hl 0 rfl) ?_
  refine va_get hx hb hts hinJx4a65c hown hK (hM.Pa hu1 rfl hC1) 0 rfl rfl 2 (by decide) (hk1) (fun _ h9 => h9) rfl dJx4a65c_grow_d5877_2 ?_
  refine lv_iconst (v := nI 1) hx hb dJx4a65c_grow_d5877_5 (by decide) ?_
  refine lv_iadd hx hb dJx4a65c_grow_d5877_6 ?_
  refine zeq (nI_add n 1) ?_
  refine va_callr (va_runV (As := [.int (nI (n + 1))]) (rest := []) ⟨hx, hb, hml, hown, hts⟩ (c_growN l D ty A u C ma t0 mi kl x n f hL hpos hel hful) (cwV 1 hts gJx4a65c_grow_d5877_Jx4a65c_grow_92f84 rfl rfl rfl (by decide +kernel) ⟨Nat.le_of_ble_eq_true rfl, Nat.le_of_ble_eq_true rfl⟩) ⟨zBl mI_blind, (va_recv hK (hM.Pa hu1 rfl hC1) (ci := 0) (q0 := 0) rfl rfl), fun U h1 h2 => ⟨rfl, mI_pre hM hK hMS hS U h1 h2⟩⟩ rfl rfl hl.1 rfl (lv_room (Nat.le_of_ble_eq_true rfl)) dJx4a65c_grow_d5877_7 ⟨Nat.le_of_ble_eq_true rfl, Nat.le_of_ble_eq_true rfl⟩) hS (fun _ _ h => h) (fun _ h => h) (fun S_1 r_2 t H1 locs ht hvm hw hB9 hz1 hk1 hS => ?_)
  obtain ⟨u_3, C_4, ma_5⟩ := S_1
  obtain ⟨hq9, hM, -, -⟩ := hB9
  rw [ht] at hM
  clear hk1 hz1 hvm ht
  clear t
  generalize H1 = H at hM hS ⊢
  exact W.aret hx hb hr (Or.inr ⟨_, rfl⟩) (Or.inr ⟨_, rfl⟩) (fun t ht hW => ⟨⟨(u_3, C_4, ma_5), _, rfl, hw, hq9, mI_pre hM hK hMS hS t ht hW⟩, hS.F ht⟩) hS.2.2 dJx4a65c_grow_d5877_10
