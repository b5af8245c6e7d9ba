section MNZ
variable {p : Program} {l : Launch} {e : Env} {R : Room} {s : State} {m : MethodId} {args : Array Value} {below : List Frame} {meth : Method} {c : Code} {H : Heap} {locs : List Loc} {cells slots : Nat} {Q : State → Prop}
variable {cc : ByteArray} {pc : Nat} {ls : Array Slot} {rest : List Value} {D : va_G} {A : Nat → Prop} {u : Nat → Nat → Prop} {C : Nat → Nat → va_E} {ma : Nat → Nat → Nat} {ty : Nat → ClassId} {H0 : Heap}
/-- a new boolean array joins -/
theorem mnewz (hexec : p.tables.exec = Jvm.exec) (hb : c.code = cc) (harr : (Cond.arrayClass .boolean).before args s = true) (hK : va_K D vwCl (mT ty) s) (hM : mW D A u C ma H) (hS : va_S A H0 H locs) (k x : Nat)
    {n N' : Nat} (hn : n < 2 ^ 31) (hN : n = N') (hbytes : N' * 4 ≤ 536870912) (hcells : cells + 1 ≤ R.cells) (hslots : slots + N' ≤ R.slots) (hdg : decode cc pc = .ok (.newarray .boolean, 2))
    (kk : ∀ H1 : Heap, mW D A (upU u k x) (up2 C k x (eI (ty 1) N' (fun _ => 0))) (up2 ma k x H.size) H1 → va_S A H0 H1 locs → (∀ q, q < H.size → H1[q]? = H[q]?) → H1.size = H.size + 1 →
      W p l e R s m args below meth c H1 locs (cells + 1) (slots + N') Q (F0 m (pc + 2) ls (.ref H.size :: rest))) : W p l e R s m args below meth c H locs cells slots Q (F0 m pc ls (.int (nI n) :: rest)) := by
  subst hN
  refine va_newaK (atype := .boolean) hexec hb harr rfl hdg rfl (nI_pos hn) (nI_clamp hn) (by first | exact hbytes | (show n * 1 ≤ _; omega)) hcells hslots rfl fun H1 cA e1 z1 o1 hAr hNm => ?_
  obtain rfl : cA = ty 1 := zRAz (U := s) hNm (hK.2 1 _ rfl).2
  have e9 : va_at D vwCl (H.size, eI (ty 1) n (fun _ => 0)) H1 := by
    show H1[H.size]? = some (vp_cell _ _)
    rw [vp_cell_i]
    exact e1
  exact kk H1 (hM.new e9 o1 z1) ⟨Nat.le_trans hS.1 (by omega), fun x h1 h2 => (o1 x (Nat.lt_of_lt_of_le h1 hS.1)).trans (hS.2.1 x h1 h2), hS.2.2⟩ o1 z1
end MNZ
set_option maxHeartbeats 4000000 in
set_option maxRecDepth 100000 in
theorem c_X11_init (l : Launch) (D : va_G) (ty : Nat → ClassId) (A : Nat → Prop) (u : Nat → Nat → Prop) (C : Nat → Nat → va_E) (ma : Nat → Nat → Nat) (t0 mi : Nat) (x : Nat) (hu1 : u 15 x) (hC1 : C 15 x = eO 12 [.int 0, .null, .null, .null, .null]) (a1 : Int32) : Met l yX11_init wsX11_init ({ frames := 7, cells := 16, slots := 399, locals := 215 }) (va_Pc [.ref (ma 15 x), .int a1] (mI D ty A u C ma t0 mi)) (va_Qv (fun S : mSt => (∀ k9 x9, u k9 x9 → S.1 k9 x9) ∧ (∀ k9 x9, ¬ ((x9 = x ∧ 15 ≤ k9 ∧ k9 ≤ 20) ∨ (k9 = 21 ∧ x9 / 6 = x)) → S.2.1 k9 x9 = C k9 x9) ∧ (∀ k9 x9, ¬ ((x9 = x ∧ 16 ≤ k9 ∧ k9 ≤ 20) ∨ (k9 = 21 ∧ x9 / 6 = x)) → S.2.2 k9 x9 = ma k9 x9) ∧ (S.1 15 x ∧ S.2.1 15 x = eO 12 [.int a1, .ref (S.2.2 16 x), .ref (S.2.2 17 x), .ref (S.2.2 18 x), .ref (S.2.2 19 x)]) ∧ (S.1 16 x ∧ S.2.1 16 x = eI (ty 0) 6 (fun _ => 0)) ∧ (S.1 17 x ∧ S.2.1 17 x = eI (ty 0) 6 (fun _ => 0)) ∧ (S.1 18 x ∧ S.2.1 18 x = eI (ty 1) 6 (fun _ => 0)) ∧ isL ty t0 S.1 S.2.1 S.2.2 19 x 6 (fun f => S.2.2 21 (x * 6 + f)) ∧ ∀ j, j < 6 → S.1 21 (x * 6 + j) ∧ S.2.1 21 (x * 6 + j) = eO 0 [.int (nI 0), .ref t0, .int 0]) (fun S t => mI D ty A S.1 S.2.1 S.2.2 t0 mi t) A) 16 399 A := by
  refine zMetI (cc := cX11_init) (maxL := 3) (ret := none) (by decide) rfl (Nat.le_of_ble_eq_true rfl) ?_
  intro p e s m below meth c hx hb hr hts hown hlocks hml hB hin9 ls hl
  obtain ⟨hM, hK, hMS⟩ := hB
  have hS : va_S A s.heap s.heap [] := va_S.rf
  have hl : lv_has ls 3 [(0, .ref (ma 15 x)), (1, .int a1)] := hl
  have hinX11 : ∀ w ∈ wsX110, w ∈ wsX11_init := by decide +kernel
  have hk1 := hts (.fieldLink RX11 9 "DatamarketDeskModel$Version" "reported" "[I") (by decide +kernel)
  have hk2 := hts (.fieldLink RX11 15 "DatamarketDeskModel$Version" "broken" "[I") (by decide +kernel)
  have hk3 := hts (.fieldLink RX11 18 "DatamarketDeskModel$Version" "isTold" "[Z") (by decide +kernel)
  have hinJx4a65c : ∀ w ∈ wsJx4a65c0, w ∈ wsX11_init := by decide +kernel
  have hk5 := hts (.fieldLink RX11 25 "DatamarketDeskModel$Version" "links" "Ljava/util/ArrayList;") (by decide +kernel)
  have hk6 := hts (.fieldLink RX11 29 "DatamarketDeskModel$Version" "rows" "I") (by decide +kernel)
  refine lv_aload_n hx hb dX11_init_0 rfl (lv_at hl 0 rfl) ?_
  refine W.objInit hx hb hown (hts (.methodLink RX11 3 objectInit) (by decide +kernel)) (hts (.instanceMethod objectInit) (by decide +kernel)) (hts (.code objectInit ⟨#[0xb1]⟩ 1 none) (by decide +kernel)) rfl (by rw [hml]; exact hl.1) rfl dX11_init_1 (Nat.le_of_ble_eq_true rfl) (Nat.le_of_ble_eq_true rfl) ?_
  refine W.eq (g2 := F0 m 4 ls []) rfl ?_
  refine lv_aload_n hx hb dX11_init_4 rfl (lv_at hl 0 rfl) ?_
  refine lv_bipush (v := nI 6) hx hb dX11_init_5 (by decide) ?_
  refine mnewa hx hb (hts (.arrayClass .int) (by decide +kernel)) hK hM hS 16 x (n := 6) (N' := 6) (by decide) rfl (by decide) (Nat.le_of_ble_eq_true rfl) (Nat.le_of_ble_eq_true rfl) dX11_init_7 (fun H1 hM hS _ _ => ?_)
  generalize hq9 : Array.size s.heap = q_1 at hM ⊢
  clear hq9
  generalize H1 = H at hM hS ⊢
  obtain ⟨u_2, eu_2⟩ : ∃ z, z = upU u 16 x := ⟨_, rfl⟩
  obtain ⟨C_3, eC_3⟩ : ∃ z, z = up2 C 16 x (eI (ty 0) 6 (fun _ => 0)) := ⟨_, rfl⟩
  obtain ⟨ma_4, ema_4⟩ : ∃ z, z = up2 ma 16 x q_1 := ⟨_, rfl⟩
  have hM : mW D A u_2 C_3 ma_4 H := by rw [eu_2, eC_3, ema_4]; exact hM
  have hu_5 : u_2 15 x := by rw [eu_2]; exact upU_o hu1
  have hC_6 : C_3 15 x = eO 12 [.int 0, .null, .null, .null, .null] := by rw [eC_3, up2_n _ _ (fun z => by omega)]; exact hC1
  have ha_7 : ma_4 15 x = ma 15 x := by rw [ema_4, up2_n _ _ (fun z => by omega)]
  have hu_8 : u_2 16 x := by rw [eu_2]; exact upU_s
  have hC_9 : C_3 16 x = eI (ty 0) 6 (fun _ => 0) := by rw [eC_3]; exact up2_s _ _ _ _
  have ha_10 : ma_4 16 x = q_1 := by rw [ema_4]; exact up2_s _ _ _ _
  refine mputF (v := .ref q_1) (ty := .array .int) hx hb hts hinX11 tyX11 tyX11_ok nmX11 hown hK hM hS hu_5 ha_7 hC_6 rfl 1 (by decide) (hk1) (fun _ h9 => h9) rfl hin9 rfl (by decide +kernel) rfl rfl (Nat.le_of_ble_eq_true rfl) dX11_init_9 (fun H locs hM hS ho => ?_)
  obtain ⟨C_11, eC_11⟩ : ∃ z, z = up2 C_3 15 x (eO 12 [.int 0, .ref q_1, .null, .null, .null]) := ⟨_, rfl⟩
  have hM : mW D A u_2 C_11 ma_4 H := by rw [eC_11]; exact hM
  have hC_12 : C_11 15 x = eO 12 [.int 0, .ref q_1, .null, .null, .null] := by rw [eC_11]; exact up2_s _ _ _ _
  have hC_13 : C_11 16 x = eI (ty 0) 6 (fun _ => 0) := by rw [eC_11, up2_n _ _ (fun z => by omega)]; exact hC_9
  refine lv_aload_n hx hb dX11_init_12 rfl (lv_at hl 0 rfl) ?_
  refine lv_bipush (v := nI 6) hx hb dX11_init_13 (by decide) ?_
  refine mnewa hx hb (hts (.arrayClass .int) (by decide +kernel)) hK hM hS 17 x (n := 6) (N' := 6) (by decide) rfl (by decide) (Nat.le_of_ble_eq_true rfl) (Nat.le_of_ble_eq_true rfl) dX11_init_15 (fun H1 hM hS _ _ => ?_)
  generalize hq9 : Array.size H = q_14 at hM ⊢
  clear hq9
  generalize H1 = H at hM hS ⊢
  obtain ⟨u_15, eu_15⟩ : ∃ z, z = upU u_2 17 x := ⟨_, rfl⟩
  obtain ⟨C_16, eC_16⟩ : ∃ z, z = up2 C_11 17 x (eI (ty 0) 6 (fun _ => 0)) := ⟨_, rfl⟩
  obtain ⟨ma_17, ema_17⟩ : ∃ z, z = up2 ma_4 17 x q_14 := ⟨_, rfl⟩
  have hM : mW D A u_15 C_16 ma_17 H := by rw [eu_15, eC_16, ema_17]; exact hM
  have hu_18 : u_15 15 x := by rw [eu_15]; exact upU_o hu_5
  have hC_19 : C_16 15 x = eO 12 [.int 0, .ref q_1, .null, .null, .null] := by rw [eC_16, up2_n _ _ (fun z => by omega)]; exact hC_12
  have ha_20 : ma_17 15 x = ma 15 x := by rw [ema_17, up2_n _ _ (fun z => by omega)]; exact ha_7
  have hu_21 : u_15 16 x := by rw [eu_15]; exact upU_o hu_8
  have hC_22 : C_16 16 x = eI (ty 0) 6 (fun _ => 0) := by rw [eC_16, up2_n _ _ (fun z => by omega)]; exact hC_13
  have ha_23 : ma_17 16 x = q_1 := by rw [ema_17, up2_n _ _ (fun z => by omega)]; exact ha_10
  have hu_24 : u_15 17 x := by rw [eu_15]; exact upU_s
  have hC_25 : C_16 17 x = eI (ty 0) 6 (fun _ => 0) := by rw [eC_16]; exact up2_s _ _ _ _
  have ha_26 : ma_17 17 x = q_14 := by rw [ema_17]; exact up2_s _ _ _ _
  refine mputF (v := .ref q_14) (ty := .array .int) hx hb hts hinX11 tyX11 tyX11_ok nmX11 hown hK hM hS hu_18 ha_20 hC_19 rfl 2 (by decide) (hk2) (fun _ h9 => h9) rfl hin9 rfl (by decide +kernel) rfl rfl (Nat.le_of_ble_eq_true rfl) dX11_init_17 (fun H locs hM hS ho => ?_)
  obtain ⟨C_27, eC_27⟩ : ∃ z, z = up2 C_16 15 x (eO 12 [.int 0, .ref q_1, .ref q_14, .null, .null]) := ⟨_, rfl⟩
  have hM : mW D A u_15 C_27 ma_17 H := by rw [eC_27]; exact hM
  have hC_28 : C_27 15 x = eO 12 [.int 0, .ref q_1, .ref q_14, .null, .null] := by rw [eC_27]; exact up2_s _ _ _ _
  have hC_29 : C_27 16 x = eI (ty 0) 6 (fun _ => 0) := by rw [eC_27, up2_n _ _ (fun z => by omega)]; exact hC_22
  have hC_30 : C_27 17 x = eI (ty 0) 6 (fun _ => 0) := by rw [eC_27, up2_n _ _ (fun z => by omega)]; exact hC_25
  refine lv_aload_n hx hb dX11_init_20 rfl (lv_at hl 0 rfl) ?_
  refine lv_bipush (v := nI 6) hx hb dX11_init_21 (by decide) ?_
  refine mnewz hx hb (hts (.arrayClass .boolean) (by decide +kernel)) hK hM hS 18 x (n := 6) (N' := 6) (by decide) rfl (by decide) (Nat.le_of_ble_eq_true rfl) (Nat.le_of_ble_eq_true rfl) dX11_init_23 (fun H1 hM hS _ _ => ?_)
  generalize hq9 : Array.size H = q_31 at hM ⊢
  clear hq9
  generalize H1 = H at hM hS ⊢
  obtain ⟨u_32, eu_32⟩ : ∃ z, z = upU u_15 18 x := ⟨_, rfl⟩
  obtain ⟨C_33, eC_33⟩ : ∃ z, z = up2 C_27 18 x (eI (ty 1) 6 (fun _ => 0)) := ⟨_, rfl⟩
  obtain ⟨ma_34, ema_34⟩ : ∃ z, z = up2 ma_17 18 x q_31 := ⟨_, rfl⟩
  have hM : mW D A u_32 C_33 ma_34 H := by rw [eu_32, eC_33, ema_34]; exact hM
  have hu_35 : u_32 15 x := by rw [eu_32]; exact upU_o hu_18
  have hC_36 : C_33 15 x = eO 12 [.int 0, .ref q_1, .ref q_14, .null, .null] := by rw [eC_33, up2_n _ _ (fun z => by omega)]; exact hC_28
  have ha_37 : ma_34 15 x = ma 15 x := by rw [ema_34, up2_n _ _ (fun z => by omega)]; exact ha_20
  have hu_38 : u_32 16 x := by rw [eu_32]; exact upU_o hu_21
  have hC_39 : C_33 16 x = eI (ty 0) 6 (fun _ => 0) := by rw [eC_33, up2_n _ _ (fun z => by omega)]; exact hC_29
  have ha_40 : ma_34 16 x = q_1 := by rw [ema_34, up2_n _ _ (fun z => by omega)]; exact ha_23
  have hu_41 : u_32 17 x := by rw [eu_32]; exact upU_o hu_24
  have hC_42 : C_33 17 x = eI (ty 0) 6 (fun _ => 0) := by rw [eC_33, up2_n _ _ (fun z => by omega)]; exact hC_30
  have ha_43 : ma_34 17 x = q_14 := by rw [ema_34, up2_n _ _ (fun z => by omega)]; exact ha_26
  have hu_44 : u_32 18 x := by rw [eu_32]; exact upU_s
  have hC_45 : C_33 18 x = eI (ty 1) 6 (fun _ => 0) := by rw [eC_33]; exact up2_s _ _ _ _
  have ha_46 : ma_34 18 x = q_31 := by rw [ema_34]; exact up2_s _ _ _ _
  refine mputF (v := .ref q_31) (ty := .array .boolean) hx hb hts hinX11 tyX11 tyX11_ok nmX11 hown hK hM hS hu_35 ha_37 hC_36 rfl 3 (by decide) (hk3) (fun _ h9 => h9) rfl hin9 rfl (by decide +kernel) rfl rfl (Nat.le_of_ble_eq_true rfl) dX11_init_25 (fun H locs hM hS ho => ?_)
  obtain ⟨C_47, eC_47⟩ : ∃ z, z = up2 C_33 15 x (eO 12 [.int 0, .ref q_1, .ref q_14, .ref q_31, .null]) := ⟨_, rfl⟩
  have hM : mW D A u_32 C_47 ma_34 H := by rw [eC_47]; exact hM
  have hC_48 : C_47 15 x = eO 12 [.int 0, .ref q_1, .ref q_14, .ref q_31, .null] := by rw [eC_47]; exact up2_s _ _ _ _
  have hC_49 : C_47 16 x = eI (ty 0) 6 (fun _ => 0) := by rw [eC_47, up2_n _ _ (fun z => by omega)]; exact hC_39
  have hC_50 : C_47 17 x = eI (ty 0) 6 (fun _ => 0) := by rw [eC_47, up2_n _ _ (fun z => by omega)]; exact hC_42
  have hC_51 : C_47 18 x = eI (ty 1) 6 (fun _ => 0) := by rw [eC_47, up2_n _ _ (fun z => by omega)]; exact hC_45
  refine lv_aload_n hx hb dX11_init_28 rfl (lv_at hl 0 rfl) ?_
  refine mnew (Cn := RJx4a65c) (T := TJx4a65c) (N := 3) (ci := 0) (fs := [.int 0, .null, .int 0]) hx hb hts hinJx4a65c tyJx4a65c tyJx4a65c_ok hown (hts (.classLink RX11 22 RJx4a65c) (by decide +kernel)) (hts (.instantiable RJx4a65c 3) (by decide +kernel)) (hts (.initialized RJx4a65c) (by decide +kernel)) hK hM hS 19 x rfl (fun j hj => by rcases (show j = 0 ∨ j = 1 ∨ j = 2 by omega) with rfl | rfl | rfl <;> rfl) (Nat.le_of_ble_eq_true rfl) (Nat.le_of_ble_eq_true rfl) dX11_init_29 (fun H1 hM hS _ _ => ?_)
  generalize hq9 : Array.size H = q_52 at hM ⊢
  clear hq9
  generalize H1 = H at hM hS ⊢
  obtain ⟨u_53, eu_53⟩ : ∃ z, z = upU u_32 19 x := ⟨_, rfl⟩
  obtain ⟨C_54, eC_54⟩ : ∃ z, z = up2 C_47 19 x (eO 0 [.int 0, .null, .int 0]) := ⟨_, rfl⟩
  obtain ⟨ma_55, ema_55⟩ : ∃ z, z = up2 ma_34 19 x q_52 := ⟨_, rfl⟩
  have hM : mW D A u_53 C_54 ma_55 H := by rw [eu_53, eC_54, ema_55]; exact hM
  have hu_56 : u_53 15 x := by rw [eu_53]; exact upU_o hu_35
  have hC_57 : C_54 15 x = eO 12 [.int 0, .ref q_1, .ref q_14, .ref q_31, .null] := by rw [eC_54, up2_n _ _ (fun z => by omega)]; exact hC_48
  have ha_58 : ma_55 15 x = ma 15 x := by rw [ema_55, up2_n _ _ (fun z => by omega)]; exact ha_37
  have hu_59 : u_53 16 x := by rw [eu_53]; exact upU_o hu_38
  have hC_60 : C_54 16 x = eI (ty 0) 6 (fun _ => 0) := by rw [eC_54, up2_n _ _ (fun z => by omega)]; exact hC_49
  have ha_61 : ma_55 16 x = q_1 := by rw [ema_55, up2_n _ _ (fun z => by omega)]; exact ha_40
  have hu_62 : u_53 17 x := by rw [eu_53]; exact upU_o hu_41
  have hC_63 : C_54 17 x = eI (ty 0) 6 (fun _ => 0) := by rw [eC_54, up2_n _ _ (fun z => by omega)]; exact hC_50
  have ha_64 : ma_55 17 x = q_14 := by rw [ema_55, up2_n _ _ (fun z => by omega)]; exact ha_43
  have hu_65 : u_53 18 x := by rw [eu_53]; exact upU_o hu_44
  have hC_66 : C_54 18 x = eI (ty 1) 6 (fun _ => 0) := by rw [eC_54, up2_n _ _ (fun z => by omega)]; exact hC_51
  have ha_67 : ma_55 18 x = q_31 := by rw [ema_55, up2_n _ _ (fun z => by omega)]; exact ha_46
  have hu_68 : u_53 19 x := by rw [eu_53]; exact upU_s
  have hC_69 : C_54 19 x = eO 0 [.int 0, .null, .int 0] := by rw [eC_54]; exact up2_s _ _ _ _
  have ha_70 : ma_55 19 x = q_52 := by rw [ema_55]; exact up2_s _ _ _ _
  refine lv_dup hx hb dX11_init_32 rfl ?_
  have h_72 := c_lst l D ty A u_53 C_54 ma_55 t0 mi 19 x hu_68 hC_69
  rw [ha_70] at h_72
  refine va_callv (va_runI (As := []) (rest := [.ref q_52, .ref (ma 15 x)]) ⟨hx, hb, hml, hown, hts⟩ (h_72) (cwI 0 hts gX11_init_Jx4a65c_init_da8c8 rfl rfl rfl (hts (.initialized RJx4a65c) (by decide +kernel)) (hts (.methodLink RX11 24 yJx4a65c_init_da8c8) (by decide +kernel)) (hts (.instanceMethod yJx4a65c_init_da8c8) (by decide +kernel)) rfl (by decide +kernel) ⟨Nat.le_of_ble_eq_true rfl, Nat.le_of_ble_eq_true rfl⟩) ⟨zBl mI_blind, fun U h1 h2 => ⟨rfl, mI_pre hM hK hMS hS U h1 h2⟩⟩ rfl rfl hl.1 rfl (lv_room (Nat.le_of_ble_eq_true rfl)) dX11_init_33 ⟨Nat.le_of_ble_eq_true rfl, Nat.le_of_ble_eq_true rfl⟩) hS (fun _ _ h => h) (fun _ h => h) (fun Z_71 t H1 locs ht hvm hw hB9 hz1 hk1 hS => ?_)
  obtain ⟨hM, -, -⟩ := hB9
  rw [ht] at hM
  clear hk1 hz1 hvm ht
  clear t
  generalize H1 = H at hM hS ⊢
  rw [hw] at hM
  clear hw
  obtain ⟨C_73, eC_73⟩ : ∃ z, z = up2 C_54 19 x (eO 0 [.int (nI 0), .ref t0, .int 0]) := ⟨_, rfl⟩
  have hM : mW D A u_53 C_73 ma_55 H := by rw [eC_73]; exact hM
  have hC_74 : C_73 15 x = eO 12 [.int 0, .ref q_1, .ref q_14, .ref q_31, .null] := by rw [eC_73, up2_n _ _ (fun z => by omega)]; exact hC_57
  have hC_75 : C_73 16 x = eI (ty 0) 6 (fun _ => 0) := by rw [eC_73, up2_n _ _ (fun z => by omega)]; exact hC_60
  have hC_76 : C_73 17 x = eI (ty 0) 6 (fun _ => 0) := by rw [eC_73, up2_n _ _ (fun z => by omega)]; exact hC_63
  have hC_77 : C_73 18 x = eI (ty 1) 6 (fun _ => 0) := by rw [eC_73, up2_n _ _ (fun z => by omega)]; exact hC_66
  have hC_78 : C_73 19 x = eO 0 [.int (nI 0), .ref t0, .int 0] := by rw [eC_73]; exact up2_s _ _ _ _
  refine mputF (v := .ref q_52) (ty := .object "java/util/ArrayList") hx hb hts hinX11 tyX11 tyX11_ok nmX11 hown hK hM hS hu_56 ha_58 hC_74 rfl 4 (by decide) (hk5) (fun _ h9 => h9) rfl hin9 rfl (by decide +kernel) rfl rfl (Nat.le_of_ble_eq_true rfl) dX11_init_36 (fun H locs hM hS ho => ?_)
  obtain ⟨C_79, eC_79⟩ : ∃ z, z = up2 C_73 15 x (eO 12 [.int 0, .ref q_1, .ref q_14, .ref q_31, .ref q_52]) := ⟨_, rfl⟩
  have hM : mW D A u_53 C_79 ma_55 H := by rw [eC_79]; exact hM
  have hC_80 : C_79 15 x = eO 12 [.int 0, .ref q_1, .ref q_14, .ref q_31, .ref q_52] := by rw [eC_79]; exact up2_s _ _ _ _
  have hC_81 : C_79 16 x = eI (ty 0) 6 (fun _ => 0) := by rw [eC_79, up2_n _ _ (fun z => by omega)]; exact hC_75
  have hC_82 : C_79 17 x = eI (ty 0) 6 (fun _ => 0) := by rw [eC_79, up2_n _ _ (fun z => by omega)]; exact hC_76
  have hC_83 : C_79 18 x = eI (ty 1) 6 (fun _ => 0) := by rw [eC_79, up2_n _ _ (fun z => by omega)]; exact hC_77
  have hC_84 : C_79 19 x = eO 0 [.int (nI 0), .ref t0, .int 0] := by rw [eC_79, up2_n _ _ (fun z => by omega)]; exact hC_78
  refine lv_aload_n hx hb dX11_init_39 rfl (lv_at hl 0 rfl) ?_
  refine lv_iload_n hx hb dX11_init_40 rfl (lv_at hl 1 rfl) ?_
  refine mputF (v := .int a1) (ty := .int) hx hb hts hinX11 tyX11 tyX11_ok nmX11 hown hK hM hS hu_56 ha_58 hC_80 rfl 0 (by decide) (hk6) (fun _ h9 => h9) rfl hin9 rfl (by decide +kernel) rfl rfl (Nat.le_of_ble_eq_true rfl) dX11_init_41 (fun H locs hM hS ho => ?_)
  obtain ⟨C_85, eC_85⟩ : ∃ z, z = up2 C_79 15 x (eO 12 [.int a1, .ref q_1, .ref q_14, .ref q_31, .ref q_52]) := ⟨_, rfl⟩
  have hM : mW D A u_53 C_85 ma_55 H := by rw [eC_85]; exact hM
  have hC_86 : C_85 15 x = eO 12 [.int a1, .ref q_1, .ref q_14, .ref q_31, .ref q_52] := by rw [eC_85]; exact up2_s _ _ _ _
  have hC_87 : C_85 16 x = eI (ty 0) 6 (fun _ => 0) := by rw [eC_85, up2_n _ _ (fun z => by omega)]; exact hC_81
  have hC_88 : C_85 17 x = eI (ty 0) 6 (fun _ => 0) := by rw [eC_85, up2_n _ _ (fun z => by omega)]; exact hC_82
  have hC_89 : C_85 18 x = eI (ty 1) 6 (fun _ => 0) := by rw [eC_85, up2_n _ _ (fun z => by omega)]; exact hC_83
  have hC_90 : C_85 19 x = eO 0 [.int (nI 0), .ref t0, .int 0] := by rw [eC_85, up2_n _ _ (fun z => by omega)]; exact hC_84
  refine lv_iconst (v := nI 0) hx hb dX11_init_44 (by decide) ?_
  refine lv_istore_n (lv' := [(2, .int (nI 0)), (0, .ref (ma 15 x)), (1, .int a1)]) hx hb dX11_init_45 rfl hl (by decide) rfl (fun ls hl => ?_)
  refine lv_iload_n hx hb dX11_init_46 rfl (lv_at hl 0 rfl) ?_
  refine lv_bipush (v := nI 6) hx hb dX11_init_47 (by decide) ?_
  refine lv_icmp_ge (tgt := 73) hx hb dX11_init_49 (by decide) (fun c_91 => ?_) (fun c_91 => ?_)
  · have c_91 := zn_geT (a := 0) (b := 6) (by omega) (by omega) c_91
    omega
  · have c_91 := zn_geF (a := 0) (b := 6) (by omega) (by omega) c_91
    refine lv_aload_n hx hb dX11_init_52 rfl (lv_at hl 1 rfl) ?_
    refine va_get hx hb hts hinX11 hown hK (hM.Pa hu_56 ha_58 hC_86) 0 rfl rfl 4 (by decide) (hk5) (fun _ h9 => h9) rfl dX11_init_53 ?_
    refine mnew (Cn := RJx4a65c) (T := TJx4a65c) (N := 3) (ci := 0) (fs := [.int 0, .null, .int 0]) hx hb hts hinJx4a65c tyJx4a65c tyJx4a65c_ok hown (hts (.classLink RX11 22 RJx4a65c) (by decide +kernel)) (hts (.instantiable RJx4a65c 3) (by decide +kernel)) (hts (.initialized RJx4a65c) (by decide +kernel)) hK hM hS 21 (x * 6 + 0) rfl (fun j hj => by rcases (show j = 0 ∨ j = 1 ∨ j = 2 by omega) with rfl | rfl | rfl <;> rfl) (Nat.le_of_ble_eq_true rfl) (Nat.le_of_ble_eq_true rfl) dX11_init_56 (fun H1 hM hS _ _ => ?_)
    generalize hq9 : Array.size H = q_92 at hM ⊢
    clear hq9
    generalize H1 = H at hM hS ⊢
    obtain ⟨u_93, eu_93⟩ : ∃ z, z = upU u_53 21 (x * 6 + 0) := ⟨_, rfl⟩
    obtain ⟨C_94, eC_94⟩ : ∃ z, z = up2 C_85 21 (x * 6 + 0) (eO 0 [.int 0, .null, .int 0]) := ⟨_, rfl⟩
    obtain ⟨ma_95, ema_95⟩ : ∃ z, z = up2 ma_55 21 (x * 6 + 0) q_92 := ⟨_, rfl⟩
    have hM : mW D A u_93 C_94 ma_95 H := by rw [eu_93, eC_94, ema_95]; exact hM
    have hu_96 : u_93 15 x := by rw [eu_93]; exact upU_o hu_56
    have hC_97 : C_94 15 x = eO 12 [.int a1, .ref q_1, .ref q_14, .ref q_31, .ref q_52] := by rw [eC_94, up2_n _ _ (fun z => by omega)]; exact hC_86
    have ha_98 : ma_95 15 x = ma 15 x := by rw [ema_95, up2_n _ _ (fun z => by omega)]; exact ha_58
    have hu_99 : u_93 16 x := by rw [eu_93]; exact upU_o hu_59
    have hC_100 : C_94 16 x = eI (ty 0) 6 (fun _ => 0) := by rw [eC_94, up2_n _ _ (fun z => by omega)]; exact hC_87
    have ha_101 : ma_95 16 x = q_1 := by rw [ema_95, up2_n _ _ (fun z => by omega)]; exact ha_61
    have hu_102 : u_93 17 x := by rw [eu_93]; exact upU_o hu_62
    have hC_103 : C_94 17 x = eI (ty 0) 6 (fun _ => 0) := by rw [eC_94, up2_n _ _ (fun z => by omega)]; exact hC_88
    have ha_104 : ma_95 17 x = q_14 := by rw [ema_95, up2_n _ _ (fun z => by omega)]; exact ha_64
    have hu_105 : u_93 18 x := by rw [eu_93]; exact upU_o hu_65
    have hC_106 : C_94 18 x = eI (ty 1) 6 (fun _ => 0) := by rw [eC_94, up2_n _ _ (fun z => by omega)]; exact hC_89
    have ha_107 : ma_95 18 x = q_31 := by rw [ema_95, up2_n _ _ (fun z => by omega)]; exact ha_67
    have hu_108 : u_93 19 x := by rw [eu_93]; exact upU_o hu_68
    have hC_109 : C_94 19 x = eO 0 [.int (nI 0), .ref t0, .int 0] := by rw [eC_94, up2_n _ _ (fun z => by omega)]; exact hC_90
    have ha_110 : ma_95 19 x = q_52 := by rw [ema_95, up2_n _ _ (fun z => by omega)]; exact ha_70
    have hu_111 : u_93 21 (x * 6 + 0) := by rw [eu_93]; exact upU_s
    have hC_112 : C_94 21 (x * 6 + 0) = eO 0 [.int 0, .null, .int 0] := by rw [eC_94]; exact up2_s _ _ _ _
    have ha_113 : ma_95 21 (x * 6 + 0) = q_92 := by rw [ema_95]; exact up2_s _ _ _ _
    refine lv_dup hx hb dX11_init_59 rfl ?_
    have h_115 := c_lst l D ty A u_93 C_94 ma_95 t0 mi 21 (x * 6 + 0) hu_111 hC_112
    rw [ha_113] at h_115
    refine va_callv (va_runI (As := []) (rest := [.ref q_92, .ref q_52]) ⟨hx, hb, hml, hown, hts⟩ (h_115) (cwI 0 hts gX11_init_Jx4a65c_init_da8c8 rfl rfl rfl (hts (.initialized RJx4a65c) (by decide +kernel)) (hts (.methodLink RX11 24 yJx4a65c_init_da8c8) (by decide +kernel)) (hts (.instanceMethod yJx4a65c_init_da8c8) (by decide +kernel)) rfl (by decide +kernel) ⟨Nat.le_of_ble_eq_true rfl, Nat.le_of_ble_eq_true rfl⟩) ⟨zBl mI_blind, fun U h1 h2 => ⟨rfl, mI_pre hM hK hMS hS U h1 h2⟩⟩ rfl rfl hl.1 rfl (lv_room (Nat.le_of_ble_eq_true rfl)) dX11_init_60 ⟨Nat.le_of_ble_eq_true rfl, Nat.le_of_ble_eq_true rfl⟩) hS (fun _ _ h => h) (fun _ h => h) (fun Z_114 t H1 locs ht hvm hw hB9 hz1 hk1 hS => ?_)
    obtain ⟨hM, -, -⟩ := hB9
    rw [ht] at hM
    clear hk1 hz1 hvm ht
    clear t
    generalize H1 = H at hM hS ⊢
    rw [hw] at hM
    clear hw
    obtain ⟨C_116, eC_116⟩ : ∃ z, z = up2 C_94 21 (x * 6 + 0) (eO 0 [.int (nI 0), .ref t0, .int 0]) := ⟨_, rfl⟩
    have hM : mW D A u_93 C_116 ma_95 H := by rw [eC_116]; exact hM
    have hC_117 : C_116 15 x = eO 12 [.int a1, .ref q_1, .ref q_14, .ref q_31, .ref q_52] := by rw [eC_116, up2_n _ _ (fun z => by omega)]; exact hC_97
    have hC_118 : C_116 16 x = eI (ty 0) 6 (fun _ => 0) := by rw [eC_116, up2_n _ _ (fun z => by omega)]; exact hC_100
    have hC_119 : C_116 17 x = eI (ty 0) 6 (fun _ => 0) := by rw [eC_116, up2_n _ _ (fun z => by omega)]; exact hC_103
    have hC_120 : C_116 18 x = eI (ty 1) 6 (fun _ => 0) := by rw [eC_116, up2_n _ _ (fun z => by omega)]; exact hC_106
    have hC_121 : C_116 19 x = eO 0 [.int (nI 0), .ref t0, .int 0] := by rw [eC_116, up2_n _ _ (fun z => by omega)]; exact hC_109
    have hC_122 : C_116 21 (x * 6 + 0) = eO 0 [.int (nI 0), .ref t0, .int 0] := by rw [eC_116]; exact up2_s _ _ _ _
    have hX_123 : ∀ k9 x9, u k9 x9 → u_93 k9 x9 := fun k9 x9 h9 => by rw [eu_93, eu_53, eu_32, eu_15, eu_2]; exact upU_o (upU_o (upU_o (upU_o (upU_o (h9)))))
    have hX_124 : ∀ k9 x9, ¬ ((x9 = x ∧ 15 ≤ k9 ∧ k9 ≤ 20) ∨ (k9 = 21 ∧ x9 / 6 = x)) → C_116 k9 x9 = C k9 x9 := fun k9 x9 h9 => by rw [eC_116, up2_n _ _ (fun z => by omega), eC_94, up2_n _ _ (fun z => by omega), eC_85, up2_n _ _ (fun z => by omega), eC_79, up2_n _ _ (fun z => by omega), eC_73, up2_n _ _ (fun z => by omega), eC_54, up2_n _ _ (fun z => by omega), eC_47, up2_n _ _ (fun z => by omega), eC_33, up2_n _ _ (fun z => by omega), eC_27, up2_n _ _ (fun z => by omega), eC_16, up2_n _ _ (fun z => by omega), eC_11, up2_n _ _ (fun z => by omega), eC_3, up2_n _ _ (fun z => by omega)]
    have hX_125 : ∀ k9 x9, ¬ ((x9 = x ∧ 16 ≤ k9 ∧ k9 ≤ 20) ∨ (k9 = 21 ∧ x9 / 6 = x)) → ma_95 k9 x9 = ma k9 x9 := fun k9 x9 h9 => by rw [ema_95, up2_n _ _ (fun z => by omega), ema_55, up2_n _ _ (fun z => by omega), ema_34, up2_n _ _ (fun z => by omega), ema_17, up2_n _ _ (fun z => by omega), ema_4, up2_n _ _ (fun z => by omega)]
    have hL_126 : isL ty t0 u_93 C_116 ma_95 19 x 0 (fun f => ma_95 21 (x * 6 + f)) := ⟨hu_108, by decide, nI 0, Or.inl ⟨rfl, hC_121⟩⟩
    have hI_127 : ∀ j, j < 0 → u_93 21 (x * 6 + j) ∧ C_116 21 (x * 6 + j) = eO 0 [.int (nI 0), .ref t0, .int 0] := fun j hj => absurd hj (Nat.not_lt_zero _)
    have ha_128 : ma_95 19 x = q_52 := ha_110
    obtain ⟨huz_129, hnz_129, mz_129, bz_129, hCz_129⟩ := isL.hd hL_126
    have h_130 := c_add l D ty A u_93 C_116 ma_95 t0 mi 19 x 0 (fun f => ma_95 21 (x * 6 + f)) hL_126 21 (x * 6 + 0) 0 _ _ hu_111 hC_122 rfl (by decide +kernel) (by omega) (by omega) (fun j hj => ⟨21, x * 6 + j, 0, _, _, by omega, (hI_127 j hj).1, rfl, (hI_127 j hj).2, rfl, by decide +kernel⟩) (by omega)
    rw [ha_128, ha_113] at h_130
    refine va_calli (va_runV (As := [.ref q_92]) (rest := []) ⟨hx, hb, hml, hown, hts⟩ (h_130) (cwV 1 hts gX11_init_Jx4a65c_add_9ea2d rfl rfl rfl (by decide +kernel) ⟨Nat.le_of_ble_eq_true rfl, Nat.le_of_ble_eq_true rfl⟩) ⟨zBl mI_blind, (va_recv hK (hM.Pa huz_129 ha_128 hCz_129) (ci := 0) (q0 := 0) rfl rfl), fun U h1 h2 => ⟨rfl, mI_pre hM hK hMS hS U h1 h2⟩⟩ rfl rfl hl.1 rfl (lv_room (Nat.le_of_ble_eq_true rfl)) dX11_init_63 ⟨Nat.le_of_ble_eq_true rfl, Nat.le_of_ble_eq_true rfl⟩) hS (fun _ _ h => h) (fun _ h => h) (fun r_132 S_131 t H1 locs ht hvm hw hB9 hz1 hk1 hS => ?_)
    obtain ⟨hr_132, hchg, hL9⟩ := hw
    subst hr_132
    obtain ⟨hM, -, -⟩ := hB9
    rw [ht] at hM
    clear hk1 hz1 hvm ht
    clear t
    generalize H1 = H at hM hS ⊢
    obtain ⟨u_133, C_134, ma_135⟩ := S_131
    have hM : mW D A u_133 C_134 ma_135 H := hM
    have hchg1 : ∀ k9 x9, u_93 k9 x9 → u_133 k9 x9 := hchg.1
    have hchg2 : ∀ k9 x9, ¬ (k9 = 19 ∧ x9 = x) → ¬ (k9 = 20 ∧ x9 = x) → C_134 k9 x9 = C_116 k9 x9 := hchg.2.1
    have hchg3 : ∀ k9 x9, ¬ (k9 = 20 ∧ x9 = x) → ma_135 k9 x9 = ma_95 k9 x9 := hchg.2.2
    have hX_136 : ∀ k9 x9, u k9 x9 → u_133 k9 x9 := fun k9 x9 h9 => hchg1 _ _ (hX_123 k9 x9 h9)
    have hX_137 : ∀ k9 x9, ¬ ((x9 = x ∧ 15 ≤ k9 ∧ k9 ≤ 20) ∨ (k9 = 21 ∧ x9 / 6 = x)) → C_134 k9 x9 = C k9 x9 := fun k9 x9 h9 => (hchg2 _ _ (by omega) (by omega)).trans (hX_124 k9 x9 h9)
    have hX_138 : ∀ k9 x9, ¬ ((x9 = x ∧ 16 ≤ k9 ∧ k9 ≤ 20) ∨ (k9 = 21 ∧ x9 / 6 = x)) → ma_135 k9 x9 = ma k9 x9 := fun k9 x9 h9 => (hchg3 _ _ (by omega)).trans (hX_125 k9 x9 h9)
    have hL_139 : isL ty t0 u_133 C_134 ma_135 19 x 1 (fun f => ma_135 21 (x * 6 + f)) := hL9.ext (fun q => ⟨q, rfl⟩) (fun q => ⟨q, rfl, rfl⟩) (fun j hj => by show ma_135 21 (x * 6 + j) = if j = 0 then q_92 else ma_95 21 (x * 6 + j); rw [hchg3 _ _ (by omega)]; by_cases ej : j = 0; (rw [if_pos ej, ej]; exact ha_113); (rw [if_neg ej]))
    have hI_140 : ∀ j, j < 1 → u_133 21 (x * 6 + j) ∧ C_134 21 (x * 6 + j) = eO 0 [.int (nI 0), .ref t0, .int 0] := fun j hj => by
      rw [hchg2 _ _ (by omega) (by omega)]
      by_cases ej : j = 0
      · rw [ej]; exact ⟨hchg1 _ _ hu_111, hC_122⟩
      · exact ⟨hchg1 _ _ (hI_127 j (by omega)).1, (hI_127 j (by omega)).2⟩
    have ha_141 : ma_135 19 x = q_52 := (hchg3 _ _ (by omega)).trans ha_128
    have hu_142 : u_133 15 x := hchg1 _ _ hu_96
    have hC_143 : C_134 15 x = eO 12 [.int a1, .ref q_1, .ref q_14, .ref q_31, .ref q_52] := (hchg2 _ _ (by omega) (by omega)).trans hC_117
    have ha_144 : ma_135 15 x = ma 15 x := (hchg3 _ _ (by omega)).trans ha_98
    have hu_145 : u_133 16 x := hchg1 _ _ hu_99
    have hC_146 : C_134 16 x = eI (ty 0) 6 (fun _ => 0) := (hchg2 _ _ (by omega) (by omega)).trans hC_118
    have ha_147 : ma_135 16 x = q_1 := (hchg3 _ _ (by omega)).trans ha_101
    have hu_148 : u_133 17 x := hchg1 _ _ hu_102
    have hC_149 : C_134 17 x = eI (ty 0) 6 (fun _ => 0) := (hchg2 _ _ (by omega) (by omega)).trans hC_119
    have ha_150 : ma_135 17 x = q_14 := (hchg3 _ _ (by omega)).trans ha_104
    have hu_151 : u_133 18 x := hchg1 _ _ hu_105
    have hC_152 : C_134 18 x = eI (ty 1) 6 (fun _ => 0) := (hchg2 _ _ (by omega) (by omega)).trans hC_120
    have ha_153 : ma_135 18 x = q_31 := (hchg3 _ _ (by omega)).trans ha_107
    clear hchg hL9 hchg1 hchg2 hchg3
    refine lv_pop hx hb dX11_init_66 rfl ?_
    refine lv_iinc (v := nI 1) (lv' := [(2, .int (nI 1)), (0, .ref (ma 15 x)), (1, .int a1)]) hx hb dX11_init_67 hl (k := 0) rfl (nI_add 0 1) (by decide) rfl (fun ls hl => ?_)
    refine lv_goto (tgt := 46) hx hb dX11_init_70 (by decide) ?_
    refine lv_iload_n hx hb dX11_init_46 rfl (lv_at hl 0 rfl) ?_
    refine lv_bipush (v := nI 6) hx hb dX11_init_47 (by decide) ?_
    refine lv_icmp_ge (tgt := 73) hx hb dX11_init_49 (by decide) (fun c_154 => ?_) (fun c_154 => ?_)
    · have c_154 := zn_geT (a := 1) (b := 6) (by omega) (by omega) c_154
      omega
    · have c_154 := zn_geF (a := 1) (b := 6) (by omega) (by omega) c_154
      refine lv_aload_n hx hb dX11_init_52 rfl (lv_at hl 1 rfl) ?_
      refine va_get hx hb hts hinX11 hown hK (hM.Pa hu_142 ha_144 hC_143) 0 rfl rfl 4 (by decide) (hk5) (fun _ h9 => h9) rfl dX11_init_53 ?_
      refine mnew (Cn := RJx4a65c) (T := TJx4a65c) (N := 3) (ci := 0) (fs := [.int 0, .null, .int 0]) hx hb hts hinJx4a65c tyJx4a65c tyJx4a65c_ok hown (hts (.classLink RX11 22 RJx4a65c) (by decide +kernel)) (hts (.instantiable RJx4a65c 3) (by decide +kernel)) (hts (.initialized RJx4a65c) (by decide +kernel)) hK hM hS 21 (x * 6 + 1) rfl (fun j hj => by rcases (show j = 0 ∨ j = 1 ∨ j = 2 by omega) with rfl | rfl | rfl <;> rfl) (Nat.le_of_ble_eq_true rfl) (Nat.le_of_ble_eq_true rfl) dX11_init_56 (fun H1 hM hS _ _ => ?_)
      generalize hq9 : Array.size H = q_155 at hM ⊢
      clear hq9
      generalize H1 = H at hM hS ⊢
      obtain ⟨u_156, eu_156⟩ : ∃ z, z = upU u_133 21 (x * 6 + 1) := ⟨_, rfl⟩
      obtain ⟨C_157, eC_157⟩ : ∃ z, z = up2 C_134 21 (x * 6 + 1) (eO 0 [.int 0, .null, .int 0]) := ⟨_, rfl⟩
      obtain ⟨ma_158, ema_158⟩ : ∃ z, z = up2 ma_135 21 (x * 6 + 1) q_155 := ⟨_, rfl⟩
      have hM : mW D A u_156 C_157 ma_158 H := by rw [eu_156, eC_157, ema_158]; exact hM
      have hu_159 : u_156 15 x := by rw [eu_156]; exact upU_o hu_142
      have hC_160 : C_157 15 x = eO 12 [.int a1, .ref q_1, .ref q_14, .ref q_31, .ref q_52] := by rw [eC_157, up2_n _ _ (fun z => by omega)]; exact hC_143
      have ha_161 : ma_158 15 x = ma 15 x := by rw [ema_158, up2_n _ _ (fun z => by omega)]; exact ha_144
      have hu_162 : u_156 16 x := by rw [eu_156]; exact upU_o hu_145
      have hC_163 : C_157 16 x = eI (ty 0) 6 (fun _ => 0) := by rw [eC_157, up2_n _ _ (fun z => by omega)]; exact hC_146
      have ha_164 : ma_158 16 x = q_1 := by rw [ema_158, up2_n _ _ (fun z => by omega)]; exact ha_147
      have hu_165 : u_156 17 x := by rw [eu_156]; exact upU_o hu_148
      have hC_166 : C_157 17 x = eI (ty 0) 6 (fun _ => 0) := by rw [eC_157, up2_n _ _ (fun z => by omega)]; exact hC_149
      have ha_167 : ma_158 17 x = q_14 := by rw [ema_158, up2_n _ _ (fun z => by omega)]; exact ha_150
      have hu_168 : u_156 18 x := by rw [eu_156]; exact upU_o hu_151
      have hC_169 : C_157 18 x = eI (ty 1) 6 (fun _ => 0) := by rw [eC_157, up2_n _ _ (fun z => by omega)]; exact hC_152
      have ha_170 : ma_158 18 x = q_31 := by rw [ema_158, up2_n _ _ (fun z => by omega)]; exact ha_153
      have hu_171 : u_156 21 (x * 6 + 1) := by rw [eu_156]; exact upU_s
      have hC_172 : C_157 21 (x * 6 + 1) = eO 0 [.int 0, .null, .int 0] := by rw [eC_157]; exact up2_s _ _ _ _
      have ha_173 : ma_158 21 (x * 6 + 1) = q_155 := by rw [ema_158]; exact up2_s _ _ _ _
      refine lv_dup hx hb dX11_init_59 rfl ?_
      have h_175 := c_lst l D ty A u_156 C_157 ma_158 t0 mi 21 (x * 6 + 1) hu_171 hC_172
      rw [ha_173] at h_175
      refine va_callv (va_runI (As := []) (rest := [.ref q_155, .ref q_52]) ⟨hx, hb, hml, hown, hts⟩ (h_175) (cwI 0 hts gX11_init_Jx4a65c_init_da8c8 rfl rfl rfl (hts (.initialized RJx4a65c) (by decide +kernel)) (hts (.methodLink RX11 24 yJx4a65c_init_da8c8) (by decide +kernel)) (hts (.instanceMethod yJx4a65c_init_da8c8) (by decide +kernel)) rfl (by decide +kernel) ⟨Nat.le_of_ble_eq_true rfl, Nat.le_of_ble_eq_true rfl⟩) ⟨zBl mI_blind, fun U h1 h2 => ⟨rfl, mI_pre hM hK hMS hS U h1 h2⟩⟩ rfl rfl hl.1 rfl (lv_room (Nat.le_of_ble_eq_true rfl)) dX11_init_60 ⟨Nat.le_of_ble_eq_true rfl, Nat.le_of_ble_eq_true rfl⟩) hS (fun _ _ h => h) (fun _ h => h) (fun Z_174 t H1 locs ht hvm hw hB9 hz1 hk1 hS => ?_)
      obtain ⟨hM, -, -⟩ := hB9
      rw [ht] at hM
      clear hk1 hz1 hvm ht
      clear t
      generalize H1 = H at hM hS ⊢
      rw [hw] at hM
      clear hw
      obtain ⟨C_176, eC_176⟩ : ∃ z, z = up2 C_157 21 (x * 6 + 1) (eO 0 [.int (nI 0), .ref t0, .int 0]) := ⟨_, rfl⟩
      have hM : mW D A u_156 C_176 ma_158 H := by rw [eC_176]; exact hM
      have hC_177 : C_176 15 x = eO 12 [.int a1, .ref q_1, .ref q_14, .ref q_31, .ref q_52] := by rw [eC_176, up2_n _ _ (fun z => by omega)]; exact hC_160
      have hC_178 : C_176 16 x = eI (ty 0) 6 (fun _ => 0) := by rw [eC_176, up2_n _ _ (fun z => by omega)]; exact hC_163
      have hC_179 : C_176 17 x = eI (ty 0) 6 (fun _ => 0) := by rw [eC_176, up2_n _ _ (fun z => by omega)]; exact hC_166
      have hC_180 : C_176 18 x = eI (ty 1) 6 (fun _ => 0) := by rw [eC_176, up2_n _ _ (fun z => by omega)]; exact hC_169
      have hC_181 : C_176 21 (x * 6 + 1) = eO 0 [.int (nI 0), .ref t0, .int 0] := by rw [eC_176]; exact up2_s _ _ _ _
      have hX_182 : ∀ k9 x9, u k9 x9 → u_156 k9 x9 := fun k9 x9 h9 => by rw [eu_156]; exact upU_o (hX_136 k9 x9 h9)
      have hX_183 : ∀ k9 x9, ¬ ((x9 = x ∧ 15 ≤ k9 ∧ k9 ≤ 20) ∨ (k9 = 21 ∧ x9 / 6 = x)) → C_176 k9 x9 = C k9 x9 := fun k9 x9 h9 => by rw [eC_176, up2_n _ _ (fun z => by omega), eC_157, up2_n _ _ (fun z => by omega)]; exact hX_137 k9 x9 h9
      have hX_184 : ∀ k9 x9, ¬ ((x9 = x ∧ 16 ≤ k9 ∧ k9 ≤ 20) ∨ (k9 = 21 ∧ x9 / 6 = x)) → ma_158 k9 x9 = ma k9 x9 := fun k9 x9 h9 => by rw [ema_158, up2_n _ _ (fun z => by omega)]; exact hX_138 k9 x9 h9
      have hL_185 : isL ty t0 u_156 C_176 ma_158 19 x 1 (fun f => ma_158 21 (x * 6 + f)) := hL_139.ext (fun q => ⟨by rw [eu_156]; exact upU_o (q), by rw [eC_176, up2_n _ _ (fun z => by omega), eC_157, up2_n _ _ (fun z => by omega)]⟩) (fun q => ⟨by rw [eu_156]; exact upU_o (q), by rw [eC_176, up2_n _ _ (fun z => by omega), eC_157, up2_n _ _ (fun z => by omega)], by rw [ema_158, up2_n _ _ (fun z => by omega)]⟩) (fun j hj => by show ma_158 21 (x * 6 + j) = _; rw [ema_158, up2_n _ _ (fun z => by omega)])
      have hI_186 : ∀ j, j < 1 → u_156 21 (x * 6 + j) ∧ C_176 21 (x * 6 + j) = eO 0 [.int (nI 0), .ref t0, .int 0] := fun j hj => ⟨by rw [eu_156]; exact upU_o ((hI_140 j hj).1), by rw [eC_176, up2_n _ _ (fun z => by omega), eC_157, up2_n _ _ (fun z => by omega)]; exact (hI_140 j hj).2⟩
      have ha_187 : ma_158 19 x = q_52 := by rw [ema_158, up2_n _ _ (fun z => by omega)]; exact ha_141
      obtain ⟨huz_188, hnz_188, mz_188, bz_188, hCz_188⟩ := isL.hd hL_185
      have h_189 := c_add l D ty A u_156 C_176 ma_158 t0 mi 19 x 1 (fun f => ma_158 21 (x * 6 + f)) hL_185 21 (x * 6 + 1) 0 _ _ hu_171 hC_181 rfl (by decide +kernel) (by omega) (by omega) (fun j hj => ⟨21, x * 6 + j, 0, _, _, by omega, (hI_186 j hj).1, rfl, (hI_186 j hj).2, rfl, by decide +kernel⟩) (by omega)
      rw [ha_187, ha_173] at h_189
      refine va_calli (va_runV (As := [.ref q_155]) (rest := []) ⟨hx, hb, hml, hown, hts⟩ (h_189) (cwV 1 hts gX11_init_Jx4a65c_add_9ea2d rfl rfl rfl (by decide +kernel) ⟨Nat.le_of_ble_eq_true rfl, Nat.le_of_ble_eq_true rfl⟩) ⟨zBl mI_blind, (va_recv hK (hM.Pa huz_188 ha_187 hCz_188) (ci := 0) (q0 := 0) rfl rfl), fun U h1 h2 => ⟨rfl, mI_pre hM hK hMS hS U h1 h2⟩⟩ rfl rfl hl.1 rfl (lv_room (Nat.le_of_ble_eq_true rfl)) dX11_init_63 ⟨Nat.le_of_ble_eq_true rfl, Nat.le_of_ble_eq_true rfl⟩) hS (fun _ _ h => h) (fun _ h => h) (fun r_191 S_190 t H1 locs ht hvm hw hB9 hz1 hk1 hS => ?_)
      obtain ⟨hr_191, hchg, hL9⟩ := hw
      subst hr_191
      obtain ⟨hM, -, -⟩ := hB9
      rw [ht] at hM
      clear hk1 hz1 hvm ht
      clear t
      generalize H1 = H at hM hS ⊢
      obtain ⟨u_192, C_193, ma_194⟩ := S_190
      have hM : mW D A u_192 C_193 ma_194 H := hM
      have hchg1 : ∀ k9 x9, u_156 k9 x9 → u_192 k9 x9 := hchg.1
      have hchg2 : ∀ k9 x9, ¬ (k9 = 19 ∧ x9 = x) → ¬ (k9 = 20 ∧ x9 = x) → C_193 k9 x9 = C_176 k9 x9 := hchg.2.1
      have hchg3 : ∀ k9 x9, ¬ (k9 = 20 ∧ x9 = x) → ma_194 k9 x9 = ma_158 k9 x9 := hchg.2.2
      have hX_195 : ∀ k9 x9, u k9 x9 → u_192 k9 x9 := fun k9 x9 h9 => hchg1 _ _ (hX_182 k9 x9 h9)
      have hX_196 : ∀ k9 x9, ¬ ((x9 = x ∧ 15 ≤ k9 ∧ k9 ≤ 20) ∨ (k9 = 21 ∧ x9 / 6 = x)) → C_193 k9 x9 = C k9 x9 := fun k9 x9 h9 => (hchg2 _ _ (by omega) (by omega)).trans (hX_183 k9 x9 h9)
      have hX_197 : ∀ k9 x9, ¬ ((x9 = x ∧ 16 ≤ k9 ∧ k9 ≤ 20) ∨ (k9 = 21 ∧ x9 / 6 = x)) → ma_194 k9 x9 = ma k9 x9 := fun k9 x9 h9 => (hchg3 _ _ (by omega)).trans (hX_184 k9 x9 h9)
      have hL_198 : isL ty t0 u_192 C_193 ma_194 19 x 2 (fun f => ma_194 21 (x * 6 + f)) := hL9.ext (fun q => ⟨q, rfl⟩) (fun q => ⟨q, rfl, rfl⟩) (fun j hj => by show ma_194 21 (x * 6 + j) = if j = 1 then q_155 else ma_158 21 (x * 6 + j); rw [hchg3 _ _ (by omega)]; by_cases ej : j = 1; (rw [if_pos ej, ej]; exact ha_173); (rw [if_neg ej]))
      have hI_199 : ∀ j, j < 2 → u_192 21 (x * 6 + j) ∧ C_193 21 (x * 6 + j) = eO 0 [.int (nI 0), .ref t0, .int 0] := fun j hj => by
        rw [hchg2 _ _ (by omega) (by omega)]
        by_cases ej : j = 1
        · rw [ej]; exact ⟨hchg1 _ _ hu_171, hC_181⟩
        · exact ⟨hchg1 _ _ (hI_186 j (by omega)).1, (hI_186 j (by omega)).2⟩
      have ha_200 : ma_194 19 x = q_52 := (hchg3 _ _ (by omega)).trans ha_187
      have hu_201 : u_192 15 x := hchg1 _ _ hu_159
      have hC_202 : C_193 15 x = eO 12 [.int a1, .ref q_1, .ref q_14, .ref q_31, .ref q_52] := (hchg2 _ _ (by omega) (by omega)).trans hC_177
      have ha_203 : ma_194 15 x = ma 15 x := (hchg3 _ _ (by omega)).trans ha_161
      have hu_204 : u_192 16 x := hchg1 _ _ hu_162
      have hC_205 : C_193 16 x = eI (ty 0) 6 (fun _ => 0) := (hchg2 _ _ (by omega) (by omega)).trans hC_178
      have ha_206 : ma_194 16 x = q_1 := (hchg3 _ _ (by omega)).trans ha_164
      have hu_207 : u_192 17 x := hchg1 _ _ hu_165
      have hC_208 : C_193 17 x = eI (ty 0) 6 (fun _ => 0) := (hchg2 _ _ (by omega) (by omega)).trans hC_179
      have ha_209 : ma_194 17 x = q_14 := (hchg3 _ _ (by omega)).trans ha_167
      have hu_210 : u_192 18 x := hchg1 _ _ hu_168
      have hC_211 : C_193 18 x = eI (ty 1) 6 (fun _ => 0) := (hchg2 _ _ (by omega) (by omega)).trans hC_180
      have ha_212 : ma_194 18 x = q_31 := (hchg3 _ _ (by omega)).trans ha_170
      clear hchg hL9 hchg1 hchg2 hchg3
      refine lv_pop hx hb dX11_init_66 rfl ?_
      refine lv_iinc (v := nI 2) (lv' := [(2, .int (nI 2)), (0, .ref (ma 15 x)), (1, .int a1)]) hx hb dX11_init_67 hl (k := 0) rfl (nI_add 1 1) (by decide) rfl (fun ls hl => ?_)
      refine lv_goto (tgt := 46) hx hb dX11_init_70 (by decide) ?_
      refine lv_iload_n hx hb dX11_init_46 rfl (lv_at hl 0 rfl) ?_
      refine lv_bipush (v := nI 6) hx hb dX11_init_47 (by decide) ?_
      refine lv_icmp_ge (tgt := 73) hx hb dX11_init_49 (by decide) (fun c_213 => ?_) (fun c_213 => ?_)
      · have c_213 := zn_geT (a := 2) (b := 6) (by omega) (by omega) c_213
        omega
      · have c_213 := zn_geF (a := 2) (b := 6) (by omega) (by omega) c_213
        refine lv_aload_n hx hb dX11_init_52 rfl (lv_at hl 1 rfl) ?_
        refine va_get hx hb hts hinX11 hown hK (hM.Pa hu_201 ha_203 hC_202) 0 rfl rfl 4 (by decide) (hk5) (fun _ h9 => h9) rfl dX11_init_53 ?_
        refine mnew (Cn := RJx4a65c) (T := TJx4a65c) (N := 3) (ci := 0) (fs := [.int 0, .null, .int 0]) hx hb hts hinJx4a65c tyJx4a65c tyJx4a65c_ok hown (hts (.classLink RX11 22 RJx4a65c) (by decide +kernel)) (hts (.instantiable RJx4a65c 3) (by decide +kernel)) (hts (.initialized RJx4a65c) (by decide +kernel)) hK hM hS 21 (x * 6 + 2) rfl (fun j hj => by rcases (show j = 0 ∨ j = 1 ∨ j = 2 by omega) with rfl | rfl | rfl <;> rfl) (Nat.le_of_ble_eq_true rfl) (Nat.le_of_ble_eq_true rfl) dX11_init_56 (fun H1 hM hS _ _ => ?_)
        generalize hq9 : Array.size H = q_214 at hM ⊢
        clear hq9
        generalize H1 = H at hM hS ⊢
        obtain ⟨u_215, eu_215⟩ : ∃ z, z = upU u_192 21 (x * 6 + 2) := ⟨_, rfl⟩
        obtain ⟨C_216, eC_216⟩ : ∃ z, z = up2 C_193 21 (x * 6 + 2) (eO 0 [.int 0, .null, .int 0]) := ⟨_, rfl⟩
        obtain ⟨ma_217, ema_217⟩ : ∃ z, z = up2 ma_194 21 (x * 6 + 2) q_214 := ⟨_, rfl⟩
        have hM : mW D A u_215 C_216 ma_217 H := by rw [eu_215, eC_216, ema_217]; exact hM
        have hu_218 : u_215 15 x := by rw [eu_215]; exact upU_o hu_201
        have hC_219 : C_216 15 x = eO 12 [.int a1, .ref q_1, .ref q_14, .ref q_31, .ref q_52] := by rw [eC_216, up2_n _ _ (fun z => by omega)]; exact hC_202
        have ha_220 : ma_217 15 x = ma 15 x := by rw [ema_217, up2_n _ _ (fun z => by omega)]; exact ha_203
        have hu_221 : u_215 16 x := by rw [eu_215]; exact upU_o hu_204
        have hC_222 : C_216 16 x = eI (ty 0) 6 (fun _ => 0) := by rw [eC_216, up2_n _ _ (fun z => by omega)]; exact hC_205
        have ha_223 : ma_217 16 x = q_1 := by rw [ema_217, up2_n _ _ (fun z => by omega)]; exact ha_206
        have hu_224 : u_215 17 x := by rw [eu_215]; exact upU_o hu_207
        have hC_225 : C_216 17 x = eI (ty 0) 6 (fun _ => 0) := by rw [eC_216, up2_n _ _ (fun z => by omega)]; exact hC_208
        have ha_226 : ma_217 17 x = q_14 := by rw [ema_217, up2_n _ _ (fun z => by omega)]; exact ha_209
        have hu_227 : u_215 18 x := by rw [eu_215]; exact upU_o hu_210
        have hC_228 : C_216 18 x = eI (ty 1) 6 (fun _ => 0) := by rw [eC_216, up2_n _ _ (fun z => by omega)]; exact hC_211
        have ha_229 : ma_217 18 x = q_31 := by rw [ema_217, up2_n _ _ (fun z => by omega)]; exact ha_212
        have hu_230 : u_215 21 (x * 6 + 2) := by rw [eu_215]; exact upU_s
        have hC_231 : C_216 21 (x * 6 + 2) = eO 0 [.int 0, .null, .int 0] := by rw [eC_216]; exact up2_s _ _ _ _
        have ha_232 : ma_217 21 (x * 6 + 2) = q_214 := by rw [ema_217]; exact up2_s _ _ _ _
        refine lv_dup hx hb dX11_init_59 rfl ?_
        have h_234 := c_lst l D ty A u_215 C_216 ma_217 t0 mi 21 (x * 6 + 2) hu_230 hC_231
        rw [ha_232] at h_234
        refine va_callv (va_runI (As := []) (rest := [.ref q_214, .ref q_52]) ⟨hx, hb, hml, hown, hts⟩ (h_234) (cwI 0 hts gX11_init_Jx4a65c_init_da8c8 rfl rfl rfl (hts (.initialized RJx4a65c) (by decide +kernel)) (hts (.methodLink RX11 24 yJx4a65c_init_da8c8) (by decide +kernel)) (hts (.instanceMethod yJx4a65c_init_da8c8) (by decide +kernel)) rfl (by decide +kernel) ⟨Nat.le_of_ble_eq_true rfl, Nat.le_of_ble_eq_true rfl⟩) ⟨zBl mI_blind, fun U h1 h2 => ⟨rfl, mI_pre hM hK hMS hS U h1 h2⟩⟩ rfl rfl hl.1 rfl (lv_room (Nat.le_of_ble_eq_true rfl)) dX11_init_60 ⟨Nat.le_of_ble_eq_true rfl, Nat.le_of_ble_eq_true rfl⟩) hS (fun _ _ h => h) (fun _ h => h) (fun Z_233 t H1 locs ht hvm hw hB9 hz1 hk1 hS => ?_)
        obtain ⟨hM, -, -⟩ := hB9
        rw [ht] at hM
        clear hk1 hz1 hvm ht
        clear t
        generalize H1 = H at hM hS ⊢
        rw [hw] at hM
        clear hw
        obtain ⟨C_235, eC_235⟩ : ∃ z, z = up2 C_216 21 (x * 6 + 2) (eO 0 [.int (nI 0), .ref t0, .int 0]) := ⟨_, rfl⟩
        have hM : mW D A u_215 C_235 ma_217 H := by rw [eC_235]; exact hM
        have hC_236 : C_235 15 x = eO 12 [.int a1, .ref q_1, .ref q_14, .ref q_31, .ref q_52] := by rw [eC_235, up2_n _ _ (fun z => by omega)]; exact hC_219
        have hC_237 : C_235 16 x = eI (ty 0) 6 (fun _ => 0) := by rw [eC_235, up2_n _ _ (fun z => by omega)]; exact hC_222
        have hC_238 : C_235 17 x = eI (ty 0) 6 (fun _ => 0) := by rw [eC_235, up2_n _ _ (fun z => by omega)]; exact hC_225
        have hC_239 : C_235 18 x = eI (ty 1) 6 (fun _ => 0) := by rw [eC_235, up2_n _ _ (fun z => by omega)]; exact hC_228
        have hC_240 : C_235 21 (x * 6 + 2) = eO 0 [.int (nI 0), .ref t0, .int 0] := by rw [eC_235]; exact up2_s _ _ _ _
        have hX_241 : ∀ k9 x9, u k9 x9 → u_215 k9 x9 := fun k9 x9 h9 => by rw [eu_215]; exact upU_o (hX_195 k9 x9 h9)
        have hX_242 : ∀ k9 x9, ¬ ((x9 = x ∧ 15 ≤ k9 ∧ k9 ≤ 20) ∨ (k9 = 21 ∧ x9 / 6 = x)) → C_235 k9 x9 = C k9 x9 := fun k9 x9 h9 => by rw [eC_235, up2_n _ _ (fun z => by omega), eC_216, up2_n _ _ (fun z => by omega)]; exact hX_196 k9 x9 h9
        have hX_243 : ∀ k9 x9, ¬ ((x9 = x ∧ 16 ≤ k9 ∧ k9 ≤ 20) ∨ (k9 = 21 ∧ x9 / 6 = x)) → ma_217 k9 x9 = ma k9 x9 := fun k9 x9 h9 => by rw [ema_217, up2_n _ _ (fun z => by omega)]; exact hX_197 k9 x9 h9
        have hL_244 : isL ty t0 u_215 C_235 ma_217 19 x 2 (fun f => ma_217 21 (x * 6 + f)) := hL_198.ext (fun q => ⟨by rw [eu_215]; exact upU_o (q), by rw [eC_235, up2_n _ _ (fun z => by omega), eC_216, up2_n _ _ (fun z => by omega)]⟩) (fun q => ⟨by rw [eu_215]; exact upU_o (q), by rw [eC_235, up2_n _ _ (fun z => by omega), eC_216, up2_n _ _ (fun z => by omega)], by rw [ema_217, up2_n _ _ (fun z => by omega)]⟩) (fun j hj => by show ma_217 21 (x * 6 + j) = _; rw [ema_217, up2_n _ _ (fun z => by omega)])
        have hI_245 : ∀ j, j < 2 → u_215 21 (x * 6 + j) ∧ C_235 21 (x * 6 + j) = eO 0 [.int (nI 0), .ref t0, .int 0] := fun j hj => ⟨by rw [eu_215]; exact upU_o ((hI_199 j hj).1), by rw [eC_235, up2_n _ _ (fun z => by omega), eC_216, up2_n _ _ (fun z => by omega)]; exact (hI_199 j hj).2⟩
        have ha_246 : ma_217 19 x = q_52 := by rw [ema_217, up2_n _ _ (fun z => by omega)]; exact ha_200
        obtain ⟨huz_247, hnz_247, mz_247, bz_247, hCz_247⟩ := isL.hd hL_244
        have h_248 := c_add l D ty A u_215 C_235 ma_217 t0 mi 19 x 2 (fun f => ma_217 21 (x * 6 + f)) hL_244 21 (x * 6 + 2) 0 _ _ hu_230 hC_240 rfl (by decide +kernel) (by omega) (by omega) (fun j hj => ⟨21, x * 6 + j, 0, _, _, by omega, (hI_245 j hj).1, rfl, (hI_245 j hj).2, rfl, by decide +kernel⟩) (by omega)
        rw [ha_246, ha_232] at h_248
        refine va_calli (va_runV (As := [.ref q_214]) (rest := []) ⟨hx, hb, hml, hown, hts⟩ (h_248) (cwV 1 hts gX11_init_Jx4a65c_add_9ea2d rfl rfl rfl (by decide +kernel) ⟨Nat.le_of_ble_eq_true rfl, Nat.le_of_ble_eq_true rfl⟩) ⟨zBl mI_blind, (va_recv hK (hM.Pa huz_247 ha_246 hCz_247) (ci := 0) (q0 := 0) rfl rfl), fun U h1 h2 => ⟨rfl, mI_pre hM hK hMS hS U h1 h2⟩⟩ rfl rfl hl.1 rfl (lv_room (Nat.le_of_ble_eq_true rfl)) dX11_init_63 ⟨Nat.le_of_ble_eq_true rfl, Nat.le_of_ble_eq_true rfl⟩) hS (fun _ _ h => h) (fun _ h => h) (fun r_250 S_249 t H1 locs ht hvm hw hB9 hz1 hk1 hS => ?_)
        obtain ⟨hr_250, hchg, hL9⟩ := hw
        subst hr_250
        obtain ⟨hM, -, -⟩ := hB9
        rw [ht] at hM
        clear hk1 hz1 hvm ht
        clear t
        generalize H1 = H at hM hS ⊢
        obtain ⟨u_251, C_252, ma_253⟩ := S_249
        have hM : mW D A u_251 C_252 ma_253 H := hM
        have hchg1 : ∀ k9 x9, u_215 k9 x9 → u_251 k9 x9 := hchg.1
        have hchg2 : ∀ k9 x9, ¬ (k9 = 19 ∧ x9 = x) → ¬ (k9 = 20 ∧ x9 = x) → C_252 k9 x9 = C_235 k9 x9 := hchg.2.1
        have hchg3 : ∀ k9 x9, ¬ (k9 = 20 ∧ x9 = x) → ma_253 k9 x9 = ma_217 k9 x9 := hchg.2.2
        have hX_254 : ∀ k9 x9, u k9 x9 → u_251 k9 x9 := fun k9 x9 h9 => hchg1 _ _ (hX_241 k9 x9 h9)
        have hX_255 : ∀ k9 x9, ¬ ((x9 = x ∧ 15 ≤ k9 ∧ k9 ≤ 20) ∨ (k9 = 21 ∧ x9 / 6 = x)) → C_252 k9 x9 = C k9 x9 := fun k9 x9 h9 => (hchg2 _ _ (by omega) (by omega)).trans (hX_242 k9 x9 h9)
        have hX_256 : ∀ k9 x9, ¬ ((x9 = x ∧ 16 ≤ k9 ∧ k9 ≤ 20) ∨ (k9 = 21 ∧ x9 / 6 = x)) → ma_253 k9 x9 = ma k9 x9 := fun k9 x9 h9 => (hchg3 _ _ (by omega)).trans (hX_243 k9 x9 h9)
        have hL_257 : isL ty t0 u_251 C_252 ma_253 19 x 3 (fun f => ma_253 21 (x * 6 + f)) := hL9.ext (fun q => ⟨q, rfl⟩) (fun q => ⟨q, rfl, rfl⟩) (fun j hj => by show ma_253 21 (x * 6 + j) = if j = 2 then q_214 else ma_217 21 (x * 6 + j); rw [hchg3 _ _ (by omega)]; by_cases ej : j = 2; (rw [if_pos ej, ej]; exact ha_232); (rw [if_neg ej]))
        have hI_258 : ∀ j, j < 3 → u_251 21 (x * 6 + j) ∧ C_252 21 (x * 6 + j) = eO 0 [.int (nI 0), .ref t0, .int 0] := fun j hj => by
          rw [hchg2 _ _ (by omega) (by omega)]
          by_cases ej : j = 2
          · rw [ej]; exact ⟨hchg1 _ _ hu_230, hC_240⟩
          · exact ⟨hchg1 _ _ (hI_245 j (by omega)).1, (hI_245 j (by omega)).2⟩
        have ha_259 : ma_253 19 x = q_52 := (hchg3 _ _ (by omega)).trans ha_246
        have hu_260 : u_251 15 x := hchg1 _ _ hu_218
        have hC_261 : C_252 15 x = eO 12 [.int a1, .ref q_1, .ref q_14, .ref q_31, .ref q_52] := (hchg2 _ _ (by omega) (by omega)).trans hC_236
        have ha_262 : ma_253 15 x = ma 15 x := (hchg3 _ _ (by omega)).trans ha_220
        have hu_263 : u_251 16 x := hchg1 _ _ hu_221
        have hC_264 : C_252 16 x = eI (ty 0) 6 (fun _ => 0) := (hchg2 _ _ (by omega) (by omega)).trans hC_237
        have ha_265 : ma_253 16 x = q_1 := (hchg3 _ _ (by omega)).trans ha_223
        have hu_266 : u_251 17 x := hchg1 _ _ hu_224
        have hC_267 : C_252 17 x = eI (ty 0) 6 (fun _ => 0) := (hchg2 _ _ (by omega) (by omega)).trans hC_238
        have ha_268 : ma_253 17 x = q_14 := (hchg3 _ _ (by omega)).trans ha_226
        have hu_269 : u_251 18 x := hchg1 _ _ hu_227
        have hC_270 : C_252 18 x = eI (ty 1) 6 (fun _ => 0) := (hchg2 _ _ (by omega) (by omega)).trans hC_239
        have ha_271 : ma_253 18 x = q_31 := (hchg3 _ _ (by omega)).trans ha_229
        clear hchg hL9 hchg1 hchg2 hchg3
        refine lv_pop hx hb dX11_init_66 rfl ?_
        refine lv_iinc (v := nI 3) (lv' := [(2, .int (nI 3)), (0, .ref (ma 15 x)), (1, .int a1)]) hx hb dX11_init_67 hl (k := 0) rfl (nI_add 2 1) (by decide) rfl (fun ls hl => ?_)
        refine lv_goto (tgt := 46) hx hb dX11_init_70 (by decide) ?_
        refine lv_iload_n hx hb dX11_init_46 rfl (lv_at hl 0 rfl) ?_
        refine lv_bipush (v := nI 6) hx hb dX11_init_47 (by decide) ?_
        refine lv_icmp_ge (tgt := 73) hx hb dX11_init_49 (by decide) (fun c_272 => ?_) (fun c_272 => ?_)
        · have c_272 := zn_geT (a := 3) (b := 6) (by omega) (by omega) c_272
          omega
        · have c_272 := zn_geF (a := 3) (b := 6) (by omega) (by omega) c_272
          refine lv_aload_n hx hb dX11_init_52 rfl (lv_at hl 1 rfl) ?_
          refine va_get hx hb hts hinX11 hown hK (hM.Pa hu_260 ha_262 hC_261) 0 rfl rfl 4 (by decide) (hk5) (fun _ h9 => h9) rfl dX11_init_53 ?_
          refine mnew (Cn := RJx4a65c) (T := TJx4a65c) (N := 3) (ci := 0) (fs := [.int 0, .null, .int 0]) hx hb hts hinJx4a65c tyJx4a65c tyJx4a65c_ok hown (hts (.classLink RX11 22 RJx4a65c) (by decide +kernel)) (hts (.instantiable RJx4a65c 3) (by decide +kernel)) (hts (.initialized RJx4a65c) (by decide +kernel)) hK hM hS 21 (x * 6 + 3) rfl (fun j hj => by rcases (show j = 0 ∨ j = 1 ∨ j = 2 by omega) with rfl | rfl | rfl <;> rfl) (Nat.le_of_ble_eq_true rfl) (Nat.le_of_ble_eq_true rfl) dX11_init_56 (fun H1 hM hS _ _ => ?_)
          generalize hq9 : Array.size H = q_273 at hM ⊢
          clear hq9
          generalize H1 = H at hM hS ⊢
          obtain ⟨u_274, eu_274⟩ : ∃ z, z = upU u_251 21 (x * 6 + 3) := ⟨_, rfl⟩
          obtain ⟨C_275, eC_275⟩ : ∃ z, z = up2 C_252 21 (x * 6 + 3) (eO 0 [.int 0, .null, .int 0]) := ⟨_, rfl⟩
          obtain ⟨ma_276, ema_276⟩ : ∃ z, z = up2 ma_253 21 (x * 6 + 3) q_273 := ⟨_, rfl⟩
          have hM : mW D A u_274 C_275 ma_276 H := by rw [eu_274, eC_275, ema_276]; exact hM
          have hu_277 : u_274 15 x := by rw [eu_274]; exact upU_o hu_260
          have hC_278 : C_275 15 x = eO 12 [.int a1, .ref q_1, .ref q_14, .ref q_31, .ref q_52] := by rw [eC_275, up2_n _ _ (fun z => by omega)]; exact hC_261
          have ha_279 : ma_276 15 x = ma 15 x := by rw [ema_276, up2_n _ _ (fun z => by omega)]; exact ha_262
          have hu_280 : u_274 16 x := by rw [eu_274]; exact upU_o hu_263
          have hC_281 : C_275 16 x = eI (ty 0) 6 (fun _ => 0) := by rw [eC_275, up2_n _ _ (fun z => by omega)]; exact hC_264
          have ha_282 : ma_276 16 x = q_1 := by rw [ema_276, up2_n _ _ (fun z => by omega)]; exact ha_265
          have hu_283 : u_274 17 x := by rw [eu_274]; exact upU_o hu_266
          have hC_284 : C_275 17 x = eI (ty 0) 6 (fun _ => 0) := by rw [eC_275, up2_n _ _ (fun z => by omega)]; exact hC_267
          have ha_285 : ma_276 17 x = q_14 := by rw [ema_276, up2_n _ _ (fun z => by omega)]; exact ha_268
          have hu_286 : u_274 18 x := by rw [eu_274]; exact upU_o hu_269
          have hC_287 : C_275 18 x = eI (ty 1) 6 (fun _ => 0) := by rw [eC_275, up2_n _ _ (fun z => by omega)]; exact hC_270
          have ha_288 : ma_276 18 x = q_31 := by rw [ema_276, up2_n _ _ (fun z => by omega)]; exact ha_271
          have hu_289 : u_274 21 (x * 6 + 3) := by rw [eu_274]; exact upU_s
          have hC_290 : C_275 21 (x * 6 + 3) = eO 0 [.int 0, .null, .int 0] := by rw [eC_275]; exact up2_s _ _ _ _
          have ha_291 : ma_276 21 (x * 6 + 3) = q_273 := by rw [ema_276]; exact up2_s _ _ _ _
          refine lv_dup hx hb dX11_init_59 rfl ?_
          have h_293 := c_lst l D ty A u_274 C_275 ma_276 t0 mi 21 (x * 6 + 3) hu_289 hC_290
          rw [ha_291] at h_293
          refine va_callv (va_runI (As := []) (rest := [.ref q_273, .ref q_52]) ⟨hx, hb, hml, hown, hts⟩ (h_293) (cwI 0 hts gX11_init_Jx4a65c_init_da8c8 rfl rfl rfl (hts (.initialized RJx4a65c) (by decide +kernel)) (hts (.methodLink RX11 24 yJx4a65c_init_da8c8) (by decide +kernel)) (hts (.instanceMethod yJx4a65c_init_da8c8) (by decide +kernel)) rfl (by decide +kernel) ⟨Nat.le_of_ble_eq_true rfl, Nat.le_of_ble_eq_true rfl⟩) ⟨zBl mI_blind, fun U h1 h2 => ⟨rfl, mI_pre hM hK hMS hS U h1 h2⟩⟩ rfl rfl hl.1 rfl (lv_room (Nat.le_of_ble_eq_true rfl)) dX11_init_60 ⟨Nat.le_of_ble_eq_true rfl, Nat.le_of_ble_eq_true rfl⟩) hS (fun _ _ h => h) (fun _ h => h) (fun Z_292 t H1 locs ht hvm hw hB9 hz1 hk1 hS => ?_)
          obtain ⟨hM, -, -⟩ := hB9
          rw [ht] at hM
          clear hk1 hz1 hvm ht
          clear t
          generalize H1 = H at hM hS ⊢
          rw [hw] at hM
          clear hw
          obtain ⟨C_294, eC_294⟩ : ∃ z, z = up2 C_275 21 (x * 6 + 3) (eO 0 [.int (nI 0), .ref t0, .int 0]) := ⟨_, rfl⟩
          have hM : mW D A u_274 C_294 ma_276 H := by rw [eC_294]; exact hM
          have hC_295 : C_294 15 x = eO 12 [.int a1, .ref q_1, .ref q_14, .ref q_31, .ref q_52] := by rw [eC_294, up2_n _ _ (fun z => by omega)]; exact hC_278
          have hC_296 : C_294 16 x = eI (ty 0) 6 (fun _ => 0) := by rw [eC_294, up2_n _ _ (fun z => by omega)]; exact hC_281
          have hC_297 : C_294 17 x = eI (ty 0) 6 (fun _ => 0) := by rw [eC_294, up2_n _ _ (fun z => by omega)]; exact hC_284
          have hC_298 : C_294 18 x = eI (ty 1) 6 (fun _ => 0) := by rw [eC_294, up2_n _ _ (fun z => by omega)]; exact hC_287
          have hC_299 : C_294 21 (x * 6 + 3) = eO 0 [.int (nI 0), .ref t0, .int 0] := by rw [eC_294]; exact up2_s _ _ _ _
          have hX_300 : ∀ k9 x9, u k9 x9 → u_274 k9 x9 := fun k9 x9 h9 => by rw [eu_274]; exact upU_o (hX_254 k9 x9 h9)
          have hX_301 : ∀ k9 x9, ¬ ((x9 = x ∧ 15 ≤ k9 ∧ k9 ≤ 20) ∨ (k9 = 21 ∧ x9 / 6 = x)) → C_294 k9 x9 = C k9 x9 := fun k9 x9 h9 => by rw [eC_294, up2_n _ _ (fun z => by omega), eC_275, up2_n _ _ (fun z => by omega)]; exact hX_255 k9 x9 h9
          have hX_302 : ∀ k9 x9, ¬ ((x9 = x ∧ 16 ≤ k9 ∧ k9 ≤ 20) ∨ (k9 = 21 ∧ x9 / 6 = x)) → ma_276 k9 x9 = ma k9 x9 := fun k9 x9 h9 => by rw [ema_276, up2_n _ _ (fun z => by omega)]; exact hX_256 k9 x9 h9
          have hL_303 : isL ty t0 u_274 C_294 ma_276 19 x 3 (fun f => ma_276 21 (x * 6 + f)) := hL_257.ext (fun q => ⟨by rw [eu_274]; exact upU_o (q), by rw [eC_294, up2_n _ _ (fun z => by omega), eC_275, up2_n _ _ (fun z => by omega)]⟩) (fun q => ⟨by rw [eu_274]; exact upU_o (q), by rw [eC_294, up2_n _ _ (fun z => by omega), eC_275, up2_n _ _ (fun z => by omega)], by rw [ema_276, up2_n _ _ (fun z => by omega)]⟩) (fun j hj => by show ma_276 21 (x * 6 + j) = _; rw [ema_276, up2_n _ _ (fun z => by omega)])
          have hI_304 : ∀ j, j < 3 → u_274 21 (x * 6 + j) ∧ C_294 21 (x * 6 + j) = eO 0 [.int (nI 0), .ref t0, .int 0] := fun j hj => ⟨by rw [eu_274]; exact upU_o ((hI_258 j hj).1), by rw [eC_294, up2_n _ _ (fun z => by omega), eC_275, up2_n _ _ (fun z => by omega)]; exact (hI_258 j hj).2⟩
          have ha_305 : ma_276 19 x = q_52 := by rw [ema_276, up2_n _ _ (fun z => by omega)]; exact ha_259
          obtain ⟨huz_306, hnz_306, mz_306, bz_306, hCz_306⟩ := isL.hd hL_303
          have h_307 := c_add l D ty A u_274 C_294 ma_276 t0 mi 19 x 3 (fun f => ma_276 21 (x * 6 + f)) hL_303 21 (x * 6 + 3) 0 _ _ hu_289 hC_299 rfl (by decide +kernel) (by omega) (by omega) (fun j hj => ⟨21, x * 6 + j, 0, _, _, by omega, (hI_304 j hj).1, rfl, (hI_304 j hj).2, rfl, by decide +kernel⟩) (by omega)
          rw [ha_305, ha_291] at h_307
          refine va_calli (va_runV (As := [.ref q_273]) (rest := []) ⟨hx, hb, hml, hown, hts⟩ (h_307) (cwV 1 hts gX11_init_Jx4a65c_add_9ea2d rfl rfl rfl (by decide +kernel) ⟨Nat.le_of_ble_eq_true rfl, Nat.le_of_ble_eq_true rfl⟩) ⟨zBl mI_blind, (va_recv hK (hM.Pa huz_306 ha_305 hCz_306) (ci := 0) (q0 := 0) rfl rfl), fun U h1 h2 => ⟨rfl, mI_pre hM hK hMS hS U h1 h2⟩⟩ rfl rfl hl.1 rfl (lv_room (Nat.le_of_ble_eq_true rfl)) dX11_init_63 ⟨Nat.le_of_ble_eq_true rfl, Nat.le_of_ble_eq_true rfl⟩) hS (fun _ _ h => h) (fun _ h => h) (fun r_309 S_308 t H1 locs ht hvm hw hB9 hz1 hk1 hS => ?_)
          obtain ⟨hr_309, hchg, hL9⟩ := hw
          subst hr_309
          obtain ⟨hM, -, -⟩ := hB9
          rw [ht] at hM
          clear hk1 hz1 hvm ht
          clear t
          generalize H1 = H at hM hS ⊢
          obtain ⟨u_310, C_311, ma_312⟩ := S_308
          have hM : mW D A u_310 C_311 ma_312 H := hM
          have hchg1 : ∀ k9 x9, u_274 k9 x9 → u_310 k9 x9 := hchg.1
          have hchg2 : ∀ k9 x9, ¬ (k9 = 19 ∧ x9 = x) → ¬ (k9 = 20 ∧ x9 = x) → C_311 k9 x9 = C_294 k9 x9 := hchg.2.1
          have hchg3 : ∀ k9 x9, ¬ (k9 = 20 ∧ x9 = x) → ma_312 k9 x9 = ma_276 k9 x9 := hchg.2.2
          have hX_313 : ∀ k9 x9, u k9 x9 → u_310 k9 x9 := fun k9 x9 h9 => hchg1 _ _ (hX_300 k9 x9 h9)
          have hX_314 : ∀ k9 x9, ¬ ((x9 = x ∧ 15 ≤ k9 ∧ k9 ≤ 20) ∨ (k9 = 21 ∧ x9 / 6 = x)) → C_311 k9 x9 = C k9 x9 := fun k9 x9 h9 => (hchg2 _ _ (by omega) (by omega)).trans (hX_301 k9 x9 h9)
          have hX_315 : ∀ k9 x9, ¬ ((x9 = x ∧ 16 ≤ k9 ∧ k9 ≤ 20) ∨ (k9 = 21 ∧ x9 / 6 = x)) → ma_312 k9 x9 = ma k9 x9 := fun k9 x9 h9 => (hchg3 _ _ (by omega)).trans (hX_302 k9 x9 h9)
          have hL_316 : isL ty t0 u_310 C_311 ma_312 19 x 4 (fun f => ma_312 21 (x * 6 + f)) := hL9.ext (fun q => ⟨q, rfl⟩) (fun q => ⟨q, rfl, rfl⟩) (fun j hj => by show ma_312 21 (x * 6 + j) = if j = 3 then q_273 else ma_276 21 (x * 6 + j); rw [hchg3 _ _ (by omega)]; by_cases ej : j = 3; (rw [if_pos ej, ej]; exact ha_291); (rw [if_neg ej]))
          have hI_317 : ∀ j, j < 4 → u_310 21 (x * 6 + j) ∧ C_311 21 (x * 6 + j) = eO 0 [.int (nI 0), .ref t0, .int 0] := fun j hj => by
            rw [hchg2 _ _ (by omega) (by omega)]
            by_cases ej : j = 3
            · rw [ej]; exact ⟨hchg1 _ _ hu_289, hC_299⟩
            · exact ⟨hchg1 _ _ (hI_304 j (by omega)).1, (hI_304 j (by omega)).2⟩
          have ha_318 : ma_312 19 x = q_52 := (hchg3 _ _ (by omega)).trans ha_305
          have hu_319 : u_310 15 x := hchg1 _ _ hu_277
          have hC_320 : C_311 15 x = eO 12 [.int a1, .ref q_1, .ref q_14, .ref q_31, .ref q_52] := (hchg2 _ _ (by omega) (by omega)).trans hC_295
          have ha_321 : ma_312 15 x = ma 15 x := (hchg3 _ _ (by omega)).trans ha_279
          have hu_322 : u_310 16 x := hchg1 _ _ hu_280
          have hC_323 : C_311 16 x = eI (ty 0) 6 (fun _ => 0) := (hchg2 _ _ (by omega) (by omega)).trans hC_296
          have ha_324 : ma_312 16 x = q_1 := (hchg3 _ _ (by omega)).trans ha_282
          have hu_325 : u_310 17 x := hchg1 _ _ hu_283
          have hC_326 : C_311 17 x = eI (ty 0) 6 (fun _ => 0) := (hchg2 _ _ (by omega) (by omega)).trans hC_297
          have ha_327 : ma_312 17 x = q_14 := (hchg3 _ _ (by omega)).trans ha_285
          have hu_328 : u_310 18 x := hchg1 _ _ hu_286
          have hC_329 : C_311 18 x = eI (ty 1) 6 (fun _ => 0) := (hchg2 _ _ (by omega) (by omega)).trans hC_298
          have ha_330 : ma_312 18 x = q_31 := (hchg3 _ _ (by omega)).trans ha_288
          clear hchg hL9 hchg1 hchg2 hchg3
          refine lv_pop hx hb dX11_init_66 rfl ?_
          refine lv_iinc (v := nI 4) (lv' := [(2, .int (nI 4)), (0, .ref (ma 15 x)), (1, .int a1)]) hx hb dX11_init_67 hl (k := 0) rfl (nI_add 3 1) (by decide) rfl (fun ls hl => ?_)
          refine lv_goto (tgt := 46) hx hb dX11_init_70 (by decide) ?_
          refine lv_iload_n hx hb dX11_init_46 rfl (lv_at hl 0 rfl) ?_
          refine lv_bipush (v := nI 6) hx hb dX11_init_47 (by decide) ?_
          refine lv_icmp_ge (tgt := 73) hx hb dX11_init_49 (by decide) (fun c_331 => ?_) (fun c_331 => ?_)
          · have c_331 := zn_geT (a := 4) (b := 6) (by omega) (by omega) c_331
            omega
          · have c_331 := zn_geF (a := 4) (b := 6) (by omega) (by omega) c_331
            refine lv_aload_n hx hb dX11_init_52 rfl (lv_at hl 1 rfl) ?_
            refine va_get hx hb hts hinX11 hown hK (hM.Pa hu_319 ha_321 hC_320) 0 rfl rfl 4 (by decide) (hk5) (fun _ h9 => h9) rfl dX11_init_53 ?_
            refine mnew (Cn := RJx4a65c) (T := TJx4a65c) (N := 3) (ci := 0) (fs := [.int 0, .null, .int 0]) hx hb hts hinJx4a65c tyJx4a65c tyJx4a65c_ok hown (hts (.classLink RX11 22 RJx4a65c) (by decide +kernel)) (hts (.instantiable RJx4a65c 3) (by decide +kernel)) (hts (.initialized RJx4a65c) (by decide +kernel)) hK hM hS 21 (x * 6 + 4) rfl (fun j hj => by rcases (show j = 0 ∨ j = 1 ∨ j = 2 by omega) with rfl | rfl | rfl <;> rfl) (Nat.le_of_ble_eq_true rfl) (Nat.le_of_ble_eq_true rfl) dX11_init_56 (fun H1 hM hS _ _ => ?_)
            generalize hq9 : Array.size H = q_332 at hM ⊢
            clear hq9
            generalize H1 = H at hM hS ⊢
            obtain ⟨u_333, eu_333⟩ : ∃ z, z = upU u_310 21 (x * 6 + 4) := ⟨_, rfl⟩
            obtain ⟨C_334, eC_334⟩ : ∃ z, z = up2 C_311 21 (x * 6 + 4) (eO 0 [.int 0, .null, .int 0]) := ⟨_, rfl⟩
            obtain ⟨ma_335, ema_335⟩ : ∃ z, z = up2 ma_312 21 (x * 6 + 4) q_332 := ⟨_, rfl⟩
            have hM : mW D A u_333 C_334 ma_335 H := by rw [eu_333, eC_334, ema_335]; exact hM
            have hu_336 : u_333 15 x := by rw [eu_333]; exact upU_o hu_319
            have hC_337 : C_334 15 x = eO 12 [.int a1, .ref q_1, .ref q_14, .ref q_31, .ref q_52] := by rw [eC_334, up2_n _ _ (fun z => by omega)]; exact hC_320
            have ha_338 : ma_335 15 x = ma 15 x := by rw [ema_335, up2_n _ _ (fun z => by omega)]; exact ha_321
            have hu_339 : u_333 16 x := by rw [eu_333]; exact upU_o hu_322
            have hC_340 : C_334 16 x = eI (ty 0) 6 (fun _ => 0) := by rw [eC_334, up2_n _ _ (fun z => by omega)]; exact hC_323
            have ha_341 : ma_335 16 x = q_1 := by rw [ema_335, up2_n _ _ (fun z => by omega)]; exact ha_324
            have hu_342 : u_333 17 x := by rw [eu_333]; exact upU_o hu_325
            have hC_343 : C_334 17 x = eI (ty 0) 6 (fun _ => 0) := by rw [eC_334, up2_n _ _ (fun z => by omega)]; exact hC_326
            have ha_344 : ma_335 17 x = q_14 := by rw [ema_335, up2_n _ _ (fun z => by omega)]; exact ha_327
            have hu_345 : u_333 18 x := by rw [eu_333]; exact upU_o hu_328
            have hC_346 : C_334 18 x = eI (ty 1) 6 (fun _ => 0) := by rw [eC_334, up2_n _ _ (fun z => by omega)]; exact hC_329
            have ha_347 : ma_335 18 x = q_31 := by rw [ema_335, up2_n _ _ (fun z => by omega)]; exact ha_330
            have hu_348 : u_333 21 (x * 6 + 4) := by rw [eu_333]; exact upU_s
            have hC_349 : C_334 21 (x * 6 + 4) = eO 0 [.int 0, .null, .int 0] := by rw [eC_334]; exact up2_s _ _ _ _
            have ha_350 : ma_335 21 (x * 6 + 4) = q_332 := by rw [ema_335]; exact up2_s _ _ _ _
            refine lv_dup hx hb dX11_init_59 rfl ?_
            have h_352 := c_lst l D ty A u_333 C_334 ma_335 t0 mi 21 (x * 6 + 4) hu_348 hC_349
            rw [ha_350] at h_352
            refine va_callv (va_runI (As := []) (rest := [.ref q_332, .ref q_52]) ⟨hx, hb, hml, hown, hts⟩ (h_352) (cwI 0 hts gX11_init_Jx4a65c_init_da8c8 rfl rfl rfl (hts (.initialized RJx4a65c) (by decide +kernel)) (hts (.methodLink RX11 24 yJx4a65c_init_da8c8) (by decide +kernel)) (hts (.instanceMethod yJx4a65c_init_da8c8) (by decide +kernel)) rfl (by decide +kernel) ⟨Nat.le_of_ble_eq_true rfl, Nat.le_of_ble_eq_true rfl⟩) ⟨zBl mI_blind, fun U h1 h2 => ⟨rfl, mI_pre hM hK hMS hS U h1 h2⟩⟩ rfl rfl hl.1 rfl (lv_room (Nat.le_of_ble_eq_true rfl)) dX11_init_60 ⟨Nat.le_of_ble_eq_true rfl, Nat.le_of_ble_eq_true rfl⟩) hS (fun _ _ h => h) (fun _ h => h) (fun Z_351 t H1 locs ht hvm hw hB9 hz1 hk1 hS => ?_)
            obtain ⟨hM, -, -⟩ := hB9
            rw [ht] at hM
            clear hk1 hz1 hvm ht
            clear t
            generalize H1 = H at hM hS ⊢
            rw [hw] at hM
            clear hw
            obtain ⟨C_353, eC_353⟩ : ∃ z, z = up2 C_334 21 (x * 6 + 4) (eO 0 [.int (nI 0), .ref t0, .int 0]) := ⟨_, rfl⟩
            have hM : mW D A u_333 C_353 ma_335 H := by rw [eC_353]; exact hM
            have hC_354 : C_353 15 x = eO 12 [.int a1, .ref q_1, .ref q_14, .ref q_31, .ref q_52] := by rw [eC_353, up2_n _ _ (fun z => by omega)]; exact hC_337
            have hC_355 : C_353 16 x = eI (ty 0) 6 (fun _ => 0) := by rw [eC_353, up2_n _ _ (fun z => by omega)]; exact hC_340
            have hC_356 : C_353 17 x = eI (ty 0) 6 (fun _ => 0) := by rw [eC_353, up2_n _ _ (fun z => by omega)]; exact hC_343
            have hC_357 : C_353 18 x = eI (ty 1) 6 (fun _ => 0) := by rw [eC_353, up2_n _ _ (fun z => by omega)]; exact hC_346
            have hC_358 : C_353 21 (x * 6 + 4) = eO 0 [.int (nI 0), .ref t0, .int 0] := by rw [eC_353]; exact up2_s _ _ _ _
            have hX_359 : ∀ k9 x9, u k9 x9 → u_333 k9 x9 := fun k9 x9 h9 => by rw [eu_333]; exact upU_o (hX_313 k9 x9 h9)
            have hX_360 : ∀ k9 x9, ¬ ((x9 = x ∧ 15 ≤ k9 ∧ k9 ≤ 20) ∨ (k9 = 21 ∧ x9 / 6 = x)) → C_353 k9 x9 = C k9 x9 := fun k9 x9 h9 => by rw [eC_353, up2_n _ _ (fun z => by omega), eC_334, up2_n _ _ (fun z => by omega)]; exact hX_314 k9 x9 h9
            have hX_361 : ∀ k9 x9, ¬ ((x9 = x ∧ 16 ≤ k9 ∧ k9 ≤ 20) ∨ (k9 = 21 ∧ x9 / 6 = x)) → ma_335 k9 x9 = ma k9 x9 := fun k9 x9 h9 => by rw [ema_335, up2_n _ _ (fun z => by omega)]; exact hX_315 k9 x9 h9
            have hL_362 : isL ty t0 u_333 C_353 ma_335 19 x 4 (fun f => ma_335 21 (x * 6 + f)) := hL_316.ext (fun q => ⟨by rw [eu_333]; exact upU_o (q), by rw [eC_353, up2_n _ _ (fun z => by omega), eC_334, up2_n _ _ (fun z => by omega)]⟩) (fun q => ⟨by rw [eu_333]; exact upU_o (q), by rw [eC_353, up2_n _ _ (fun z => by omega), eC_334, up2_n _ _ (fun z => by omega)], by rw [ema_335, up2_n _ _ (fun z => by omega)]⟩) (fun j hj => by show ma_335 21 (x * 6 + j) = _; rw [ema_335, up2_n _ _ (fun z => by omega)])
            have hI_363 : ∀ j, j < 4 → u_333 21 (x * 6 + j) ∧ C_353 21 (x * 6 + j) = eO 0 [.int (nI 0), .ref t0, .int 0] := fun j hj => ⟨by rw [eu_333]; exact upU_o ((hI_317 j hj).1), by rw [eC_353, up2_n _ _ (fun z => by omega), eC_334, up2_n _ _ (fun z => by omega)]; exact (hI_317 j hj).2⟩
            have ha_364 : ma_335 19 x = q_52 := by rw [ema_335, up2_n _ _ (fun z => by omega)]; exact ha_318
            obtain ⟨huz_365, hnz_365, mz_365, bz_365, hCz_365⟩ := isL.hd hL_362
            have h_366 := c_add l D ty A u_333 C_353 ma_335 t0 mi 19 x 4 (fun f => ma_335 21 (x * 6 + f)) hL_362 21 (x * 6 + 4) 0 _ _ hu_348 hC_358 rfl (by decide +kernel) (by omega) (by omega) (fun j hj => ⟨21, x * 6 + j, 0, _, _, by omega, (hI_363 j hj).1, rfl, (hI_363 j hj).2, rfl, by decide +kernel⟩) (by omega)
            rw [ha_364, ha_350] at h_366
            refine va_calli (va_runV (As := [.ref q_332]) (rest := []) ⟨hx, hb, hml, hown, hts⟩ (h_366) (cwV 1 hts gX11_init_Jx4a65c_add_9ea2d rfl rfl rfl (by decide +kernel) ⟨Nat.le_of_ble_eq_true rfl, Nat.le_of_ble_eq_true rfl⟩) ⟨zBl mI_blind, (va_recv hK (hM.Pa huz_365 ha_364 hCz_365) (ci := 0) (q0 := 0) rfl rfl), fun U h1 h2 => ⟨rfl, mI_pre hM hK hMS hS U h1 h2⟩⟩ rfl rfl hl.1 rfl (lv_room (Nat.le_of_ble_eq_true rfl)) dX11_init_63 ⟨Nat.le_of_ble_eq_true rfl, Nat.le_of_ble_eq_true rfl⟩) hS (fun _ _ h => h) (fun _ h => h) (fun r_368 S_367 t H1 locs ht hvm hw hB9 hz1 hk1 hS => ?_)
            obtain ⟨hr_368, hchg, hL9⟩ := hw
            subst hr_368
            obtain ⟨hM, -, -⟩ := hB9
            rw [ht] at hM
            clear hk1 hz1 hvm ht
            clear t
            generalize H1 = H at hM hS ⊢
            obtain ⟨u_369, C_370, ma_371⟩ := S_367
            have hM : mW D A u_369 C_370 ma_371 H := hM
            have hchg1 : ∀ k9 x9, u_333 k9 x9 → u_369 k9 x9 := hchg.1
            have hchg2 : ∀ k9 x9, ¬ (k9 = 19 ∧ x9 = x) → ¬ (k9 = 20 ∧ x9 = x) → C_370 k9 x9 = C_353 k9 x9 := hchg.2.1
            have hchg3 : ∀ k9 x9, ¬ (k9 = 20 ∧ x9 = x) → ma_371 k9 x9 = ma_335 k9 x9 := hchg.2.2
            have hX_372 : ∀ k9 x9, u k9 x9 → u_369 k9 x9 := fun k9 x9 h9 => hchg1 _ _ (hX_359 k9 x9 h9)
            have hX_373 : ∀ k9 x9, ¬ ((x9 = x ∧ 15 ≤ k9 ∧ k9 ≤ 20) ∨ (k9 = 21 ∧ x9 / 6 = x)) → C_370 k9 x9 = C k9 x9 := fun k9 x9 h9 => (hchg2 _ _ (by omega) (by omega)).trans (hX_360 k9 x9 h9)
            have hX_374 : ∀ k9 x9, ¬ ((x9 = x ∧ 16 ≤ k9 ∧ k9 ≤ 20) ∨ (k9 = 21 ∧ x9 / 6 = x)) → ma_371 k9 x9 = ma k9 x9 := fun k9 x9 h9 => (hchg3 _ _ (by omega)).trans (hX_361 k9 x9 h9)
            have hL_375 : isL ty t0 u_369 C_370 ma_371 19 x 5 (fun f => ma_371 21 (x * 6 + f)) := hL9.ext (fun q => ⟨q, rfl⟩) (fun q => ⟨q, rfl, rfl⟩) (fun j hj => by show ma_371 21 (x * 6 + j) = if j = 4 then q_332 else ma_335 21 (x * 6 + j); rw [hchg3 _ _ (by omega)]; by_cases ej : j = 4; (rw [if_pos ej, ej]; exact ha_350); (rw [if_neg ej]))
            have hI_376 : ∀ j, j < 5 → u_369 21 (x * 6 + j) ∧ C_370 21 (x * 6 + j) = eO 0 [.int (nI 0), .ref t0, .int 0] := fun j hj => by
              rw [hchg2 _ _ (by omega) (by omega)]
              by_cases ej : j = 4
              · rw [ej]; exact ⟨hchg1 _ _ hu_348, hC_358⟩
              · exact ⟨hchg1 _ _ (hI_363 j (by omega)).1, (hI_363 j (by omega)).2⟩
            have ha_377 : ma_371 19 x = q_52 := (hchg3 _ _ (by omega)).trans ha_364
            have hu_378 : u_369 15 x := hchg1 _ _ hu_336
            have hC_379 : C_370 15 x = eO 12 [.int a1, .ref q_1, .ref q_14, .ref q_31, .ref q_52] := (hchg2 _ _ (by omega) (by omega)).trans hC_354
            have ha_380 : ma_371 15 x = ma 15 x := (hchg3 _ _ (by omega)).trans ha_338
            have hu_381 : u_369 16 x := hchg1 _ _ hu_339
            have hC_382 : C_370 16 x = eI (ty 0) 6 (fun _ => 0) := (hchg2 _ _ (by omega) (by omega)).trans hC_355
            have ha_383 : ma_371 16 x = q_1 := (hchg3 _ _ (by omega)).trans ha_341
            have hu_384 : u_369 17 x := hchg1 _ _ hu_342
            have hC_385 : C_370 17 x = eI (ty 0) 6 (fun _ => 0) := (hchg2 _ _ (by omega) (by omega)).trans hC_356
            have ha_386 : ma_371 17 x = q_14 := (hchg3 _ _ (by omega)).trans ha_344
            have hu_387 : u_369 18 x := hchg1 _ _ hu_345
            have hC_388 : C_370 18 x = eI (ty 1) 6 (fun _ => 0) := (hchg2 _ _ (by omega) (by omega)).trans hC_357
            have ha_389 : ma_371 18 x = q_31 := (hchg3 _ _ (by omega)).trans ha_347
            clear hchg hL9 hchg1 hchg2 hchg3
            refine lv_pop hx hb dX11_init_66 rfl ?_
            refine lv_iinc (v := nI 5) (lv' := [(2, .int (nI 5)), (0, .ref (ma 15 x)), (1, .int a1)]) hx hb dX11_init_67 hl (k := 0) rfl (nI_add 4 1) (by decide) rfl (fun ls hl => ?_)
            refine lv_goto (tgt := 46) hx hb dX11_init_70 (by decide) ?_
            refine lv_iload_n hx hb dX11_init_46 rfl (lv_at hl 0 rfl) ?_
            refine lv_bipush (v := nI 6) hx hb dX11_init_47 (by decide) ?_
            refine lv_icmp_ge (tgt := 73) hx hb dX11_init_49 (by decide) (fun c_390 => ?_) (fun c_390 => ?_)
            · have c_390 := zn_geT (a := 5) (b := 6) (by omega) (by omega) c_390
              omega
            · have c_390 := zn_geF (a := 5) (b := 6) (by omega) (by omega) c_390
              refine lv_aload_n hx hb dX11_init_52 rfl (lv_at hl 1 rfl) ?_
              refine va_get hx hb hts hinX11 hown hK (hM.Pa hu_378 ha_380 hC_379) 0 rfl rfl 4 (by decide) (hk5) (fun _ h9 => h9) rfl dX11_init_53 ?_
              refine mnew (Cn := RJx4a65c) (T := TJx4a65c) (N := 3) (ci := 0) (fs := [.int 0, .null, .int 0]) hx hb hts hinJx4a65c tyJx4a65c tyJx4a65c_ok hown (hts (.classLink RX11 22 RJx4a65c) (by decide +kernel)) (hts (.instantiable RJx4a65c 3) (by decide +kernel)) (hts (.initialized RJx4a65c) (by decide +kernel)) hK hM hS 21 (x * 6 + 5) rfl (fun j hj => by rcases (show j = 0 ∨ j = 1 ∨ j = 2 by omega) with rfl | rfl | rfl <;> rfl) (Nat.le_of_ble_eq_true rfl) (Nat.le_of_ble_eq_true rfl) dX11_init_56 (fun H1 hM hS _ _ => ?_)
              generalize hq9 : Array.size H = q_391 at hM ⊢
              clear hq9
              generalize H1 = H at hM hS ⊢
              obtain ⟨u_392, eu_392⟩ : ∃ z, z = upU u_369 21 (x * 6 + 5) := ⟨_, rfl⟩
              obtain ⟨C_393, eC_393⟩ : ∃ z, z = up2 C_370 21 (x * 6 + 5) (eO 0 [.int 0, .null, .int 0]) := ⟨_, rfl⟩
              obtain ⟨ma_394, ema_394⟩ : ∃ z, z = up2 ma_371 21 (x * 6 + 5) q_391 := ⟨_, rfl⟩
              have hM : mW D A u_392 C_393 ma_394 H := by rw [eu_392, eC_393, ema_394]; exact hM
              have hu_395 : u_392 15 x := by rw [eu_392]; exact upU_o hu_378
              have hC_396 : C_393 15 x = eO 12 [.int a1, .ref q_1, .ref q_14, .ref q_31, .ref q_52] := by rw [eC_393, up2_n _ _ (fun z => by omega)]; exact hC_379
              have ha_397 : ma_394 15 x = ma 15 x := by rw [ema_394, up2_n _ _ (fun z => by omega)]; exact ha_380
              have hu_398 : u_392 16 x := by rw [eu_392]; exact upU_o hu_381
              have hC_399 : C_393 16 x = eI (ty 0) 6 (fun _ => 0) := by rw [eC_393, up2_n _ _ (fun z => by omega)]; exact hC_382
              have ha_400 : ma_394 16 x = q_1 := by rw [ema_394, up2_n _ _ (fun z => by omega)]; exact ha_383
              have hu_401 : u_392 17 x := by rw [eu_392]; exact upU_o hu_384
              have hC_402 : C_393 17 x = eI (ty 0) 6 (fun _ => 0) := by rw [eC_393, up2_n _ _ (fun z => by omega)]; exact hC_385
              have ha_403 : ma_394 17 x = q_14 := by rw [ema_394, up2_n _ _ (fun z => by omega)]; exact ha_386
              have hu_404 : u_392 18 x := by rw [eu_392]; exact upU_o hu_387
              have hC_405 : C_393 18 x = eI (ty 1) 6 (fun _ => 0) := by rw [eC_393, up2_n _ _ (fun z => by omega)]; exact hC_388
              have ha_406 : ma_394 18 x = q_31 := by rw [ema_394, up2_n _ _ (fun z => by omega)]; exact ha_389
              have hu_407 : u_392 21 (x * 6 + 5) := by rw [eu_392]; exact upU_s
              have hC_408 : C_393 21 (x * 6 + 5) = eO 0 [.int 0, .null, .int 0] := by rw [eC_393]; exact up2_s _ _ _ _
              have ha_409 : ma_394 21 (x * 6 + 5) = q_391 := by rw [ema_394]; exact up2_s _ _ _ _
              refine lv_dup hx hb dX11_init_59 rfl ?_
              have h_411 := c_lst l D ty A u_392 C_393 ma_394 t0 mi 21 (x * 6 + 5) hu_407 hC_408
              rw [ha_409] at h_411
              refine va_callv (va_runI (As := []) (rest := [.ref q_391, .ref q_52]) ⟨hx, hb, hml, hown, hts⟩ (h_411) (cwI 0 hts gX11_init_Jx4a65c_init_da8c8 rfl rfl rfl (hts (.initialized RJx4a65c) (by decide +kernel)) (hts (.methodLink RX11 24 yJx4a65c_init_da8c8) (by decide +kernel)) (hts (.instanceMethod yJx4a65c_init_da8c8) (by decide +kernel)) rfl (by decide +kernel) ⟨Nat.le_of_ble_eq_true rfl, Nat.le_of_ble_eq_true rfl⟩) ⟨zBl mI_blind, fun U h1 h2 => ⟨rfl, mI_pre hM hK hMS hS U h1 h2⟩⟩ rfl rfl hl.1 rfl (lv_room (Nat.le_of_ble_eq_true rfl)) dX11_init_60 ⟨Nat.le_of_ble_eq_true rfl, Nat.le_of_ble_eq_true rfl⟩) hS (fun _ _ h => h) (fun _ h => h) (fun Z_410 t H1 locs ht hvm hw hB9 hz1 hk1 hS => ?_)
              obtain ⟨hM, -, -⟩ := hB9
              rw [ht] at hM
              clear hk1 hz1 hvm ht
              clear t
              generalize H1 = H at hM hS ⊢
              rw [hw] at hM
              clear hw
              obtain ⟨C_412, eC_412⟩ : ∃ z, z = up2 C_393 21 (x * 6 + 5) (eO 0 [.int (nI 0), .ref t0, .int 0]) := ⟨_, rfl⟩
              have hM : mW D A u_392 C_412 ma_394 H := by rw [eC_412]; exact hM
              have hC_413 : C_412 15 x = eO 12 [.int a1, .ref q_1, .ref q_14, .ref q_31, .ref q_52] := by rw [eC_412, up2_n _ _ (fun z => by omega)]; exact hC_396
              have hC_414 : C_412 16 x = eI (ty 0) 6 (fun _ => 0) := by rw [eC_412, up2_n _ _ (fun z => by omega)]; exact hC_399
              have hC_415 : C_412 17 x = eI (ty 0) 6 (fun _ => 0) := by rw [eC_412, up2_n _ _ (fun z => by omega)]; exact hC_402
              have hC_416 : C_412 18 x = eI (ty 1) 6 (fun _ => 0) := by rw [eC_412, up2_n _ _ (fun z => by omega)]; exact hC_405
              have hC_417 : C_412 21 (x * 6 + 5) = eO 0 [.int (nI 0), .ref t0, .int 0] := by rw [eC_412]; exact up2_s _ _ _ _
              have hX_418 : ∀ k9 x9, u k9 x9 → u_392 k9 x9 := fun k9 x9 h9 => by rw [eu_392]; exact upU_o (hX_372 k9 x9 h9)
              have hX_419 : ∀ k9 x9, ¬ ((x9 = x ∧ 15 ≤ k9 ∧ k9 ≤ 20) ∨ (k9 = 21 ∧ x9 / 6 = x)) → C_412 k9 x9 = C k9 x9 := fun k9 x9 h9 => by rw [eC_412, up2_n _ _ (fun z => by omega), eC_393, up2_n _ _ (fun z => by omega)]; exact hX_373 k9 x9 h9
              have hX_420 : ∀ k9 x9, ¬ ((x9 = x ∧ 16 ≤ k9 ∧ k9 ≤ 20) ∨ (k9 = 21 ∧ x9 / 6 = x)) → ma_394 k9 x9 = ma k9 x9 := fun k9 x9 h9 => by rw [ema_394, up2_n _ _ (fun z => by omega)]; exact hX_374 k9 x9 h9
              have hL_421 : isL ty t0 u_392 C_412 ma_394 19 x 5 (fun f => ma_394 21 (x * 6 + f)) := hL_375.ext (fun q => ⟨by rw [eu_392]; exact upU_o (q), by rw [eC_412, up2_n _ _ (fun z => by omega), eC_393, up2_n _ _ (fun z => by omega)]⟩) (fun q => ⟨by rw [eu_392]; exact upU_o (q), by rw [eC_412, up2_n _ _ (fun z => by omega), eC_393, up2_n _ _ (fun z => by omega)], by rw [ema_394, up2_n _ _ (fun z => by omega)]⟩) (fun j hj => by show ma_394 21 (x * 6 + j) = _; rw [ema_394, up2_n _ _ (fun z => by omega)])
              have hI_422 : ∀ j, j < 5 → u_392 21 (x * 6 + j) ∧ C_412 21 (x * 6 + j) = eO 0 [.int (nI 0), .ref t0, .int 0] := fun j hj => ⟨by rw [eu_392]; exact upU_o ((hI_376 j hj).1), by rw [eC_412, up2_n _ _ (fun z => by omega), eC_393, up2_n _ _ (fun z => by omega)]; exact (hI_376 j hj).2⟩
              have ha_423 : ma_394 19 x = q_52 := by rw [ema_394, up2_n _ _ (fun z => by omega)]; exact ha_377
              obtain ⟨huz_424, hnz_424, mz_424, bz_424, hCz_424⟩ := isL.hd hL_421
              have h_425 := c_add l D ty A u_392 C_412 ma_394 t0 mi 19 x 5 (fun f => ma_394 21 (x * 6 + f)) hL_421 21 (x * 6 + 5) 0 _ _ hu_407 hC_417 rfl (by decide +kernel) (by omega) (by omega) (fun j hj => ⟨21, x * 6 + j, 0, _, _, by omega, (hI_422 j hj).1, rfl, (hI_422 j hj).2, rfl, by decide +kernel⟩) (by omega)
              rw [ha_423, ha_409] at h_425
              refine va_calli (va_runV (As := [.ref q_391]) (rest := []) ⟨hx, hb, hml, hown, hts⟩ (h_425) (cwV 1 hts gX11_init_Jx4a65c_add_9ea2d rfl rfl rfl (by decide +kernel) ⟨Nat.le_of_ble_eq_true rfl, Nat.le_of_ble_eq_true rfl⟩) ⟨zBl mI_blind, (va_recv hK (hM.Pa huz_424 ha_423 hCz_424) (ci := 0) (q0 := 0) rfl rfl), fun U h1 h2 => ⟨rfl, mI_pre hM hK hMS hS U h1 h2⟩⟩ rfl rfl hl.1 rfl (lv_room (Nat.le_of_ble_eq_true rfl)) dX11_init_63 ⟨Nat.le_of_ble_eq_true rfl, Nat.le_of_ble_eq_true rfl⟩) hS (fun _ _ h => h) (fun _ h => h) (fun r_427 S_426 t H1 locs ht hvm hw hB9 hz1 hk1 hS => ?_)
              obtain ⟨hr_427, hchg, hL9⟩ := hw
              subst hr_427
              obtain ⟨hM, -, -⟩ := hB9
              rw [ht] at hM
              clear hk1 hz1 hvm ht
              clear t
              generalize H1 = H at hM hS ⊢
              obtain ⟨u_428, C_429, ma_430⟩ := S_426
              have hM : mW D A u_428 C_429 ma_430 H := hM
              have hchg1 : ∀ k9 x9, u_392 k9 x9 → u_428 k9 x9 := hchg.1
              have hchg2 : ∀ k9 x9, ¬ (k9 = 19 ∧ x9 = x) → ¬ (k9 = 20 ∧ x9 = x) → C_429 k9 x9 = C_412 k9 x9 := hchg.2.1
              have hchg3 : ∀ k9 x9, ¬ (k9 = 20 ∧ x9 = x) → ma_430 k9 x9 = ma_394 k9 x9 := hchg.2.2
              have hX_431 : ∀ k9 x9, u k9 x9 → u_428 k9 x9 := fun k9 x9 h9 => hchg1 _ _ (hX_418 k9 x9 h9)
              have hX_432 : ∀ k9 x9, ¬ ((x9 = x ∧ 15 ≤ k9 ∧ k9 ≤ 20) ∨ (k9 = 21 ∧ x9 / 6 = x)) → C_429 k9 x9 = C k9 x9 := fun k9 x9 h9 => (hchg2 _ _ (by omega) (by omega)).trans (hX_419 k9 x9 h9)
              have hX_433 : ∀ k9 x9, ¬ ((x9 = x ∧ 16 ≤ k9 ∧ k9 ≤ 20) ∨ (k9 = 21 ∧ x9 / 6 = x)) → ma_430 k9 x9 = ma k9 x9 := fun k9 x9 h9 => (hchg3 _ _ (by omega)).trans (hX_420 k9 x9 h9)
              have hL_434 : isL ty t0 u_428 C_429 ma_430 19 x 6 (fun f => ma_430 21 (x * 6 + f)) := hL9.ext (fun q => ⟨q, rfl⟩) (fun q => ⟨q, rfl, rfl⟩) (fun j hj => by show ma_430 21 (x * 6 + j) = if j = 5 then q_391 else ma_394 21 (x * 6 + j); rw [hchg3 _ _ (by omega)]; by_cases ej : j = 5; (rw [if_pos ej, ej]; exact ha_409); (rw [if_neg ej]))
              have hI_435 : ∀ j, j < 6 → u_428 21 (x * 6 + j) ∧ C_429 21 (x * 6 + j) = eO 0 [.int (nI 0), .ref t0, .int 0] := fun j hj => by
                rw [hchg2 _ _ (by omega) (by omega)]
                by_cases ej : j = 5
                · rw [ej]; exact ⟨hchg1 _ _ hu_407, hC_417⟩
                · exact ⟨hchg1 _ _ (hI_422 j (by omega)).1, (hI_422 j (by omega)).2⟩
              have ha_436 : ma_430 19 x = q_52 := (hchg3 _ _ (by omega)).trans ha_423
              have hu_437 : u_428 15 x := hchg1 _ _ hu_395
              have hC_438 : C_429 15 x = eO 12 [.int a1, .ref q_1, .ref q_14, .ref q_31, .ref q_52] := (hchg2 _ _ (by omega) (by omega)).trans hC_413
              have ha_439 : ma_430 15 x = ma 15 x := (hchg3 _ _ (by omega)).trans ha_397
              have hu_440 : u_428 16 x := hchg1 _ _ hu_398
              have hC_441 : C_429 16 x = eI (ty 0) 6 (fun _ => 0) := (hchg2 _ _ (by omega) (by omega)).trans hC_414
              have ha_442 : ma_430 16 x = q_1 := (hchg3 _ _ (by omega)).trans ha_400
              have hu_443 : u_428 17 x := hchg1 _ _ hu_401
              have hC_444 : C_429 17 x = eI (ty 0) 6 (fun _ => 0) := (hchg2 _ _ (by omega) (by omega)).trans hC_415
              have ha_445 : ma_430 17 x = q_14 := (hchg3 _ _ (by omega)).trans ha_403
              have hu_446 : u_428 18 x := hchg1 _ _ hu_404
              have hC_447 : C_429 18 x = eI (ty 1) 6 (fun _ => 0) := (hchg2 _ _ (by omega) (by omega)).trans hC_416
              have ha_448 : ma_430 18 x = q_31 := (hchg3 _ _ (by omega)).trans ha_406
              clear hchg hL9 hchg1 hchg2 hchg3
              refine lv_pop hx hb dX11_init_66 rfl ?_
              refine lv_iinc (v := nI 6) (lv' := [(2, .int (nI 6)), (0, .ref (ma 15 x)), (1, .int a1)]) hx hb dX11_init_67 hl (k := 0) rfl (nI_add 5 1) (by decide) rfl (fun ls hl => ?_)
              refine lv_goto (tgt := 46) hx hb dX11_init_70 (by decide) ?_
              refine lv_iload_n hx hb dX11_init_46 rfl (lv_at hl 0 rfl) ?_
              refine lv_bipush (v := nI 6) hx hb dX11_init_47 (by decide) ?_
              refine lv_icmp_ge (tgt := 73) hx hb dX11_init_49 (by decide) (fun c_449 => ?_) (fun c_449 => ?_)
              · have c_449 := zn_geT (a := 6) (b := 6) (by omega) (by omega) c_449
                exact W.vret hx hb hr (fun t ht hW => ⟨⟨(u_428, C_429, ma_430), rfl, ⟨hX_431, hX_432, hX_433, ⟨hu_437, by show C_429 15 x = _; rw [show (u_428, C_429, ma_430).2.2 16 x = _ from ha_442, show (u_428, C_429, ma_430).2.2 17 x = _ from ha_445, show (u_428, C_429, ma_430).2.2 18 x = _ from ha_448, show (u_428, C_429, ma_430).2.2 19 x = _ from ha_436]; exact hC_438⟩, ⟨hu_440, hC_441⟩, ⟨hu_443, hC_444⟩, ⟨hu_446, hC_447⟩, hL_434, hI_435⟩, mI_pre hM hK hMS hS t ht hW⟩, hS.F ht⟩) hS.2.2 dX11_init_73
              · have c_449 := zn_geF (a := 6) (b := 6) (by omega) (by omega) c_449
                omega
