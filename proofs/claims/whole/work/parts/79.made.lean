/-- what a read of F, rw rows, asks for field f, in the model's words -/
def mdF (g : Nat → Nat → Int32) (i : Nat) (F rw0 t : Int32) (f : Nat) : Int32 := (F >>> (nI f &&& 31) &&& nI 1) * (rw0 * g 10 (i * 6 + f) * t / nI 400)
theorem mdF6 {a : Nat → Int32} : upd (upd (upd (upd (upd (upd (fun _ => 0) 0 (a 0)) 1 (a 1)) 2 (a 2)) 3 (a 3)) 4 (a 4)) 5 (a 5) = row6 a 0 := by
  funext f
  unfold row6
  by_cases h : f < 6
  · rw [if_pos h, Nat.zero_add]
    rcases (show f = 0 ∨ f = 1 ∨ f = 2 ∨ f = 3 ∨ f = 4 ∨ f = 5 by omega) with rfl | rfl | rfl | rfl | rfl | rfl <;> rfl
  · rw [if_neg h]
    have e : ∀ k, k < 6 → f ≠ k := fun k hk => by omega
    rw [un (e 5 (by decide)), un (e 4 (by decide)), un (e 3 (by decide)), un (e 2 (by decide)), un (e 1 (by decide)), un (e 0 (by decide))]
section V9
variable {p : Program} {l : Launch} {e : Env} {R : Room} {s : State} {m : MethodId} {args : Array Value} {below : List Frame} {meth : Method} {c : Code} {H : Heap} {locs : List Loc} {cells slots : Nat} {Q : State → Prop}
variable {y : MethodName} {bytes cc : ByteArray} {maxL nL n index pc mc ms b : Nat} {ret : Option FieldType} {ws : List Cond} {rm : Room} {Ts : List Cond} {own C : String} {As rest st0 : List Value} {ls : Array Slot} {B : State → Prop}
/-- a call with more on the operand stack than the library's row allows -/
theorem runV9 {W9 : Nat} {g : JFrame} {Pc : Array Value → State → Prop} {Qc : Array Value → State → Outcome → State → Prop} {free : Addr → Prop} (S : CallFix p m c cc nL s args Ts own) (hM : Met l y ws rm Pc Qc mc ms free) (cw : CallW R s args own C index y bytes maxL ret ws rm mc ms n) (hlo9 : W9 + (maxL + 11) + rm.locals ≤ R.locals) (hp : PreV s H C b Pc As)
    (hg : g.method = m) (hn : As.length = n) (hsize : g.locals.size = nL) (hstack : g.stack = As.reverse ++ .ref b :: rest) (hW : 2 * g.monitorRoom + (rest.map fun v => v.category).sum ≤ W9) (hdg : decode cc g.pc = .ok (.invokevirtual index, 3)) (hf : cells + mc ≤ R.cells ∧ slots + ms ≤ R.slots) :
    CallRun p l e R s m args below meth c H locs cells slots mc ms g rest (Qc (Value.ref b :: As).toArray) free := by
  obtain ⟨⟨hrc, hrs, hfr, -, hws, hcw, hcode, hini, hy, hlen, hl⟩, hin, hse⟩ := cw
  have hK : Back l R p e below s args y 3 W9 (PreOf R mc ms Pc) (PostOf Qc mc ms free) := back_of (bytes := bytes) (maxL := maxL) (ret := ret) hM hp.1 hrc hrs hfr hlo9 hws hcw (fun a' U hU => word_at hU (Or.inl (by first | rfl | simp [Cond.onTables, Cond.keeps, Cond.steady])) hini)
  obtain ⟨hx, hb, hml, ho, -⟩ := S
  obtain ⟨-, ⟨cellB, hcB, hoB, hclB⟩, hPc⟩ := hp
  intro T hT X
  obtain ⟨v, vm₁, ⟨U', l2, c2, s2⟩, hW₁, X', ⟨g', mk, t, L, e1, e2, hq, h1, hL, h2, h3⟩, st⟩ := callV X hx (C := C) (bytes := bytes) (maxL := maxL) (ret := ret) ho hl hin hse hcode hy hK (by rw [hT]; exact hcB) hoB hclB hg (hsize.trans hml.symm) (argsL := As) (rest := rest) (fun sig h => hn.trans (hlen sig h)) hstack hW (by rw [hb]; exact hdg) (fun vm₁ hW₁ => ⟨hf.1, hf.2, hPc (T.setVm vm₁) hT hW₁⟩)
  dsimp only [Pt.U, Pt.locs, Pt.cells, Pt.slots] at X' e1 e2 h1 h2 h3 st
  subst h1; subst h2; subst h3
  exact ⟨v, (T.setVm vm₁).calling g' mk (Value.ref b :: As).toArray, t, U', L, hT, X', hL, e1, hq, st⟩
theorem zcV9 {post : Int32 → Prop} (S : CallFix p m c cc nL s args Ts own) (hM : Met l y ws rm (va_Pc (.ref b :: As) B) (vp_Si post) 0 0 (fun _ => False)) (cw : CallW R s args own C index y bytes maxL ret ws rm 0 0 n) (hbl : ∀ (a : Array Value) (U : State) (f : JFrame) (mk : MethodId), B U → B (U.calling f mk a)) (hB : ∀ U : State, U.heap = H → s.WarmedH U.vm → B U) (hrec : ∃ cellB : Cell, H[b]? = some cellB ∧ cellB.vm.isStatics = false ∧ s.vm.findClass C = some cellB.cls) (hn : As.length = n) (hsz : ls.size = nL) (hst : st0 = As.reverse ++ .ref b :: rest) (hW : (rest.map fun v => v.category).sum ≤ 9) (hdg : decode cc pc = .ok (.invokevirtual index, 3)) (hc : cells ≤ R.cells ∧ slots ≤ R.slots) (hlo9 : 9 + (maxL + 11) + rm.locals ≤ R.locals)
    (kk : ∀ r : Int32, post r → W p l e R s m args below meth c H locs cells slots Q (F0 m (pc + 3) ls (.int r :: rest))) : W p l e R s m args below meth c H locs cells slots Q (F0 m pc ls st0) :=
  vp_callSi (runV9 (W9 := 9) S hM cw hlo9 ⟨zBl hbl, hrec, fun U h1 h2 => ⟨rfl, hB U h1 h2⟩⟩ rfl hn hsz hst (by show 2 * 0 + _ ≤ 9; omega) hdg hc) kk
end V9
set_option maxHeartbeats 1000000 in
set_option maxRecDepth 100000 in
theorem c_X12_made (l : Launch) (D : va_G) (ty : Nat → ClassId) (A : Nat → Prop) (u : Nat → Nat → Prop) (C : Nat → Nat → va_E) (ma : Nat → Nat → Nat) (t0 mi : Nat) (g : Nat → Nat → Int32) (n1 n2 nL n4 n5 : Nat) (th : Int32) (rep bro : Nat → Nat → Int32) (hR : mR ty t0 g n1 n2 nL n4 n5 th rep bro u C ma) (R i P : Nat) (hr6 : R < 6) (hi : i < n1) (hp : P < 4) (hn40 : n5 ≤ 40) (F rw0 : Int32) : Met l yX12_made wsX12_made ({ frames := 6, cells := 2, slots := 16, locals := 160 }) (va_Pc [.ref (ma 0 0), .int (nI R), .int (nI i), .int F, .int rw0, .int (nI P)] (mI D ty A u C ma t0 mi)) (va_Qr (fun S : mSt => (∀ k9 x9, mU g n1 n2 nL n4 n5 k9 x9 → (k9 ≠ 2 ∧ k9 ≠ 4 ∧ k9 ≠ 6 ∧ k9 ≠ 8) → S.2.2 k9 x9 = ma k9 x9) ∧ mR ty t0 g n1 n2 nL n4 n5 th rep bro S.1 S.2.1 S.2.2 ∧ S.1 26 n5 ∧ S.2.1 26 n5 = eO 10 [.int (nI R), .int (nI i), .int (nI (nV g i) - nI 1), .int F, .int rw0, .int (g 0 0), .int (nI P), .int (tierN (sumN (fUn g (nI R) (g 0 0)) n5)), .ref (S.2.2 27 n5), .int 0] ∧ S.1 27 n5 ∧ S.2.1 27 n5 = eI (ty 0) 6 (row6 (mdF g i F rw0 (tierN (sumN (fUn g (nI R) (g 0 0)) n5))) 0)) (fun S q t => q = S.2.2 26 n5 ∧ mI D ty A S.1 S.2.1 S.2.2 t0 mi t) A) 2 16 A := by
  refine zMet (cc := cX12_made) (maxL := 8) (ret := (some (.object "DatamarketDeskModel$Read"))) (by decide) rfl (Nat.le_of_ble_eq_true rfl) ?_
  intro p e s m below meth c hx hb hr hts hown hlocks hml hB ls hl
  obtain ⟨hM, hK, hMS⟩ := hB
  have hS : va_S A s.heap s.heap [] := va_S.rf
  have hbn := hR.I.b1
  have hbs := hR.I.b2
  have hbl := hR.I.bL
  have hbc := hR.I.b4
  have hbr := hR.I.b5
  have hl : lv_has ls 8 [(0, .ref (ma 0 0)), (1, .int (nI R)), (2, .int (nI i)), (3, .int F), (4, .int rw0), (5, .int (nI P))] := hl
  have hinX9 : ∀ w ∈ wsX90, w ∈ wsX12_made := by decide +kernel
  have hinX12 : ∀ w ∈ wsX120, w ∈ wsX12_made := by decide +kernel
  have hk2 := hts (.fieldLink RX12 10 "DatamarketDeskModel" "sets" "Ljava/util/ArrayList;") (by decide +kernel)
  have hk3 := hts (.classLink RX12 49 "DatamarketDeskModel$DataSet") (by decide +kernel)
  have hk4 := hts (.fieldLink RX12 193 "DatamarketDeskModel" "today" "I") (by decide +kernel)
  have hk5 := hts (.fieldLink RX12 236 "DatamarketDeskModel$Read" "charges" "[I") (by decide +kernel)
  have hinX7 : ∀ w ∈ wsX70, w ∈ wsX12_made := by decide +kernel
  have hk7 := hts (.fieldLink RX12 114 "DatamarketDeskModel$DataSet" "prices" "[I") (by decide +kernel)
  have hk8 := hts (.fieldLink RX12 239 "DatamarketDeskModel$Read" "tier" "I") (by decide +kernel)
  refine mnew (Cn := RX9) (T := TX9) (N := 10) (ci := 10) (fs := [.int 0, .int 0, .int 0, .int 0, .int 0, .int 0, .int 0, .int 0, .null, .int 0]) hx hb hts hinX9 tyX9 tyX9_ok hown (hts (.classLink RX12 152 RX9) (by decide +kernel)) (hts (.instantiable RX9 10) (by decide +kernel)) (hts (.initialized RX9) (by decide +kernel)) hK hM hS 26 n5 rfl (fun j hj => by rcases (show j = 0 ∨ j = 1 ∨ j = 2 ∨ j = 3 ∨ j = 4 ∨ j = 5 ∨ j = 6 ∨ j = 7 ∨ j = 8 ∨ j = 9 by omega) with rfl | rfl | rfl | rfl | rfl | rfl | rfl | rfl | rfl | rfl <;> rfl) (Nat.le_of_ble_eq_true rfl) (Nat.le_of_ble_eq_true rfl) dX12_made_0 (fun H1 hM hS _ _ => ?_)
  generalize hq9 : Array.size s.heap = q_1 at hM ⊢
  clear hq9
  generalize H1 = H at hM hS ⊢
  obtain ⟨u_2, eu_2⟩ : ∃ z, z = upU u 26 n5 := ⟨_, rfl⟩
  obtain ⟨C_3, eC_3⟩ : ∃ z, z = up2 C 26 n5 (eO 10 [.int 0, .int 0, .int 0, .int 0, .int 0, .int 0, .int 0, .int 0, .null, .int 0]) := ⟨_, rfl⟩
  obtain ⟨ma_4, ema_4⟩ : ∃ z, z = up2 ma 26 n5 q_1 := ⟨_, rfl⟩
  have hM : mW D A u_2 C_3 ma_4 H := by rw [eu_2, eC_3, ema_4]; exact hM
  have hu_5 : u_2 26 n5 := by rw [eu_2]; exact upU_s
  have hC_6 : C_3 26 n5 = eO 10 [.int 0, .int 0, .int 0, .int 0, .int 0, .int 0, .int 0, .int 0, .null, .int 0] := by rw [eC_3]; exact up2_s _ _ _ _
  have ha_7 : ma_4 26 n5 = q_1 := by rw [ema_4]; exact up2_s _ _ _ _
  have hR_8 : mR ty t0 g n1 n2 nL n4 n5 th rep bro u_2 C_3 ma_4 := hR.ext (fun k9 x9 hm hu => ⟨by rw [eu_2]; exact upU_o hu, by rw [eC_3]; exact up2_n _ _ (fun z => by unfold mU at hm; omega), by rw [ema_4]; exact up2_n _ _ (fun z => by unfold mU at hm; omega)⟩)
  have hg_10 : ∀ k9 x9, mU g n1 n2 nL n4 n5 k9 x9 → (k9 ≠ 2 ∧ k9 ≠ 4 ∧ k9 ≠ 6 ∧ k9 ≠ 8) → ma_4 k9 x9 = ma k9 x9 := fun k9 x9 hm hn => by rw [ema_4, up2_n _ _ (fun z => by unfold mU at hm; omega)]
  refine lv_dup hx hb dX12_made_3 rfl ?_
  refine lv_iload_n hx hb dX12_made_4 rfl (lv_at hl 1 rfl) ?_
  refine lv_iload_n hx hb dX12_made_5 rfl (lv_at hl 2 rfl) ?_
  refine lv_aload_n hx hb dX12_made_6 rfl (lv_at hl 0 rfl) ?_
  refine va_get hx hb hts hinX12 hown hK (hM.Pa hR_8.o.1 (hg_10 0 0 (by unfold mU; omega) (by decide)) hR_8.o.2) 0 rfl rfl 1 (by decide) (hk2) (fun _ h9 => h9) rfl dX12_made_7 ?_
  refine zeqv (y := .ref (ma 1 0)) (congrArg Value.ref (hg_10 1 0 (by unfold mU; omega) (by decide))) ?_
  refine lv_iload_n hx hb dX12_made_10 rfl (lv_at hl 2 rfl) ?_
  have h_11 := c_get l D ty A u_2 C_3 ma_4 t0 mi 1 0 n1 (ma_4 9) hR_8.l1 i (by omega)
  first | dsimp only at h_11 | skip
  rw [(show ma_4 1 0 = ma 1 0 from (hg_10 1 0 (by unfold mU; omega) (by decide))), (show ma_4 9 i = ma 9 i from (hg_10 9 i (by unfold mU; omega) (by decide)))] at h_11
  obtain ⟨huz_12, hnz_12, mz_12, bz_12, hCz_12⟩ := isL.hd hR_8.l1
  refine zcVr (x := .ref (ma 9 i)) (As := [.int (nI i)]) (rest := [.int (nI i), .int (nI R), .ref q_1, .ref q_1]) ⟨hx, hb, hml, hown, hts⟩ (h_11) (cwV 1 hts gX12_made_Jx4a65c_get_915e3 rfl rfl rfl (by decide +kernel) ⟨Nat.le_of_ble_eq_true rfl, Nat.le_of_ble_eq_true rfl⟩) mI_blind (mI_pre hM hK hMS hS) (va_recv hK (hM.Pa huz_12 (hg_10 1 0 (by unfold mU; omega) (by decide)) hCz_12) (ci := 0) (q0 := 0) rfl rfl) rfl hl.1 rfl (Nat.le_of_ble_eq_true rfl) dX12_made_11 ⟨Nat.le_of_ble_eq_true rfl, Nat.le_of_ble_eq_true rfl⟩ ?_
  refine va_castS hx hb hown (hk3) ((hK.1 8 _ rfl).2) (va_recv hK (hM.Pa (hR_8.s9 (i := i) (by omega)).1 (hg_10 9 i (by unfold mU; omega) (by decide)) (hR_8.s9 (i := i) (by omega)).2) (ci := 8) (q0 := 0) rfl rfl) dX12_made_14 ?_
  have h_14 := c_X7_latest l D ty A u_2 C_3 ma_4 t0 mi g n1 n2 nL n4 n5 th rep bro hR_8 i (by omega)
  first | dsimp only at h_14 | skip
  rw [(show ma_4 9 i = ma 9 i from (hg_10 9 i (by unfold mU; omega) (by decide)))] at h_14
  refine zcVi (As := []) (rest := [.int (nI i), .int (nI R), .ref q_1, .ref q_1]) ⟨hx, hb, hml, hown, hts⟩ (h_14) (cwV 0 hts gX12_made_X7_latest rfl rfl rfl (by decide +kernel) ⟨Nat.le_of_ble_eq_true rfl, Nat.le_of_ble_eq_true rfl⟩) mI_blind (mI_pre hM hK hMS hS) (va_recv hK (hM.Pa (hR_8.s9 (i := i) (by omega)).1 (hg_10 9 i (by unfold mU; omega) (by decide)) (hR_8.s9 (i := i) (by omega)).2) (ci := 8) (q0 := 0) rfl rfl) rfl hl.1 rfl (Nat.le_of_ble_eq_true rfl) dX12_made_17 ⟨Nat.le_of_ble_eq_true rfl, Nat.le_of_ble_eq_true rfl⟩ (fun r_15 hr_15 => ?_)
  subst hr_15
  refine lv_iload_n hx hb dX12_made_20 rfl (lv_at hl 3 rfl) ?_
  refine lv_iload hx hb dX12_made_21 (lv_at hl 4 rfl) ?_
  refine lv_aload_n hx hb dX12_made_23 rfl (lv_at hl 0 rfl) ?_
  refine va_get hx hb hts hinX12 hown hK (hM.Pa hR_8.o.1 (hg_10 0 0 (by unfold mU; omega) (by decide)) hR_8.o.2) 0 rfl rfl 5 (by decide) (hk4) (fun _ h9 => h9) rfl dX12_made_24 ?_
  refine lv_iload hx hb dX12_made_27 (lv_at hl 5 rfl) ?_
  refine lv_aload_n hx hb dX12_made_29 rfl (lv_at hl 0 rfl) ?_
  refine lv_iload_n hx hb dX12_made_30 rfl (lv_at hl 1 rfl) ?_
  have h_16 := c_X12_tier l D ty A u_2 C_3 ma_4 t0 mi g n1 n2 nL n4 n5 th rep bro hR_8 (nI R)
  first | dsimp only at h_16 | skip
  rw [(show ma_4 0 0 = ma 0 0 from (hg_10 0 0 (by unfold mU; omega) (by decide)))] at h_16
  refine zcV9 (As := [.int (nI R)]) (rest := [.int (nI P), .int (g 0 0), .int rw0, .int F, .int (nI (nV g i) - nI 1), .int (nI i), .int (nI R), .ref q_1, .ref q_1]) ⟨hx, hb, hml, hown, hts⟩ (h_16) (cwV 1 hts gX12_made_X12_tier rfl rfl rfl (by decide +kernel) ⟨Nat.le_of_ble_eq_true rfl, Nat.le_of_ble_eq_true rfl⟩) mI_blind (mI_pre hM hK hMS hS) (va_recv hK (hM.Pa hR_8.o.1 (hg_10 0 0 (by unfold mU; omega) (by decide)) hR_8.o.2) (ci := 13) (q0 := 0) rfl rfl) rfl hl.1 rfl (Nat.le_of_ble_eq_true rfl) dX12_made_31 ⟨Nat.le_of_ble_eq_true rfl, Nat.le_of_ble_eq_true rfl⟩ (Nat.le_of_ble_eq_true rfl) (fun r_17 hr_17 => ?_)
  subst hr_17
  have h_18 := c_X9_init l D ty A u_2 C_3 ma_4 t0 mi n5 hu_5 hC_6 (nI R) (nI i) (nI (nV g i) - nI 1) F rw0 (g 0 0) (nI P) (tierN (sumN (fUn g (nI R) (g 0 0)) n5))
  first | dsimp only at h_18 | skip
  rw [(show ma_4 26 n5 = q_1 from ha_7)] at h_18
  refine va_callv (va_runI (As := [.int (nI R), .int (nI i), .int (nI (nV g i) - nI 1), .int F, .int rw0, .int (g 0 0), .int (nI P), .int (tierN (sumN (fUn g (nI R) (g 0 0)) n5))]) (rest := [.ref q_1]) ⟨hx, hb, hml, hown, hts⟩ (h_18) (cwI 8 hts gX12_made_X9_init rfl rfl rfl (hts (.initialized RX9) (by decide +kernel)) (hts (.methodLink RX12 233 yX9_init) (by decide +kernel)) (hts (.instanceMethod yX9_init) (by decide +kernel)) rfl (by decide +kernel) ⟨Nat.le_of_ble_eq_true rfl, Nat.le_of_ble_eq_true rfl⟩) ⟨zBl mI_blind, fun U h1 h2 => ⟨rfl, mI_pre hM hK hMS hS U h1 h2⟩⟩ rfl rfl hl.1 rfl (lv_room (Nat.le_of_ble_eq_true rfl)) dX12_made_34 ⟨Nat.le_of_ble_eq_true rfl, Nat.le_of_ble_eq_true rfl⟩) hS (fun _ _ h => h) (fun _ h => h) (fun S_19 t H1 locs ht hvm hw hB9 hz1 hk1 hS => ?_)
  obtain ⟨q_20, rfl⟩ := hw
  obtain ⟨hM, -, -⟩ := hB9
  rw [ht] at hM
  clear hk1 hz1 hvm ht
  clear t
  generalize H1 = H at hM hS ⊢
  obtain ⟨u_21, eu_21⟩ : ∃ z, z = upU u_2 27 n5 := ⟨_, rfl⟩
  obtain ⟨C_22, eC_22⟩ : ∃ z, z = up2 C_3 27 n5 (eI (ty 0) 6 (fun _ => 0)) := ⟨_, rfl⟩
  obtain ⟨ma_23, ema_23⟩ : ∃ z, z = up2 ma_4 27 n5 q_20 := ⟨_, rfl⟩
  have hu_24 : u_21 26 n5 := by rw [eu_21]; exact upU_o hu_5
  have hC_25 : C_22 26 n5 = eO 10 [.int 0, .int 0, .int 0, .int 0, .int 0, .int 0, .int 0, .int 0, .null, .int 0] := by rw [eC_22, up2_n _ _ (fun z => by omega)]; exact hC_6
  have ha_26 : ma_23 26 n5 = q_1 := by rw [ema_23, up2_n _ _ (fun z => by omega)]; exact ha_7
  have hu_27 : u_21 27 n5 := by rw [eu_21]; exact upU_s
  have hC_28 : C_22 27 n5 = eI (ty 0) 6 (fun _ => 0) := by rw [eC_22]; exact up2_s _ _ _ _
  have ha_29 : ma_23 27 n5 = q_20 := by rw [ema_23]; exact up2_s _ _ _ _
  have hR_30 : mR ty t0 g n1 n2 nL n4 n5 th rep bro u_21 C_22 ma_23 := hR_8.ext (fun k9 x9 hm hu => ⟨by rw [eu_21]; exact upU_o hu, by rw [eC_22]; exact up2_n _ _ (fun z => by unfold mU at hm; omega), by rw [ema_23]; exact up2_n _ _ (fun z => by unfold mU at hm; omega)⟩)
  have hg_32 : ∀ k9 x9, mU g n1 n2 nL n4 n5 k9 x9 → (k9 ≠ 2 ∧ k9 ≠ 4 ∧ k9 ≠ 6 ∧ k9 ≠ 8) → ma_23 k9 x9 = ma k9 x9 := fun k9 x9 hm hn => by rw [ema_23, up2_n _ _ (fun z => by unfold mU at hm; omega)]; exact hg_10 k9 x9 hm hn
  obtain ⟨C_33, eC_33⟩ : ∃ z, z = up2 C_22 26 n5 (eO 10 [.int (nI R), .int (nI i), .int (nI (nV g i) - nI 1), .int F, .int rw0, .int (g 0 0), .int (nI P), .int (tierN (sumN (fUn g (nI R) (g 0 0)) n5)), .ref q_20, .int (nI 0)]) := ⟨_, rfl⟩
  have hC_34 : C_33 26 n5 = eO 10 [.int (nI R), .int (nI i), .int (nI (nV g i) - nI 1), .int F, .int rw0, .int (g 0 0), .int (nI P), .int (tierN (sumN (fUn g (nI R) (g 0 0)) n5)), .ref q_20, .int (nI 0)] := by rw [eC_33]; exact up2_s _ _ _ _
  have hC_35 : C_33 27 n5 = eI (ty 0) 6 (fun _ => 0) := by rw [eC_33, up2_n _ _ (fun z => by omega)]; exact hC_28
  have hR_36 : mR ty t0 g n1 n2 nL n4 n5 th rep bro u_21 C_33 ma_23 := hR_30.ext (fun k9 x9 hm hu => ⟨hu, by rw [eC_33]; exact up2_n _ _ (fun z => by unfold mU at hm; omega), rfl⟩)
  have hM : mW D A u_21 C_33 ma_23 H := by rw [eC_33, eC_22, eu_21, ema_23]; exact hM
  refine lv_astore (lv' := [(6, .ref q_1), (0, .ref (ma 0 0)), (1, .int (nI R)), (2, .int (nI i)), (3, .int F), (4, .int rw0), (5, .int (nI P))]) hx hb dX12_made_37 hl (by decide) rfl (fun ls hl => ?_)
  refine lv_iconst (v := nI 0) hx hb dX12_made_39 (by decide) ?_
  refine lv_istore (lv' := [(7, .int (nI 0)), (6, .ref q_1), (0, .ref (ma 0 0)), (1, .int (nI R)), (2, .int (nI i)), (3, .int F), (4, .int rw0), (5, .int (nI P))]) hx hb dX12_made_40 hl (by decide) rfl (fun ls hl => ?_)
  refine lv_iload hx hb dX12_made_42 (lv_at hl 0 rfl) ?_
  refine lv_bipush (v := nI 6) hx hb dX12_made_44 (by decide) ?_
  refine lv_icmp_ge (tgt := 100) hx hb dX12_made_46 (by decide) (fun c_38 => ?_) (fun c_38 => ?_)
  · have c_38 := zn_geT (a := 0) (b := 6) (by omega) (by omega) c_38
    omega
  · have c_38 := zn_geF (a := 0) (b := 6) (by omega) (by omega) c_38
    refine lv_aload hx hb dX12_made_49 (lv_at hl 1 rfl) ?_
    refine va_get hx hb hts hinX9 hown hK (hM.Pa hu_24 ha_26 hC_34) 0 rfl rfl 8 (by decide) (hk5) (fun _ h9 => h9) rfl dX12_made_51 ?_
    refine lv_iload hx hb dX12_made_54 (lv_at hl 0 rfl) ?_
    refine lv_iload_n hx hb dX12_made_56 rfl (lv_at hl 5 rfl) ?_
    refine lv_iload hx hb dX12_made_57 (lv_at hl 0 rfl) ?_
    refine lv_ishr hx hb dX12_made_59 ?_
    refine lv_iconst (v := nI 1) hx hb dX12_made_60 (by decide) ?_
    refine lv_iand hx hb dX12_made_61 ?_
    refine lv_iload hx hb dX12_made_62 (lv_at hl 6 rfl) ?_
    refine lv_aload_n hx hb dX12_made_64 rfl (lv_at hl 2 rfl) ?_
    refine va_get hx hb hts hinX12 hown hK (hM.Pa hR_36.o.1 (hg_32 0 0 (by unfold mU; omega) (by decide)) hR_36.o.2) 0 rfl rfl 1 (by decide) (hk2) (fun _ h9 => h9) rfl dX12_made_65 ?_
    refine zeqv (y := .ref (ma 1 0)) (congrArg Value.ref (hg_32 1 0 (by unfold mU; omega) (by decide))) ?_
    refine lv_iload_n hx hb dX12_made_68 rfl (lv_at hl 4 rfl) ?_
    have h_39 := c_get l D ty A u_21 C_33 ma_23 t0 mi 1 0 n1 (ma_23 9) hR_36.l1 i (by omega)
    first | dsimp only at h_39 | skip
    rw [(show ma_23 1 0 = ma 1 0 from (hg_32 1 0 (by unfold mU; omega) (by decide))), (show ma_23 9 i = ma 9 i from (hg_32 9 i (by unfold mU; omega) (by decide)))] at h_39
    obtain ⟨huz_40, hnz_40, mz_40, bz_40, hCz_40⟩ := isL.hd hR_36.l1
    refine zcVr (x := .ref (ma 9 i)) (As := [.int (nI i)]) (rest := [.int rw0, .int ((F >>> ((nI 0) &&& 31)) &&& (nI 1)), .int (nI 0), .ref q_20]) ⟨hx, hb, hml, hown, hts⟩ (h_39) (cwV 1 hts gX12_made_Jx4a65c_get_915e3 rfl rfl rfl (by decide +kernel) ⟨Nat.le_of_ble_eq_true rfl, Nat.le_of_ble_eq_true rfl⟩) mI_blind (mI_pre hM hK hMS hS) (va_recv hK (hM.Pa huz_40 (hg_32 1 0 (by unfold mU; omega) (by decide)) hCz_40) (ci := 0) (q0 := 0) rfl rfl) rfl hl.1 rfl (Nat.le_of_ble_eq_true rfl) dX12_made_69 ⟨Nat.le_of_ble_eq_true rfl, Nat.le_of_ble_eq_true rfl⟩ ?_
    refine va_castS hx hb hown (hk3) ((hK.1 8 _ rfl).2) (va_recv hK (hM.Pa (hR_36.s9 (i := i) (by omega)).1 (hg_32 9 i (by unfold mU; omega) (by decide)) (hR_36.s9 (i := i) (by omega)).2) (ci := 8) (q0 := 0) rfl rfl) dX12_made_72 ?_
    refine va_get hx hb hts hinX7 hown hK (hM.Pa (hR_36.s9 (i := i) (by omega)).1 (hg_32 9 i (by unfold mU; omega) (by decide)) (hR_36.s9 (i := i) (by omega)).2) 0 rfl rfl 1 (by decide) (hk7) (fun _ h9 => h9) rfl dX12_made_75 ?_
    refine zeqv (y := .ref (ma 10 i)) (congrArg Value.ref (hg_32 10 i (by unfold mU; omega) (by decide))) ?_
    refine lv_iload hx hb dX12_made_78 (lv_at hl 0 rfl) ?_
    refine zald hx hb hK (hM.Pa (hR_36.s10 (i := i) (by omega)).1 (hg_32 10 i (by unfold mU; omega) (by decide)) (hR_36.s10 (i := i) (by omega)).2) 0 0 rfl rfl (i := 0) (by omega) (by omega) dX12_made_80 ?_
    refine zeq (row6_at (by omega)) ?_
    refine lv_imul hx hb dX12_made_81 ?_
    refine lv_aload hx hb dX12_made_82 (lv_at hl 1 rfl) ?_
    refine va_get hx hb hts hinX9 hown hK (hM.Pa hu_24 ha_26 hC_34) 0 rfl rfl 7 (by decide) (hk8) (fun _ h9 => h9) rfl dX12_made_84 ?_
    refine lv_imul hx hb dX12_made_87 ?_
    refine lv_sipush (v := nI 400) hx hb dX12_made_88 (by decide) ?_
    refine lv_idiv hx hb dX12_made_91 (by decide) ?_
    refine lv_imul hx hb dX12_made_92 ?_
    refine miast hx hb hK hM hS hu_27 ha_29 0 hC_35 rfl (i := 0) (by omega) (by omega) dX12_made_93 (fun H locs hM hS ho => ?_)
    obtain ⟨C_42, eC_42⟩ : ∃ z, z = up2 C_33 27 n5 (eI (ty 0) 6 (upd (fun _ => 0) 0 (((F >>> ((nI 0) &&& 31)) &&& (nI 1)) * (((rw0 * (g 10 (i * 6 + 0))) * (tierN (sumN (fUn g (nI R) (g 0 0)) n5))) / (nI 400))))) := ⟨_, rfl⟩
    have hM : mW D A u_21 C_42 ma_23 H := by rw [eC_42]; exact hM
    have hC_43 : C_42 26 n5 = eO 10 [.int (nI R), .int (nI i), .int (nI (nV g i) - nI 1), .int F, .int rw0, .int (g 0 0), .int (nI P), .int (tierN (sumN (fUn g (nI R) (g 0 0)) n5)), .ref q_20, .int (nI 0)] := by rw [eC_42, up2_n _ _ (fun z => by omega)]; exact hC_34
    have hC_44 : C_42 27 n5 = eI (ty 0) 6 (upd (fun _ => 0) 0 (((F >>> ((nI 0) &&& 31)) &&& (nI 1)) * (((rw0 * (g 10 (i * 6 + 0))) * (tierN (sumN (fUn g (nI R) (g 0 0)) n5))) / (nI 400)))) := by rw [eC_42]; exact up2_s _ _ _ _
    have hR_45 : mR ty t0 g n1 n2 nL n4 n5 th rep bro u_21 C_42 ma_23 := hR_36.ext (fun k9 x9 hm hu => ⟨hu, by rw [eC_42]; exact up2_n _ _ (fun z => by unfold mU at hm; omega), rfl⟩)
    refine lv_iinc (v := nI 1) (lv' := [(7, .int (nI 1)), (6, .ref q_1), (0, .ref (ma 0 0)), (1, .int (nI R)), (2, .int (nI i)), (3, .int F), (4, .int rw0), (5, .int (nI P))]) hx hb dX12_made_94 hl (k := 0) rfl (nI_add 0 1) (by decide) rfl (fun ls hl => ?_)
    refine lv_goto (tgt := 42) hx hb dX12_made_97 (by decide) ?_
    refine lv_iload hx hb dX12_made_42 (lv_at hl 0 rfl) ?_
    refine lv_bipush (v := nI 6) hx hb dX12_made_44 (by decide) ?_
    refine lv_icmp_ge (tgt := 100) hx hb dX12_made_46 (by decide) (fun c_47 => ?_) (fun c_47 => ?_)
    · have c_47 := zn_geT (a := 1) (b := 6) (by omega) (by omega) c_47
      omega
    · have c_47 := zn_geF (a := 1) (b := 6) (by omega) (by omega) c_47
      refine lv_aload hx hb dX12_made_49 (lv_at hl 1 rfl) ?_
      refine va_get hx hb hts hinX9 hown hK (hM.Pa hu_24 ha_26 hC_43) 0 rfl rfl 8 (by decide) (hk5) (fun _ h9 => h9) rfl dX12_made_51 ?_
      refine lv_iload hx hb dX12_made_54 (lv_at hl 0 rfl) ?_
      refine lv_iload_n hx hb dX12_made_56 rfl (lv_at hl 5 rfl) ?_
      refine lv_iload hx hb dX12_made_57 (lv_at hl 0 rfl) ?_
      refine lv_ishr hx hb dX12_made_59 ?_
      refine lv_iconst (v := nI 1) hx hb dX12_made_60 (by decide) ?_
      refine lv_iand hx hb dX12_made_61 ?_
      refine lv_iload hx hb dX12_made_62 (lv_at hl 6 rfl) ?_
      refine lv_aload_n hx hb dX12_made_64 rfl (lv_at hl 2 rfl) ?_
      refine va_get hx hb hts hinX12 hown hK (hM.Pa hR_45.o.1 (hg_32 0 0 (by unfold mU; omega) (by decide)) hR_45.o.2) 0 rfl rfl 1 (by decide) (hk2) (fun _ h9 => h9) rfl dX12_made_65 ?_
      refine zeqv (y := .ref (ma 1 0)) (congrArg Value.ref (hg_32 1 0 (by unfold mU; omega) (by decide))) ?_
      refine lv_iload_n hx hb dX12_made_68 rfl (lv_at hl 4 rfl) ?_
      have h_48 := c_get l D ty A u_21 C_42 ma_23 t0 mi 1 0 n1 (ma_23 9) hR_45.l1 i (by omega)
      first | dsimp only at h_48 | skip
      rw [(show ma_23 1 0 = ma 1 0 from (hg_32 1 0 (by unfold mU; omega) (by decide))), (show ma_23 9 i = ma 9 i from (hg_32 9 i (by unfold mU; omega) (by decide)))] at h_48
      obtain ⟨huz_49, hnz_49, mz_49, bz_49, hCz_49⟩ := isL.hd hR_45.l1
      refine zcVr (x := .ref (ma 9 i)) (As := [.int (nI i)]) (rest := [.int rw0, .int ((F >>> ((nI 1) &&& 31)) &&& (nI 1)), .int (nI 1), .ref q_20]) ⟨hx, hb, hml, hown, hts⟩ (h_48) (cwV 1 hts gX12_made_Jx4a65c_get_915e3 rfl rfl rfl (by decide +kernel) ⟨Nat.le_of_ble_eq_true rfl, Nat.le_of_ble_eq_true rfl⟩) mI_blind (mI_pre hM hK hMS hS) (va_recv hK (hM.Pa huz_49 (hg_32 1 0 (by unfold mU; omega) (by decide)) hCz_49) (ci := 0) (q0 := 0) rfl rfl) rfl hl.1 rfl (Nat.le_of_ble_eq_true rfl) dX12_made_69 ⟨Nat.le_of_ble_eq_true rfl, Nat.le_of_ble_eq_true rfl⟩ ?_
      refine va_castS hx hb hown (hk3) ((hK.1 8 _ rfl).2) (va_recv hK (hM.Pa (hR_45.s9 (i := i) (by omega)).1 (hg_32 9 i (by unfold mU; omega) (by decide)) (hR_45.s9 (i := i) (by omega)).2) (ci := 8) (q0 := 0) rfl rfl) dX12_made_72 ?_
      refine va_get hx hb hts hinX7 hown hK (hM.Pa (hR_45.s9 (i := i) (by omega)).1 (hg_32 9 i (by unfold mU; omega) (by decide)) (hR_45.s9 (i := i) (by omega)).2) 0 rfl rfl 1 (by decide) (hk7) (fun _ h9 => h9) rfl dX12_made_75 ?_
      refine zeqv (y := .ref (ma 10 i)) (congrArg Value.ref (hg_32 10 i (by unfold mU; omega) (by decide))) ?_
      refine lv_iload hx hb dX12_made_78 (lv_at hl 0 rfl) ?_
      refine zald hx hb hK (hM.Pa (hR_45.s10 (i := i) (by omega)).1 (hg_32 10 i (by unfold mU; omega) (by decide)) (hR_45.s10 (i := i) (by omega)).2) 0 0 rfl rfl (i := 1) (by omega) (by omega) dX12_made_80 ?_
      refine zeq (row6_at (by omega)) ?_
      refine lv_imul hx hb dX12_made_81 ?_
      refine lv_aload hx hb dX12_made_82 (lv_at hl 1 rfl) ?_
      refine va_get hx hb hts hinX9 hown hK (hM.Pa hu_24 ha_26 hC_43) 0 rfl rfl 7 (by decide) (hk8) (fun _ h9 => h9) rfl dX12_made_84 ?_
      refine lv_imul hx hb dX12_made_87 ?_
      refine lv_sipush (v := nI 400) hx hb dX12_made_88 (by decide) ?_
      refine lv_idiv hx hb dX12_made_91 (by decide) ?_
      refine lv_imul hx hb dX12_made_92 ?_
      refine miast hx hb hK hM hS hu_27 ha_29 0 hC_44 rfl (i := 1) (by omega) (by omega) dX12_made_93 (fun H locs hM hS ho => ?_)
      obtain ⟨C_51, eC_51⟩ : ∃ z, z = up2 C_42 27 n5 (eI (ty 0) 6 (upd (upd (fun _ => 0) 0 (((F >>> ((nI 0) &&& 31)) &&& (nI 1)) * (((rw0 * (g 10 (i * 6 + 0))) * (tierN (sumN (fUn g (nI R) (g 0 0)) n5))) / (nI 400)))) 1 (((F >>> ((nI 1) &&& 31)) &&& (nI 1)) * (((rw0 * (g 10 (i * 6 + 1))) * (tierN (sumN (fUn g (nI R) (g 0 0)) n5))) / (nI 400))))) := ⟨_, rfl⟩
      have hM : mW D A u_21 C_51 ma_23 H := by rw [eC_51]; exact hM
      have hC_52 : C_51 26 n5 = eO 10 [.int (nI R), .int (nI i), .int (nI (nV g i) - nI 1), .int F, .int rw0, .int (g 0 0), .int (nI P), .int (tierN (sumN (fUn g (nI R) (g 0 0)) n5)), .ref q_20, .int (nI 0)] := by rw [eC_51, up2_n _ _ (fun z => by omega)]; exact hC_43
      have hC_53 : C_51 27 n5 = eI (ty 0) 6 (upd (upd (fun _ => 0) 0 (((F >>> ((nI 0) &&& 31)) &&& (nI 1)) * (((rw0 * (g 10 (i * 6 + 0))) * (tierN (sumN (fUn g (nI R) (g 0 0)) n5))) / (nI 400)))) 1 (((F >>> ((nI 1) &&& 31)) &&& (nI 1)) * (((rw0 * (g 10 (i * 6 + 1))) * (tierN (sumN (fUn g (nI R) (g 0 0)) n5))) / (nI 400)))) := by rw [eC_51]; exact up2_s _ _ _ _
      have hR_54 : mR ty t0 g n1 n2 nL n4 n5 th rep bro u_21 C_51 ma_23 := hR_45.ext (fun k9 x9 hm hu => ⟨hu, by rw [eC_51]; exact up2_n _ _ (fun z => by unfold mU at hm; omega), rfl⟩)
      refine lv_iinc (v := nI 2) (lv' := [(7, .int (nI 2)), (6, .ref q_1), (0, .ref (ma 0 0)), (1, .int (nI R)), (2, .int (nI i)), (3, .int F), (4, .int rw0), (5, .int (nI P))]) hx hb dX12_made_94 hl (k := 0) rfl (nI_add 1 1) (by decide) rfl (fun ls hl => ?_)
      refine lv_goto (tgt := 42) hx hb dX12_made_97 (by decide) ?_
      refine lv_iload hx hb dX12_made_42 (lv_at hl 0 rfl) ?_
      refine lv_bipush (v := nI 6) hx hb dX12_made_44 (by decide) ?_
      refine lv_icmp_ge (tgt := 100) hx hb dX12_made_46 (by decide) (fun c_56 => ?_) (fun c_56 => ?_)
      · have c_56 := zn_geT (a := 2) (b := 6) (by omega) (by omega) c_56
        omega
      · have c_56 := zn_geF (a := 2) (b := 6) (by omega) (by omega) c_56
        refine lv_aload hx hb dX12_made_49 (lv_at hl 1 rfl) ?_
        refine va_get hx hb hts hinX9 hown hK (hM.Pa hu_24 ha_26 hC_52) 0 rfl rfl 8 (by decide) (hk5) (fun _ h9 => h9) rfl dX12_made_51 ?_
        refine lv_iload hx hb dX12_made_54 (lv_at hl 0 rfl) ?_
        refine lv_iload_n hx hb dX12_made_56 rfl (lv_at hl 5 rfl) ?_
        refine lv_iload hx hb dX12_made_57 (lv_at hl 0 rfl) ?_
        refine lv_ishr hx hb dX12_made_59 ?_
        refine lv_iconst (v := nI 1) hx hb dX12_made_60 (by decide) ?_
        refine lv_iand hx hb dX12_made_61 ?_
        refine lv_iload hx hb dX12_made_62 (lv_at hl 6 rfl) ?_
        refine lv_aload_n hx hb dX12_made_64 rfl (lv_at hl 2 rfl) ?_
        refine va_get hx hb hts hinX12 hown hK (hM.Pa hR_54.o.1 (hg_32 0 0 (by unfold mU; omega) (by decide)) hR_54.o.2) 0 rfl rfl 1 (by decide) (hk2) (fun _ h9 => h9) rfl dX12_made_65 ?_
        refine zeqv (y := .ref (ma 1 0)) (congrArg Value.ref (hg_32 1 0 (by unfold mU; omega) (by decide))) ?_
        refine lv_iload_n hx hb dX12_made_68 rfl (lv_at hl 4 rfl) ?_
        have h_57 := c_get l D ty A u_21 C_51 ma_23 t0 mi 1 0 n1 (ma_23 9) hR_54.l1 i (by omega)
        first | dsimp only at h_57 | skip
        rw [(show ma_23 1 0 = ma 1 0 from (hg_32 1 0 (by unfold mU; omega) (by decide))), (show ma_23 9 i = ma 9 i from (hg_32 9 i (by unfold mU; omega) (by decide)))] at h_57
        obtain ⟨huz_58, hnz_58, mz_58, bz_58, hCz_58⟩ := isL.hd hR_54.l1
        refine zcVr (x := .ref (ma 9 i)) (As := [.int (nI i)]) (rest := [.int rw0, .int ((F >>> ((nI 2) &&& 31)) &&& (nI 1)), .int (nI 2), .ref q_20]) ⟨hx, hb, hml, hown, hts⟩ (h_57) (cwV 1 hts gX12_made_Jx4a65c_get_915e3 rfl rfl rfl (by decide +kernel) ⟨Nat.le_of_ble_eq_true rfl, Nat.le_of_ble_eq_true rfl⟩) mI_blind (mI_pre hM hK hMS hS) (va_recv hK (hM.Pa huz_58 (hg_32 1 0 (by unfold mU; omega) (by decide)) hCz_58) (ci := 0) (q0 := 0) rfl rfl) rfl hl.1 rfl (Nat.le_of_ble_eq_true rfl) dX12_made_69 ⟨Nat.le_of_ble_eq_true rfl, Nat.le_of_ble_eq_true rfl⟩ ?_
        refine va_castS hx hb hown (hk3) ((hK.1 8 _ rfl).2) (va_recv hK (hM.Pa (hR_54.s9 (i := i) (by omega)).1 (hg_32 9 i (by unfold mU; omega) (by decide)) (hR_54.s9 (i := i) (by omega)).2) (ci := 8) (q0 := 0) rfl rfl) dX12_made_72 ?_
        refine va_get hx hb hts hinX7 hown hK (hM.Pa (hR_54.s9 (i := i) (by omega)).1 (hg_32 9 i (by unfold mU; omega) (by decide)) (hR_54.s9 (i := i) (by omega)).2) 0 rfl rfl 1 (by decide) (hk7) (fun _ h9 => h9) rfl dX12_made_75 ?_
        refine zeqv (y := .ref (ma 10 i)) (congrArg Value.ref (hg_32 10 i (by unfold mU; omega) (by decide))) ?_
        refine lv_iload hx hb dX12_made_78 (lv_at hl 0 rfl) ?_
        refine zald hx hb hK (hM.Pa (hR_54.s10 (i := i) (by omega)).1 (hg_32 10 i (by unfold mU; omega) (by decide)) (hR_54.s10 (i := i) (by omega)).2) 0 0 rfl rfl (i := 2) (by omega) (by omega) dX12_made_80 ?_
        refine zeq (row6_at (by omega)) ?_
        refine lv_imul hx hb dX12_made_81 ?_
        refine lv_aload hx hb dX12_made_82 (lv_at hl 1 rfl) ?_
        refine va_get hx hb hts hinX9 hown hK (hM.Pa hu_24 ha_26 hC_52) 0 rfl rfl 7 (by decide) (hk8) (fun _ h9 => h9) rfl dX12_made_84 ?_
        refine lv_imul hx hb dX12_made_87 ?_
        refine lv_sipush (v := nI 400) hx hb dX12_made_88 (by decide) ?_
        refine lv_idiv hx hb dX12_made_91 (by decide) ?_
        refine lv_imul hx hb dX12_made_92 ?_
        refine miast hx hb hK hM hS hu_27 ha_29 0 hC_53 rfl (i := 2) (by omega) (by omega) dX12_made_93 (fun H locs hM hS ho => ?_)
        obtain ⟨C_60, eC_60⟩ : ∃ z, z = up2 C_51 27 n5 (eI (ty 0) 6 (upd (upd (upd (fun _ => 0) 0 (((F >>> ((nI 0) &&& 31)) &&& (nI 1)) * (((rw0 * (g 10 (i * 6 + 0))) * (tierN (sumN (fUn g (nI R) (g 0 0)) n5))) / (nI 400)))) 1 (((F >>> ((nI 1) &&& 31)) &&& (nI 1)) * (((rw0 * (g 10 (i * 6 + 1))) * (tierN (sumN (fUn g (nI R) (g 0 0)) n5))) / (nI 400)))) 2 (((F >>> ((nI 2) &&& 31)) &&& (nI 1)) * (((rw0 * (g 10 (i * 6 + 2))) * (tierN (sumN (fUn g (nI R) (g 0 0)) n5))) / (nI 400))))) := ⟨_, rfl⟩
        have hM : mW D A u_21 C_60 ma_23 H := by rw [eC_60]; exact hM
        have hC_61 : C_60 26 n5 = eO 10 [.int (nI R), .int (nI i), .int (nI (nV g i) - nI 1), .int F, .int rw0, .int (g 0 0), .int (nI P), .int (tierN (sumN (fUn g (nI R) (g 0 0)) n5)), .ref q_20, .int (nI 0)] := by rw [eC_60, up2_n _ _ (fun z => by omega)]; exact hC_52
        have hC_62 : C_60 27 n5 = eI (ty 0) 6 (upd (upd (upd (fun _ => 0) 0 (((F >>> ((nI 0) &&& 31)) &&& (nI 1)) * (((rw0 * (g 10 (i * 6 + 0))) * (tierN (sumN (fUn g (nI R) (g 0 0)) n5))) / (nI 400)))) 1 (((F >>> ((nI 1) &&& 31)) &&& (nI 1)) * (((rw0 * (g 10 (i * 6 + 1))) * (tierN (sumN (fUn g (nI R) (g 0 0)) n5))) / (nI 400)))) 2 (((F >>> ((nI 2) &&& 31)) &&& (nI 1)) * (((rw0 * (g 10 (i * 6 + 2))) * (tierN (sumN (fUn g (nI R) (g 0 0)) n5))) / (nI 400)))) := by rw [eC_60]; exact up2_s _ _ _ _
        have hR_63 : mR ty t0 g n1 n2 nL n4 n5 th rep bro u_21 C_60 ma_23 := hR_54.ext (fun k9 x9 hm hu => ⟨hu, by rw [eC_60]; exact up2_n _ _ (fun z => by unfold mU at hm; omega), rfl⟩)
        refine lv_iinc (v := nI 3) (lv' := [(7, .int (nI 3)), (6, .ref q_1), (0, .ref (ma 0 0)), (1, .int (nI R)), (2, .int (nI i)), (3, .int F), (4, .int rw0), (5, .int (nI P))]) hx hb dX12_made_94 hl (k := 0) rfl (nI_add 2 1) (by decide) rfl (fun ls hl => ?_)
        refine lv_goto (tgt := 42) hx hb dX12_made_97 (by decide) ?_
        refine lv_iload hx hb dX12_made_42 (lv_at hl 0 rfl) ?_
        refine lv_bipush (v := nI 6) hx hb dX12_made_44 (by decide) ?_
        refine lv_icmp_ge (tgt := 100) hx hb dX12_made_46 (by decide) (fun c_65 => ?_) (fun c_65 => ?_)
        · have c_65 := zn_geT (a := 3) (b := 6) (by omega) (by omega) c_65
          omega
        · have c_65 := zn_geF (a := 3) (b := 6) (by omega) (by omega) c_65
          refine lv_aload hx hb dX12_made_49 (lv_at hl 1 rfl) ?_
          refine va_get hx hb hts hinX9 hown hK (hM.Pa hu_24 ha_26 hC_61) 0 rfl rfl 8 (by decide) (hk5) (fun _ h9 => h9) rfl dX12_made_51 ?_
          refine lv_iload hx hb dX12_made_54 (lv_at hl 0 rfl) ?_
          refine lv_iload_n hx hb dX12_made_56 rfl (lv_at hl 5 rfl) ?_
          refine lv_iload hx hb dX12_made_57 (lv_at hl 0 rfl) ?_
          refine lv_ishr hx hb dX12_made_59 ?_
          refine lv_iconst (v := nI 1) hx hb dX12_made_60 (by decide) ?_
          refine lv_iand hx hb dX12_made_61 ?_
          refine lv_iload hx hb dX12_made_62 (lv_at hl 6 rfl) ?_
          refine lv_aload_n hx hb dX12_made_64 rfl (lv_at hl 2 rfl) ?_
          refine va_get hx hb hts hinX12 hown hK (hM.Pa hR_63.o.1 (hg_32 0 0 (by unfold mU; omega) (by decide)) hR_63.o.2) 0 rfl rfl 1 (by decide) (hk2) (fun _ h9 => h9) rfl dX12_made_65 ?_
          refine zeqv (y := .ref (ma 1 0)) (congrArg Value.ref (hg_32 1 0 (by unfold mU; omega) (by decide))) ?_
          refine lv_iload_n hx hb dX12_made_68 rfl (lv_at hl 4 rfl) ?_
          have h_66 := c_get l D ty A u_21 C_60 ma_23 t0 mi 1 0 n1 (ma_23 9) hR_63.l1 i (by omega)
          first | dsimp only at h_66 | skip
          rw [(show ma_23 1 0 = ma 1 0 from (hg_32 1 0 (by unfold mU; omega) (by decide))), (show ma_23 9 i = ma 9 i from (hg_32 9 i (by unfold mU; omega) (by decide)))] at h_66
          obtain ⟨huz_67, hnz_67, mz_67, bz_67, hCz_67⟩ := isL.hd hR_63.l1
          refine zcVr (x := .ref (ma 9 i)) (As := [.int (nI i)]) (rest := [.int rw0, .int ((F >>> ((nI 3) &&& 31)) &&& (nI 1)), .int (nI 3), .ref q_20]) ⟨hx, hb, hml, hown, hts⟩ (h_66) (cwV 1 hts gX12_made_Jx4a65c_get_915e3 rfl rfl rfl (by decide +kernel) ⟨Nat.le_of_ble_eq_true rfl, Nat.le_of_ble_eq_true rfl⟩) mI_blind (mI_pre hM hK hMS hS) (va_recv hK (hM.Pa huz_67 (hg_32 1 0 (by unfold mU; omega) (by decide)) hCz_67) (ci := 0) (q0 := 0) rfl rfl) rfl hl.1 rfl (Nat.le_of_ble_eq_true rfl) dX12_made_69 ⟨Nat.le_of_ble_eq_true rfl, Nat.le_of_ble_eq_true rfl⟩ ?_
          refine va_castS hx hb hown (hk3) ((hK.1 8 _ rfl).2) (va_recv hK (hM.Pa (hR_63.s9 (i := i) (by omega)).1 (hg_32 9 i (by unfold mU; omega) (by decide)) (hR_63.s9 (i := i) (by omega)).2) (ci := 8) (q0 := 0) rfl rfl) dX12_made_72 ?_
          refine va_get hx hb hts hinX7 hown hK (hM.Pa (hR_63.s9 (i := i) (by omega)).1 (hg_32 9 i (by unfold mU; omega) (by decide)) (hR_63.s9 (i := i) (by omega)).2) 0 rfl rfl 1 (by decide) (hk7) (fun _ h9 => h9) rfl dX12_made_75 ?_
          refine zeqv (y := .ref (ma 10 i)) (congrArg Value.ref (hg_32 10 i (by unfold mU; omega) (by decide))) ?_
          refine lv_iload hx hb dX12_made_78 (lv_at hl 0 rfl) ?_
          refine zald hx hb hK (hM.Pa (hR_63.s10 (i := i) (by omega)).1 (hg_32 10 i (by unfold mU; omega) (by decide)) (hR_63.s10 (i := i) (by omega)).2) 0 0 rfl rfl (i := 3) (by omega) (by omega) dX12_made_80 ?_
          refine zeq (row6_at (by omega)) ?_
          refine lv_imul hx hb dX12_made_81 ?_
          refine lv_aload hx hb dX12_made_82 (lv_at hl 1 rfl) ?_
          refine va_get hx hb hts hinX9 hown hK (hM.Pa hu_24 ha_26 hC_61) 0 rfl rfl 7 (by decide) (hk8) (fun _ h9 => h9) rfl dX12_made_84 ?_
          refine lv_imul hx hb dX12_made_87 ?_
          refine lv_sipush (v := nI 400) hx hb dX12_made_88 (by decide) ?_
          refine lv_idiv hx hb dX12_made_91 (by decide) ?_
          refine lv_imul hx hb dX12_made_92 ?_
          refine miast hx hb hK hM hS hu_27 ha_29 0 hC_62 rfl (i := 3) (by omega) (by omega) dX12_made_93 (fun H locs hM hS ho => ?_)
          obtain ⟨C_69, eC_69⟩ : ∃ z, z = up2 C_60 27 n5 (eI (ty 0) 6 (upd (upd (upd (upd (fun _ => 0) 0 (((F >>> ((nI 0) &&& 31)) &&& (nI 1)) * (((rw0 * (g 10 (i * 6 + 0))) * (tierN (sumN (fUn g (nI R) (g 0 0)) n5))) / (nI 400)))) 1 (((F >>> ((nI 1) &&& 31)) &&& (nI 1)) * (((rw0 * (g 10 (i * 6 + 1))) * (tierN (sumN (fUn g (nI R) (g 0 0)) n5))) / (nI 400)))) 2 (((F >>> ((nI 2) &&& 31)) &&& (nI 1)) * (((rw0 * (g 10 (i * 6 + 2))) * (tierN (sumN (fUn g (nI R) (g 0 0)) n5))) / (nI 400)))) 3 (((F >>> ((nI 3) &&& 31)) &&& (nI 1)) * (((rw0 * (g 10 (i * 6 + 3))) * (tierN (sumN (fUn g (nI R) (g 0 0)) n5))) / (nI 400))))) := ⟨_, rfl⟩
          have hM : mW D A u_21 C_69 ma_23 H := by rw [eC_69]; exact hM
          have hC_70 : C_69 26 n5 = eO 10 [.int (nI R), .int (nI i), .int (nI (nV g i) - nI 1), .int F, .int rw0, .int (g 0 0), .int (nI P), .int (tierN (sumN (fUn g (nI R) (g 0 0)) n5)), .ref q_20, .int (nI 0)] := by rw [eC_69, up2_n _ _ (fun z => by omega)]; exact hC_61
          have hC_71 : C_69 27 n5 = eI (ty 0) 6 (upd (upd (upd (upd (fun _ => 0) 0 (((F >>> ((nI 0) &&& 31)) &&& (nI 1)) * (((rw0 * (g 10 (i * 6 + 0))) * (tierN (sumN (fUn g (nI R) (g 0 0)) n5))) / (nI 400)))) 1 (((F >>> ((nI 1) &&& 31)) &&& (nI 1)) * (((rw0 * (g 10 (i * 6 + 1))) * (tierN (sumN (fUn g (nI R) (g 0 0)) n5))) / (nI 400)))) 2 (((F >>> ((nI 2) &&& 31)) &&& (nI 1)) * (((rw0 * (g 10 (i * 6 + 2))) * (tierN (sumN (fUn g (nI R) (g 0 0)) n5))) / (nI 400)))) 3 (((F >>> ((nI 3) &&& 31)) &&& (nI 1)) * (((rw0 * (g 10 (i * 6 + 3))) * (tierN (sumN (fUn g (nI R) (g 0 0)) n5))) / (nI 400)))) := by rw [eC_69]; exact up2_s _ _ _ _
          have hR_72 : mR ty t0 g n1 n2 nL n4 n5 th rep bro u_21 C_69 ma_23 := hR_63.ext (fun k9 x9 hm hu => ⟨hu, by rw [eC_69]; exact up2_n _ _ (fun z => by unfold mU at hm; omega), rfl⟩)
          refine lv_iinc (v := nI 4) (lv' := [(7, .int (nI 4)), (6, .ref q_1), (0, .ref (ma 0 0)), (1, .int (nI R)), (2, .int (nI i)), (3, .int F), (4, .int rw0), (5, .int (nI P))]) hx hb dX12_made_94 hl (k := 0) rfl (nI_add 3 1) (by decide) rfl (fun ls hl => ?_)
          refine lv_goto (tgt := 42) hx hb dX12_made_97 (by decide) ?_
          refine lv_iload hx hb dX12_made_42 (lv_at hl 0 rfl) ?_
          refine lv_bipush (v := nI 6) hx hb dX12_made_44 (by decide) ?_
          refine lv_icmp_ge (tgt := 100) hx hb dX12_made_46 (by decide) (fun c_74 => ?_) (fun c_74 => ?_)
          · have c_74 := zn_geT (a := 4) (b := 6) (by omega) (by omega) c_74
            omega
          · have c_74 := zn_geF (a := 4) (b := 6) (by omega) (by omega) c_74
            refine lv_aload hx hb dX12_made_49 (lv_at hl 1 rfl) ?_
            refine va_get hx hb hts hinX9 hown hK (hM.Pa hu_24 ha_26 hC_70) 0 rfl rfl 8 (by decide) (hk5) (fun _ h9 => h9) rfl dX12_made_51 ?_
            refine lv_iload hx hb dX12_made_54 (lv_at hl 0 rfl) ?_
            refine lv_iload_n hx hb dX12_made_56 rfl (lv_at hl 5 rfl) ?_
            refine lv_iload hx hb dX12_made_57 (lv_at hl 0 rfl) ?_
            refine lv_ishr hx hb dX12_made_59 ?_
            refine lv_iconst (v := nI 1) hx hb dX12_made_60 (by decide) ?_
            refine lv_iand hx hb dX12_made_61 ?_
            refine lv_iload hx hb dX12_made_62 (lv_at hl 6 rfl) ?_
            refine lv_aload_n hx hb dX12_made_64 rfl (lv_at hl 2 rfl) ?_
            refine va_get hx hb hts hinX12 hown hK (hM.Pa hR_72.o.1 (hg_32 0 0 (by unfold mU; omega) (by decide)) hR_72.o.2) 0 rfl rfl 1 (by decide) (hk2) (fun _ h9 => h9) rfl dX12_made_65 ?_
            refine zeqv (y := .ref (ma 1 0)) (congrArg Value.ref (hg_32 1 0 (by unfold mU; omega) (by decide))) ?_
            refine lv_iload_n hx hb dX12_made_68 rfl (lv_at hl 4 rfl) ?_
            have h_75 := c_get l D ty A u_21 C_69 ma_23 t0 mi 1 0 n1 (ma_23 9) hR_72.l1 i (by omega)
            first | dsimp only at h_75 | skip
            rw [(show ma_23 1 0 = ma 1 0 from (hg_32 1 0 (by unfold mU; omega) (by decide))), (show ma_23 9 i = ma 9 i from (hg_32 9 i (by unfold mU; omega) (by decide)))] at h_75
            obtain ⟨huz_76, hnz_76, mz_76, bz_76, hCz_76⟩ := isL.hd hR_72.l1
            refine zcVr (x := .ref (ma 9 i)) (As := [.int (nI i)]) (rest := [.int rw0, .int ((F >>> ((nI 4) &&& 31)) &&& (nI 1)), .int (nI 4), .ref q_20]) ⟨hx, hb, hml, hown, hts⟩ (h_75) (cwV 1 hts gX12_made_Jx4a65c_get_915e3 rfl rfl rfl (by decide +kernel) ⟨Nat.le_of_ble_eq_true rfl, Nat.le_of_ble_eq_true rfl⟩) mI_blind (mI_pre hM hK hMS hS) (va_recv hK (hM.Pa huz_76 (hg_32 1 0 (by unfold mU; omega) (by decide)) hCz_76) (ci := 0) (q0 := 0) rfl rfl) rfl hl.1 rfl (Nat.le_of_ble_eq_true rfl) dX12_made_69 ⟨Nat.le_of_ble_eq_true rfl, Nat.le_of_ble_eq_true rfl⟩ ?_
            refine va_castS hx hb hown (hk3) ((hK.1 8 _ rfl).2) (va_recv hK (hM.Pa (hR_72.s9 (i := i) (by omega)).1 (hg_32 9 i (by unfold mU; omega) (by decide)) (hR_72.s9 (i := i) (by omega)).2) (ci := 8) (q0 := 0) rfl rfl) dX12_made_72 ?_
            refine va_get hx hb hts hinX7 hown hK (hM.Pa (hR_72.s9 (i := i) (by omega)).1 (hg_32 9 i (by unfold mU; omega) (by decide)) (hR_72.s9 (i := i) (by omega)).2) 0 rfl rfl 1 (by decide) (hk7) (fun _ h9 => h9) rfl dX12_made_75 ?_
            refine zeqv (y := .ref (ma 10 i)) (congrArg Value.ref (hg_32 10 i (by unfold mU; omega) (by decide))) ?_
            refine lv_iload hx hb dX12_made_78 (lv_at hl 0 rfl) ?_
            refine zald hx hb hK (hM.Pa (hR_72.s10 (i := i) (by omega)).1 (hg_32 10 i (by unfold mU; omega) (by decide)) (hR_72.s10 (i := i) (by omega)).2) 0 0 rfl rfl (i := 4) (by omega) (by omega) dX12_made_80 ?_
            refine zeq (row6_at (by omega)) ?_
            refine lv_imul hx hb dX12_made_81 ?_
            refine lv_aload hx hb dX12_made_82 (lv_at hl 1 rfl) ?_
            refine va_get hx hb hts hinX9 hown hK (hM.Pa hu_24 ha_26 hC_70) 0 rfl rfl 7 (by decide) (hk8) (fun _ h9 => h9) rfl dX12_made_84 ?_
            refine lv_imul hx hb dX12_made_87 ?_
            refine lv_sipush (v := nI 400) hx hb dX12_made_88 (by decide) ?_
            refine lv_idiv hx hb dX12_made_91 (by decide) ?_
            refine lv_imul hx hb dX12_made_92 ?_
            refine miast hx hb hK hM hS hu_27 ha_29 0 hC_71 rfl (i := 4) (by omega) (by omega) dX12_made_93 (fun H locs hM hS ho => ?_)
            obtain ⟨C_78, eC_78⟩ : ∃ z, z = up2 C_69 27 n5 (eI (ty 0) 6 (upd (upd (upd (upd (upd (fun _ => 0) 0 (((F >>> ((nI 0) &&& 31)) &&& (nI 1)) * (((rw0 * (g 10 (i * 6 + 0))) * (tierN (sumN (fUn g (nI R) (g 0 0)) n5))) / (nI 400)))) 1 (((F >>> ((nI 1) &&& 31)) &&& (nI 1)) * (((rw0 * (g 10 (i * 6 + 1))) * (tierN (sumN (fUn g (nI R) (g 0 0)) n5))) / (nI 400)))) 2 (((F >>> ((nI 2) &&& 31)) &&& (nI 1)) * (((rw0 * (g 10 (i * 6 + 2))) * (tierN (sumN (fUn g (nI R) (g 0 0)) n5))) / (nI 400)))) 3 (((F >>> ((nI 3) &&& 31)) &&& (nI 1)) * (((rw0 * (g 10 (i * 6 + 3))) * (tierN (sumN (fUn g (nI R) (g 0 0)) n5))) / (nI 400)))) 4 (((F >>> ((nI 4) &&& 31)) &&& (nI 1)) * (((rw0 * (g 10 (i * 6 + 4))) * (tierN (sumN (fUn g (nI R) (g 0 0)) n5))) / (nI 400))))) := ⟨_, rfl⟩
            have hM : mW D A u_21 C_78 ma_23 H := by rw [eC_78]; exact hM
            have hC_79 : C_78 26 n5 = eO 10 [.int (nI R), .int (nI i), .int (nI (nV g i) - nI 1), .int F, .int rw0, .int (g 0 0), .int (nI P), .int (tierN (sumN (fUn g (nI R) (g 0 0)) n5)), .ref q_20, .int (nI 0)] := by rw [eC_78, up2_n _ _ (fun z => by omega)]; exact hC_70
            have hC_80 : C_78 27 n5 = eI (ty 0) 6 (upd (upd (upd (upd (upd (fun _ => 0) 0 (((F >>> ((nI 0) &&& 31)) &&& (nI 1)) * (((rw0 * (g 10 (i * 6 + 0))) * (tierN (sumN (fUn g (nI R) (g 0 0)) n5))) / (nI 400)))) 1 (((F >>> ((nI 1) &&& 31)) &&& (nI 1)) * (((rw0 * (g 10 (i * 6 + 1))) * (tierN (sumN (fUn g (nI R) (g 0 0)) n5))) / (nI 400)))) 2 (((F >>> ((nI 2) &&& 31)) &&& (nI 1)) * (((rw0 * (g 10 (i * 6 + 2))) * (tierN (sumN (fUn g (nI R) (g 0 0)) n5))) / (nI 400)))) 3 (((F >>> ((nI 3) &&& 31)) &&& (nI 1)) * (((rw0 * (g 10 (i * 6 + 3))) * (tierN (sumN (fUn g (nI R) (g 0 0)) n5))) / (nI 400)))) 4 (((F >>> ((nI 4) &&& 31)) &&& (nI 1)) * (((rw0 * (g 10 (i * 6 + 4))) * (tierN (sumN (fUn g (nI R) (g 0 0)) n5))) / (nI 400)))) := by rw [eC_78]; exact up2_s _ _ _ _
            have hR_81 : mR ty t0 g n1 n2 nL n4 n5 th rep bro u_21 C_78 ma_23 := hR_72.ext (fun k9 x9 hm hu => ⟨hu, by rw [eC_78]; exact up2_n _ _ (fun z => by unfold mU at hm; omega), rfl⟩)
            refine lv_iinc (v := nI 5) (lv' := [(7, .int (nI 5)), (6, .ref q_1), (0, .ref (ma 0 0)), (1, .int (nI R)), (2, .int (nI i)), (3, .int F), (4, .int rw0), (5, .int (nI P))]) hx hb dX12_made_94 hl (k := 0) rfl (nI_add 4 1) (by decide) rfl (fun ls hl => ?_)
            refine lv_goto (tgt := 42) hx hb dX12_made_97 (by decide) ?_
            refine lv_iload hx hb dX12_made_42 (lv_at hl 0 rfl) ?_
            refine lv_bipush (v := nI 6) hx hb dX12_made_44 (by decide) ?_
            refine lv_icmp_ge (tgt := 100) hx hb dX12_made_46 (by decide) (fun c_83 => ?_) (fun c_83 => ?_)
            · have c_83 := zn_geT (a := 5) (b := 6) (by omega) (by omega) c_83
              omega
            · have c_83 := zn_geF (a := 5) (b := 6) (by omega) (by omega) c_83
              refine lv_aload hx hb dX12_made_49 (lv_at hl 1 rfl) ?_
              refine va_get hx hb hts hinX9 hown hK (hM.Pa hu_24 ha_26 hC_79) 0 rfl rfl 8 (by decide) (hk5) (fun _ h9 => h9) rfl dX12_made_51 ?_
              refine lv_iload hx hb dX12_made_54 (lv_at hl 0 rfl) ?_
              refine lv_iload_n hx hb dX12_made_56 rfl (lv_at hl 5 rfl) ?_
              refine lv_iload hx hb dX12_made_57 (lv_at hl 0 rfl) ?_
              refine lv_ishr hx hb dX12_made_59 ?_
              refine lv_iconst (v := nI 1) hx hb dX12_made_60 (by decide) ?_
              refine lv_iand hx hb dX12_made_61 ?_
              refine lv_iload hx hb dX12_made_62 (lv_at hl 6 rfl) ?_
              refine lv_aload_n hx hb dX12_made_64 rfl (lv_at hl 2 rfl) ?_
              refine va_get hx hb hts hinX12 hown hK (hM.Pa hR_81.o.1 (hg_32 0 0 (by unfold mU; omega) (by decide)) hR_81.o.2) 0 rfl rfl 1 (by decide) (hk2) (fun _ h9 => h9) rfl dX12_made_65 ?_
              refine zeqv (y := .ref (ma 1 0)) (congrArg Value.ref (hg_32 1 0 (by unfold mU; omega) (by decide))) ?_
              refine lv_iload_n hx hb dX12_made_68 rfl (lv_at hl 4 rfl) ?_
              have h_84 := c_get l D ty A u_21 C_78 ma_23 t0 mi 1 0 n1 (ma_23 9) hR_81.l1 i (by omega)
              first | dsimp only at h_84 | skip
              rw [(show ma_23 1 0 = ma 1 0 from (hg_32 1 0 (by unfold mU; omega) (by decide))), (show ma_23 9 i = ma 9 i from (hg_32 9 i (by unfold mU; omega) (by decide)))] at h_84
              obtain ⟨huz_85, hnz_85, mz_85, bz_85, hCz_85⟩ := isL.hd hR_81.l1
              refine zcVr (x := .ref (ma 9 i)) (As := [.int (nI i)]) (rest := [.int rw0, .int ((F >>> ((nI 5) &&& 31)) &&& (nI 1)), .int (nI 5), .ref q_20]) ⟨hx, hb, hml, hown, hts⟩ (h_84) (cwV 1 hts gX12_made_Jx4a65c_get_915e3 rfl rfl rfl (by decide +kernel) ⟨Nat.le_of_ble_eq_true rfl, Nat.le_of_ble_eq_true rfl⟩) mI_blind (mI_pre hM hK hMS hS) (va_recv hK (hM.Pa huz_85 (hg_32 1 0 (by unfold mU; omega) (by decide)) hCz_85) (ci := 0) (q0 := 0) rfl rfl) rfl hl.1 rfl (Nat.le_of_ble_eq_true rfl) dX12_made_69 ⟨Nat.le_of_ble_eq_true rfl, Nat.le_of_ble_eq_true rfl⟩ ?_
              refine va_castS hx hb hown (hk3) ((hK.1 8 _ rfl).2) (va_recv hK (hM.Pa (hR_81.s9 (i := i) (by omega)).1 (hg_32 9 i (by unfold mU; omega) (by decide)) (hR_81.s9 (i := i) (by omega)).2) (ci := 8) (q0 := 0) rfl rfl) dX12_made_72 ?_
              refine va_get hx hb hts hinX7 hown hK (hM.Pa (hR_81.s9 (i := i) (by omega)).1 (hg_32 9 i (by unfold mU; omega) (by decide)) (hR_81.s9 (i := i) (by omega)).2) 0 rfl rfl 1 (by decide) (hk7) (fun _ h9 => h9) rfl dX12_made_75 ?_
              refine zeqv (y := .ref (ma 10 i)) (congrArg Value.ref (hg_32 10 i (by unfold mU; omega) (by decide))) ?_
              refine lv_iload hx hb dX12_made_78 (lv_at hl 0 rfl) ?_
              refine zald hx hb hK (hM.Pa (hR_81.s10 (i := i) (by omega)).1 (hg_32 10 i (by unfold mU; omega) (by decide)) (hR_81.s10 (i := i) (by omega)).2) 0 0 rfl rfl (i := 5) (by omega) (by omega) dX12_made_80 ?_
              refine zeq (row6_at (by omega)) ?_
              refine lv_imul hx hb dX12_made_81 ?_
              refine lv_aload hx hb dX12_made_82 (lv_at hl 1 rfl) ?_
              refine va_get hx hb hts hinX9 hown hK (hM.Pa hu_24 ha_26 hC_79) 0 rfl rfl 7 (by decide) (hk8) (fun _ h9 => h9) rfl dX12_made_84 ?_
              refine lv_imul hx hb dX12_made_87 ?_
              refine lv_sipush (v := nI 400) hx hb dX12_made_88 (by decide) ?_
              refine lv_idiv hx hb dX12_made_91 (by decide) ?_
              refine lv_imul hx hb dX12_made_92 ?_
              refine miast hx hb hK hM hS hu_27 ha_29 0 hC_80 rfl (i := 5) (by omega) (by omega) dX12_made_93 (fun H locs hM hS ho => ?_)
              obtain ⟨C_87, eC_87⟩ : ∃ z, z = up2 C_78 27 n5 (eI (ty 0) 6 (upd (upd (upd (upd (upd (upd (fun _ => 0) 0 (((F >>> ((nI 0) &&& 31)) &&& (nI 1)) * (((rw0 * (g 10 (i * 6 + 0))) * (tierN (sumN (fUn g (nI R) (g 0 0)) n5))) / (nI 400)))) 1 (((F >>> ((nI 1) &&& 31)) &&& (nI 1)) * (((rw0 * (g 10 (i * 6 + 1))) * (tierN (sumN (fUn g (nI R) (g 0 0)) n5))) / (nI 400)))) 2 (((F >>> ((nI 2) &&& 31)) &&& (nI 1)) * (((rw0 * (g 10 (i * 6 + 2))) * (tierN (sumN (fUn g (nI R) (g 0 0)) n5))) / (nI 400)))) 3 (((F >>> ((nI 3) &&& 31)) &&& (nI 1)) * (((rw0 * (g 10 (i * 6 + 3))) * (tierN (sumN (fUn g (nI R) (g 0 0)) n5))) / (nI 400)))) 4 (((F >>> ((nI 4) &&& 31)) &&& (nI 1)) * (((rw0 * (g 10 (i * 6 + 4))) * (tierN (sumN (fUn g (nI R) (g 0 0)) n5))) / (nI 400)))) 5 (((F >>> ((nI 5) &&& 31)) &&& (nI 1)) * (((rw0 * (g 10 (i * 6 + 5))) * (tierN (sumN (fUn g (nI R) (g 0 0)) n5))) / (nI 400))))) := ⟨_, rfl⟩
              have hM : mW D A u_21 C_87 ma_23 H := by rw [eC_87]; exact hM
              have hC_88 : C_87 26 n5 = eO 10 [.int (nI R), .int (nI i), .int (nI (nV g i) - nI 1), .int F, .int rw0, .int (g 0 0), .int (nI P), .int (tierN (sumN (fUn g (nI R) (g 0 0)) n5)), .ref q_20, .int (nI 0)] := by rw [eC_87, up2_n _ _ (fun z => by omega)]; exact hC_79
              have hC_89 : C_87 27 n5 = eI (ty 0) 6 (upd (upd (upd (upd (upd (upd (fun _ => 0) 0 (((F >>> ((nI 0) &&& 31)) &&& (nI 1)) * (((rw0 * (g 10 (i * 6 + 0))) * (tierN (sumN (fUn g (nI R) (g 0 0)) n5))) / (nI 400)))) 1 (((F >>> ((nI 1) &&& 31)) &&& (nI 1)) * (((rw0 * (g 10 (i * 6 + 1))) * (tierN (sumN (fUn g (nI R) (g 0 0)) n5))) / (nI 400)))) 2 (((F >>> ((nI 2) &&& 31)) &&& (nI 1)) * (((rw0 * (g 10 (i * 6 + 2))) * (tierN (sumN (fUn g (nI R) (g 0 0)) n5))) / (nI 400)))) 3 (((F >>> ((nI 3) &&& 31)) &&& (nI 1)) * (((rw0 * (g 10 (i * 6 + 3))) * (tierN (sumN (fUn g (nI R) (g 0 0)) n5))) / (nI 400)))) 4 (((F >>> ((nI 4) &&& 31)) &&& (nI 1)) * (((rw0 * (g 10 (i * 6 + 4))) * (tierN (sumN (fUn g (nI R) (g 0 0)) n5))) / (nI 400)))) 5 (((F >>> ((nI 5) &&& 31)) &&& (nI 1)) * (((rw0 * (g 10 (i * 6 + 5))) * (tierN (sumN (fUn g (nI R) (g 0 0)) n5))) / (nI 400)))) := by rw [eC_87]; exact up2_s _ _ _ _
              have hR_90 : mR ty t0 g n1 n2 nL n4 n5 th rep bro u_21 C_87 ma_23 := hR_81.ext (fun k9 x9 hm hu => ⟨hu, by rw [eC_87]; exact up2_n _ _ (fun z => by unfold mU at hm; omega), rfl⟩)
              refine lv_iinc (v := nI 6) (lv' := [(7, .int (nI 6)), (6, .ref q_1), (0, .ref (ma 0 0)), (1, .int (nI R)), (2, .int (nI i)), (3, .int F), (4, .int rw0), (5, .int (nI P))]) hx hb dX12_made_94 hl (k := 0) rfl (nI_add 5 1) (by decide) rfl (fun ls hl => ?_)
              refine lv_goto (tgt := 42) hx hb dX12_made_97 (by decide) ?_
              refine lv_iload hx hb dX12_made_42 (lv_at hl 0 rfl) ?_
              refine lv_bipush (v := nI 6) hx hb dX12_made_44 (by decide) ?_
              refine lv_icmp_ge (tgt := 100) hx hb dX12_made_46 (by decide) (fun c_92 => ?_) (fun c_92 => ?_)
              · have c_92 := zn_geT (a := 6) (b := 6) (by omega) (by omega) c_92
                refine lv_aload hx hb dX12_made_100 (lv_at hl 1 rfl) ?_
                exact W.aret hx hb hr (Or.inl ⟨_, rfl⟩) (Or.inr ⟨_, rfl⟩) (fun t ht hW => ⟨⟨(u_21, C_87, ma_23), _, rfl, ⟨hg_32, hR_90, hu_24, by show C_87 26 n5 = _; rw [show (u_21, C_87, ma_23).2.2 27 n5 = _ from ha_29]; exact hC_88, hu_27, by show C_87 27 n5 = _; rw [← mdF6]; exact hC_89⟩, ha_26.symm, mI_pre hM hK hMS hS t ht hW⟩, hS.F ht⟩) hS.2.2 dX12_made_102
              · have c_92 := zn_geF (a := 6) (b := 6) (by omega) (by omega) c_92
                omega
