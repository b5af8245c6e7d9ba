/-! the law: what holds all along; its small methods -/
theorem zMetH {y : MethodName} {l : Launch} {cc : ByteArray} {ws ws' : List Cond} {rm : Room} {av : List Value} {B : State → Prop} {Qc : Array Value → State → Outcome → State → Prop} {mc ms : Nat} {free : Addr → Prop} {maxL : Nat} {ret : Option FieldType} {hh : List (Nat × Nat × Nat × Nat)}
    (hy : plainName y.cls = true) (hw : ws = Cond.codeWith y cc maxL ret hh :: ws') (hle : (lg_sl av).length ≤ maxL)
    (k : ∀ (p : Program) (e : Env) (s : State) (m : MethodId) (below : List Frame) (meth : Method) (c : Code), p.tables.exec = Jvm.exec → c.code = cc → meth.sig.returnType = ret → (∀ w ∈ ws, w.before av.toArray s = true) → s.vm.findClass y.cls = some m.cls → meth.locks = false → c.maxLocals = maxL → c.exceptionTable.toList = tableOf hh → B s → ∀ ls : Array Slot, lv_has ls maxL (lv_args 0 av) →
      W p l e rm s m av.toArray below meth c s.heap [] 0 0 (MQ below Qc av.toArray s mc ms free) (F0 m 0 ls [])) : Met l y ws rm (va_Pc av B) Qc mc ms free := by
  refine MetFree.of_bodyS (code := cc) (maxLocals := maxL) (ret := ret) hy ?_ ?_
  · intro args s m h hn
    obtain ⟨m9, meth, c, hn9, h1, h2, h3, h4, -, h5, h6, -⟩ := Cond.codeWith_spec (atoms_spec (ws := ws) h _ (by rw [hw]; exact List.mem_cons_self))
    cases hn.symm.trans hn9
    exact ⟨meth, c, h1, h2, h3, h4, h5, h6⟩
  · intro p e s m args below meth c s₁ B hml hP _
    have hh0 : s₁.heap = s.heap := by rw [B.state]; rfl
    obtain ⟨rfl, hv⟩ := hP
    have htab : c.exceptionTable.toList = tableOf hh := vx_table (x := y) B (atoms_spec (ws := ws) B.pre _ (by rw [hw]; exact List.mem_cons_self))
    have hl := lv_entry av (n := maxL) hle
    have K := fun ls hl => k p e s m below meth c B.exec B.bytes B.returns (atoms_spec (ws := ws) B.pre) (findClass_of_methodNamed B.named) B.notSynchronized hml htab hv ls hl
    have K2 : W p l e rm s m av.toArray below meth c s.heap [] 0 0 (MQ below Qc av.toArray s mc ms free) (entryFrame m av.toArray maxL) := by
      rw [lg_entry_eq]
      generalize (lg_sl av ++ List.replicate (maxL - (lg_sl av).length) Slot.unset).toArray = ls at hl ⊢
      exact K ls hl
    obtain ⟨t, a1, o, b1, b2, b3⟩ := K2 s₁ hh0 (Stand.of_body B)
    exact ⟨t, o, a1, b1, b2, ⟨b3.1, b3.2⟩⟩
section WL
variable {p : Program} {l : Launch} {e : Env} {R : Room} {s : State} {m : MethodId} {args : Array Value} {below : List Frame} {meth : Method} {c : Code} {H : Heap} {locs : List Loc} {cells slots : Nat} {Q : State → Prop}
variable {cc : ByteArray} {pc : Nat} {ls : Array Slot} {rest : List Value} {D : va_G} {cl : List vw_C} {A : Nat → Prop} {H0 : Heap}
/-- a call that throws and never answers -/
theorem zxcall {st1 : List Value} {a : Array Value} {E0 : String} (hr : vx_Run p l e R s m args below meth c H locs cells slots 1 6 (F0 m pc ls st1) rest (zno a) (zXC E0) (fun _ => False)) (hS : va_S A H0 H locs)
    (kx : ∀ (ce : Cell) (q9 : Addr) (H1 : Heap) (locs1 : List Loc), H.size ≤ H1.size → (∀ q : Nat, q < H.size → H1[q]? = H[q]?) → va_S A H0 H1 locs1 → H1[q9]? = some ce → ce.vm = .none → s.vm.findClass E0 = some ce.cls → vx_W p l e R s m args below meth c H1 locs1 (cells + 1) (slots + 6) Q (F0 m pc ls rest) q9) : W p l e R s m args below meth c H locs cells slots Q (F0 m pc ls st1) := by
  intro T hT X
  rcases hr T hT X with ⟨v, st₀, t, T', L, h0, X', hL, e1, e2, hq, st⟩ | ⟨q, st₀, t, T', L, E, ce, h0, X', hL, e1, e2, ⟨hE, hF⟩, hce, hcv, hcl, st⟩
  · exact hq.elim
  · have z1 : H.size ≤ T'.heap.size := by rw [e1, ← h0]; exact hF.1
    have o1 : ∀ q : Nat, q < H.size → T'.heap[q]? = H[q]? := fun q hq => by
      rw [e1, ← h0]
      exact hF.2 q (by rw [h0]; exact hq) (by rw [h0]; exact Nat.not_le.mpr hq)
    obtain ⟨t2, a1, b1⟩ := kx ce q T'.heap (locs ++ L) z1 o1 ⟨Nat.le_trans hS.1 z1, fun q h1 h2 => (o1 q (Nat.lt_of_lt_of_le h1 hS.1)).trans (hS.2.1 q h1 h2), fun x hx => (List.mem_append.mp hx).elim (hS.2.2 x) (fun h => (hL x h).elim)⟩ (by rw [e1]; exact hce) hcv (by rw [← hE]; exact hcl) T' rfl X'
    exact ⟨t2, st.trans a1, b1⟩
/-- an int of the script -/
theorem zsld (hexec : p.tables.exec = Jvm.exec) (hb : c.code = cc) {b L : Nat} {xs : Nat → Int32} (hX : va_X b L xs s H0) (hbl : b < H0.size) (hbA : ¬ A b) (hS : va_S A H0 H locs) {i : Nat} (hi : i < L) (hL : L < 2 ^ 31) (hdg : decode cc pc = .ok (.iaload, 1))
    (kk : W p l e R s m args below meth c H locs cells slots Q (F0 m (pc + 1) ls (.int (xs i) :: rest))) : W p l e R s m args below meth c H locs cells slots Q (F0 m pc ls (.int (nI i) :: .ref b :: rest)) :=
  va_sld hexec hb hX hbl hbA hS (vp_in_nI hi hL) hdg (zeq (congrArg xs (nI_clamp (by omega))) kk)
end WL
theorem zC_kept {D : va_G} {ty : Nat → ClassId} {g : Nat → Nat → Int32} {ad : Nat → Nat} {H H1 : Heap} (h : va_P D vwCl (zC ty g ad) H) (hq : ∀ k, k < 39 → ad k < H.size → H1[ad k]? = H[ad k]?) : va_P D vwCl (zC ty g ad) H1 := fun k q hk => by
  obtain ⟨h1, h2⟩ := zC_at hk
  have h3 := h k q hk
  refine h3.kept ?_
  have h4 := h3.lt
  rw [h2] at h4 ⊢
  exact hq k h1 h4
def lwC (p : Program) (l : Launch) (s : State) (m : MethodId) (meth : Method) (c : Code) (D : va_G) (ty : Nat → ClassId) (b L : Nat) (xs : Nat → Int32) : Prop :=
  (p.tables.exec = Jvm.exec ∧ c.code = cL_law ∧ meth.sig.returnType = some .boolean ∧ c.maxLocals = 25 ∧ meth.locks = false ∧ l.stackTraces = false) ∧ (s.vm.findClass RL = some m.cls ∧ (∀ w ∈ wsL_law, w.before #[Value.ref b] s = true) ∧ va_X b L xs s s.heap ∧ b < s.heap.size ∧ L ≤ 260) ∧ va_K D vwCl (zT ty) s ∧ zN s ∧ zStr s ∧ zQ s
section LWS
variable {p : Program} {l : Launch} {e : Env} {s : State} {m : MethodId} {below : List Frame} {meth : Method} {c : Code} {H : Heap} {locs : List Loc} {cells slots : Nat} {Q : State → Prop}
variable {D : va_G} {ty : Nat → ClassId} {b L : Nat} {xs : Nat → Int32} {g : Nat → Nat → Int32} {ad : Nat → Nat}
theorem zQ_later (hQ : zQ s) (hS : va_S (fun q => s.heap.size ≤ q) s.heap H locs) : ∀ U : State, U.heap = H → s.WarmedH U.vm → zQ U := fun U hU hW => by
  unfold zQ
  rw [hU]
  exact ⟨((vx_Zq.moved hW.alike hQ.1).kept (fun a ha hA => hS.2.1 a ha hA)).narrow (fun q hq => Nat.le_trans hS.1 hq), ((vx_Zq.moved hW.alike hQ.2).kept (fun a ha hA => hS.2.1 a ha hA)).narrow (fun q hq => Nat.le_trans hS.1 hq)⟩
/-- the script, as a callee finds it -/
def zScr (b L : Nat) (xs : Nat → Int32) (U : State) : Prop := va_X b L xs U U.heap ∧ b < U.heap.size
theorem zScr_blind : ∀ (a : Array Value) (U : State) (f : JFrame) (mk : MethodId), zScr b L xs U → zScr b L xs (U.calling f mk a) := fun a U f mk h => ⟨va_X.moved (u := U) (U := U.calling f mk a) (Vm.Alike.refl U.vm) h.1, h.2⟩
theorem zScr_pre (hX : va_X b L xs s s.heap) (hbl : b < s.heap.size) (hS : va_S (fun q => s.heap.size ≤ q) s.heap H locs) : ∀ U : State, U.heap = H → s.WarmedH U.vm → zScr b L xs U := fun U hU hW => by
  unfold zScr
  rw [hU]
  exact ⟨va_X.moved hW.alike (hX.kept (hS.2.1 b hbl (Nat.not_le.mpr hbl))), Nat.lt_of_lt_of_le hbl hS.1⟩
def zXz (D : va_G) (ty : Nat → ClassId) (g : Nat → Nat → Int32) (ad : Nat → Nat) (sz : Nat) (U : State) : Prop := zX D ty g ad U ∧ U.heap.size = sz
theorem zXz_blind {sz : Nat} : ∀ (a : Array Value) (U : State) (f : JFrame) (mk : MethodId), zXz D ty g ad sz U → zXz D ty g ad sz (U.calling f mk a) := fun a U f mk h => ⟨zX_blind a U f mk h.1, h.2⟩
theorem zXz_pre (hP : va_P D vwCl (zC ty g ad) H) (hK : va_K D vwCl (zT ty) s) (hN : zN s) (hQ : zQ s) (hT : zStr s) (hS : va_S (fun q => s.heap.size ≤ q) s.heap H locs) : ∀ U : State, U.heap = H → s.WarmedH U.vm → zXz D ty g ad H.size U := fun U hU hW => ⟨⟨zI_pre hP hK hN U hU hW, zQ_later hQ hS U hU hW, hT.warm hW⟩, by rw [hU]⟩
theorem AC_hs {hs sz : Nat} (hlo : ∀ k, k < 39 → hs ≤ ad k) (h : hs ≤ sz) : ∀ q, AC ad sz q → hs ≤ q := fun q z => by
  rcases z with ⟨k, hk, rfl⟩ | z
  · exact hlo k hk
  · exact Nat.le_trans h z
end LWS
set_option maxHeartbeats 4000000 in
set_option maxRecDepth 100000 in
theorem c_L_below (l : Launch) (B : State → Prop) (x : Int32) (k : Nat) (hk0 : 0 < k) (hk : k < 2 ^ 31) : Met l yL_below wsL_below ({ frames := 0, cells := 0, slots := 0, locals := 0 }) (va_Pc [.int x, .int (nI k)] (B)) (vp_Si (fun v => ∃ j, j < k ∧ v = nI j)) 0 0 (fun _ => False) := by
  refine zMet (cc := cL_below) (maxL := 2) (ret := (some .int)) (by decide) rfl (Nat.le_of_ble_eq_true rfl) ?_
  intro p e s m below meth c hx hb hr hts hown hlocks hml hB ls hl
  have hl : lv_has ls 2 [(0, .int x), (1, .int (nI k))] := hl
  refine lv_iload_n hx hb dL_below_0 rfl (lv_at hl 0 rfl) ?_
  refine lv_ldc (v := 2147483647) hx hb hown (hts (.constant RL 7 (2147483647)) (by decide +kernel)) dL_below_1 ?_
  refine lv_iand hx hb dL_below_3 ?_
  obtain ⟨a, ha, ea⟩ : ∃ a, a < 2 ^ 31 ∧ x &&& 2147483647 = nI a := pk_andE x 31 (by decide)
  refine zeq ea ?_
  refine lv_iload_n hx hb dL_below_4 rfl (lv_at hl 1 rfl) ?_
  refine lv_irem hx hb dL_below_5 (nI_ne0 hk0 hk) ?_
  refine zeq (pk_rem (a := a) (d := k) (by omega) (by omega) (by omega)) ?_
  exact W.iret (v := nI (a % k)) hx hb hr (fun t ht hW => ⟨_, rfl, ⟨_, Nat.mod_lt _ hk0, rfl⟩, ht⟩) (fun _ h => nomatch h) dL_below_6
set_option maxHeartbeats 4000000 in
set_option maxRecDepth 100000 in
theorem c_L_cell (l : Launch) (b L : Nat) (xs : Nat → Int32) (hL : L < 2 ^ 31) (k : Nat) (hk : k < 2 ^ 30) : Met l yL_cell wsL_cell ({ frames := 0, cells := 0, slots := 0, locals := 0 }) (va_Pc [.ref b, .int (nI k)] (zScr b L xs)) (vp_Si (fun v => True)) 0 0 (fun _ => False) := by
  refine zMet (cc := cL_cell) (maxL := 2) (ret := (some .int)) (by decide) rfl (Nat.le_of_ble_eq_true rfl) ?_
  intro p e s m below meth c hx hb hr hts hown hlocks hml hB ls hl
  obtain ⟨hX, hbl⟩ := hB
  have hbA : ¬ s.heap.size ≤ b := Nat.not_le.mpr hbl
  have hS : va_S (fun q : Nat => s.heap.size ≤ q) s.heap s.heap [] := va_S.rf
  have hl : lv_has ls 2 [(0, .ref b), (1, .int (nI k))] := hl
  refine lv_iload_n hx hb dL_cell_0 rfl (lv_at hl 1 rfl) ?_
  refine lv_aload_n hx hb dL_cell_1 rfl (lv_at hl 0 rfl) ?_
  refine va_slen hx hb hX hbl hbA hS dL_cell_2 ?_
  refine lv_icmp_ge (tgt := 12) hx hb dL_cell_3 (by decide) (fun c_1 => ?_) (fun c_1 => ?_)
  · have c_1 := zn_geT (a := k) (b := L) (by omega) (by omega) c_1
    refine lv_ldc (v := 790386105) hx hb hown (hts (.constant RL 8 (790386105)) (by decide +kernel)) dL_cell_12 ?_
    refine lv_iload_n hx hb dL_cell_14 rfl (lv_at hl 1 rfl) ?_
    refine lv_iconst (v := nI 3) hx hb dL_cell_15 (by decide) ?_
    refine lv_iadd hx hb dL_cell_16 ?_
    refine zeq (nI_add k 3) ?_
    refine lv_imul hx hb dL_cell_17 ?_
    exact W.iret (v := 790386105 * (nI (k + 3))) hx hb hr (fun t ht hW => ⟨_, rfl, trivial, ht⟩) (fun _ h => nomatch h) dL_cell_18
  · have c_1 := zn_geF (a := k) (b := L) (by omega) (by omega) c_1
    refine lv_aload_n hx hb dL_cell_6 rfl (lv_at hl 0 rfl) ?_
    refine lv_iload_n hx hb dL_cell_7 rfl (lv_at hl 1 rfl) ?_
    refine zsld hx hb hX hbl hbA hS (show k < L by omega) hL dL_cell_8 ?_
    refine lv_goto (tgt := 18) hx hb dL_cell_9 (by decide) ?_
    exact W.iret (v := xs k) hx hb hr (fun t ht hW => ⟨_, rfl, trivial, ht⟩) (fun _ h => nomatch h) dL_cell_18
set_option maxHeartbeats 1000000 in
set_option maxRecDepth 100000 in
theorem c_L_preview_ok (l : Launch) (D : va_G) (ty : Nat → ClassId) (g : Nat → Nat → Int32) (ad : Nat → Nat) (sz : Nat) (x0 x1 x2 : Int32) (a : Int32) (g9 : Nat → Nat → Int32) (hM : Met l yX5_preview wsX5_preview ({ frames := 4, cells := 0, slots := 0, locals := 96 }) (va_Pc [.ref (ad 0), .int x0, .int x1, .int x2] (fun U => zI D ty g ad U ∧ U.heap.size = sz)) (va_Qi (fun (v9 : Int32) (gz : Nat → Nat → Int32) => v9 = a ∧ gz = g9) (fun gz t => zI D ty gz ad t) (AC ad sz)) 0 0 (AC ad sz)) : Met l yL_preview wsL_preview ({ frames := 5, cells := 0, slots := 0, locals := 121 }) (va_Pc [.ref (ad 0), .int x0, .int x1, .int x2] (fun U => zI D ty g ad U ∧ U.heap.size = sz)) (va_Qi (fun (v9 : Int32) (g2 : Nat → Nat → Int32) => v9 = a ∧ g2 = g9) (fun g2 t => zI D ty g2 ad t) (AC ad sz)) 0 0 (AC ad sz) := by
  refine zMetH (cc := cL_preview) (maxL := 5) (ret := (some .int)) (hh := [(0, 7, 8, 104)]) (by decide) rfl (Nat.le_of_ble_eq_true rfl) ?_
  intro p e s m below meth c hx hb hr hts hown hlocks hml htab hB ls hl
  obtain ⟨⟨hP, hK, hN⟩, hsz⟩ := hB
  have hS : va_S (AC ad sz) s.heap s.heap [] := va_S.rf
  have hl : lv_has ls 5 [(0, .ref (ad 0)), (1, .int x0), (2, .int x1), (3, .int x2)] := hl
  refine lv_aload_n hx hb dL_preview_0 rfl (lv_at hl 0 rfl) ?_
  refine lv_iload_n hx hb dL_preview_1 rfl (lv_at hl 1 rfl) ?_
  refine lv_iload_n hx hb dL_preview_2 rfl (lv_at hl 2 rfl) ?_
  refine lv_iload_n hx hb dL_preview_3 rfl (lv_at hl 3 rfl) ?_
  refine va_calli (va_runV (As := [.int x0, .int x1, .int x2]) (rest := []) ⟨hx, hb, hml, hown, hts⟩ hM (cwV 3 hts gL_preview_X5_preview rfl rfl rfl (by decide +kernel) ⟨Nat.le_of_ble_eq_true rfl, Nat.le_of_ble_eq_true rfl⟩) ⟨zBl zW_blind, va_recv hK hP (ci := 5) (q0 := 0) rfl rfl, fun U h1 h2 => ⟨rfl, zI_pre hP hK hN U h1 h2, by rw [h1]; exact hsz⟩⟩ rfl rfl hl.1 rfl (lv_room (Nat.le_of_ble_eq_true rfl)) dL_preview_4 ⟨Nat.le_of_ble_eq_true rfl, Nat.le_of_ble_eq_true rfl⟩) hS (fun _ _ h => h) (fun _ h => h) (fun r gz t H locs ht hvm hw hB hz1 hk1 hS => ?_)
  obtain ⟨h1, h2⟩ := hw
  have hP : va_P D vwCl (zC ty gz ad) H := by rw [← ht]; exact hB.1
  exact W.iret (v := r) hx hb hr (fun t ht hW => ⟨⟨_, gz, rfl, ⟨h1, h2⟩, ⟨by rw [ht]; exact hP, va_K.moved hW.alike hK, hN.warm hW⟩⟩, hS.F ht⟩) hS.2.2 dL_preview_7
set_option maxHeartbeats 1000000 in
set_option maxRecDepth 100000 in
theorem c_L_preview_x (l : Launch) (D : va_G) (ty : Nat → ClassId) (g : Nat → Nat → Int32) (ad : Nat → Nat) (sz : Nat) (x0 x1 x2 : Int32) (hM : vx_Met l yX5_preview wsX5_preview ({ frames := 6, cells := 1, slots := 6, locals := 96 }) (va_Pc [.ref (ad 0), .int x0, .int x1, .int x2] (zX D ty g ad)) zno (zXC "java/lang/IllegalStateException") 1 6 (fun _ => False)) : Met l yL_preview wsL_preview ({ frames := 7, cells := 1, slots := 6, locals := 121 }) (va_Pc [.ref (ad 0), .int x0, .int x1, .int x2] (zXz D ty g ad sz)) (va_Qi (fun (v9 : Int32) (g2 : Nat → Nat → Int32) => v9 = nI 0 ∧ g2 = g) (fun g2 t => zI D ty g2 ad t) (AC ad sz)) 1 6 (AC ad sz) := by
  refine zMetH (cc := cL_preview) (maxL := 5) (ret := (some .int)) (hh := [(0, 7, 8, 104)]) (by decide) rfl (Nat.le_of_ble_eq_true rfl) ?_
  intro p e s m below meth c hx hb hr hts hown hlocks hml htab hB ls hl
  obtain ⟨⟨⟨hP, hK, hN⟩, hQ, hT⟩, hsz⟩ := hB
  have hS : va_S (AC ad sz) s.heap s.heap [] := va_S.rf
  have hl : lv_has ls 5 [(0, .ref (ad 0)), (1, .int x0), (2, .int x1), (3, .int x2)] := hl
  refine lv_aload_n hx hb dL_preview_0 rfl (lv_at hl 0 rfl) ?_
  refine lv_iload_n hx hb dL_preview_1 rfl (lv_at hl 1 rfl) ?_
  refine lv_iload_n hx hb dL_preview_2 rfl (lv_at hl 2 rfl) ?_
  refine lv_iload_n hx hb dL_preview_3 rfl (lv_at hl 3 rfl) ?_
  refine zxcall (vx_runV (As := [.int x0, .int x1, .int x2]) (rest := []) ⟨hx, hb, hml, hown, hts⟩ hM (cwV 3 hts gL_preview_X5_preview rfl rfl rfl (by decide +kernel) ⟨Nat.le_of_ble_eq_true rfl, Nat.le_of_ble_eq_true rfl⟩) ⟨zBl zX_blind, va_recv hK hP (ci := 5) (q0 := 0) rfl rfl, fun U h1 h2 => ⟨rfl, zX_pre hP hK hN hQ hT U h1 h2⟩⟩ rfl rfl hl.1 rfl (lv_room (Nat.le_of_ble_eq_true rfl)) dL_preview_4 ⟨Nat.le_of_ble_eq_true rfl, Nat.le_of_ble_eq_true rfl⟩) hS (fun ce q9 H locs hz ho hS hc1 hc2 hc3 => ?_)
  refine vx_catch (name := "java/lang/IllegalStateException") hown [] ⟨0, 7, 8, 104⟩ [] (htab.trans rfl) (fun z h => nomatch h) (by decide) (by decide) (hts (.classLink RL 104 "java/lang/IllegalStateException") (by decide +kernel)) (zN.use hN (List.mem_of_getElem? (i := 33) rfl)) hc1 hc2 hc3 ?_
  refine lv_astore (lv' := [(4, .ref q9), (0, .ref (ad 0)), (1, .int x0), (2, .int x1), (3, .int x2)]) hx hb dL_preview_8 hl (by decide) rfl (fun ls hl => ?_)
  refine lv_iconst (v := nI 0) hx hb dL_preview_10 (by decide) ?_
  have hP : va_P D vwCl (zC ty g ad) H := zC_kept hP (fun k hk h => ho _ h)
  exact W.iret (v := nI 0) hx hb hr (fun t ht hW => ⟨⟨_, g, rfl, ⟨rfl, rfl⟩, ⟨by rw [ht]; exact hP, va_K.moved hW.alike hK, hN.warm hW⟩⟩, hS.F ht⟩) hS.2.2 dL_preview_11
