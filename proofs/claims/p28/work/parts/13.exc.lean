/-- the texts of the exceptions -/
def zTx : List (Nat × String) := [(54, "fields is not 1 to 6"), (64, "there are 8 sets"), (394, "no such set"), (396, "no such field"), (75, "price is not 1 to 99"), (77, "rule is not 0 to 1000"), (89, "from is not below set"), (91, "share is not 1 to 100"), (99, "there are 20 sources"), (115, "rows is not 1 to 9999"), (120, "there are 6 versions"), (398, "no such version"), (402, "harm is not 1 to 100"), (184, "what is not 0 to 6"), (404, "no such reader"), (400, "fields is not a set of fields of the set"), (196, "purposes is not 1 to 15"), (198, "from and to are not days from today on"), (202, "there are 16 contracts"), (406, "no such purpose"), (217, "day is not 0 to 359"), (223, "rows is below 1"), (226, "there are 40 reads"), (228, "the latest version has fewer rows"), (230, "a field is not covered"), (258, "no such read"), (294, "what is not 0 to 11"), (311, "days is not 1 to 30"), (313, "the day would be above 359"), (319, "what is not 0 to 8"), (240, "fields are more than 2"), (242, "the set has no version"), (254, "too much would be seen"), (408, "no such contract")]
def zStr (U : State) : Prop := ∀ q ∈ zTx, ∃ a : Nat, vk_R "DatamarketDesk" q.1 q.2 a U
def zQ (U : State) : Prop := vx_Zq Bundle.tN "UNASSIGNED_STACK" Bundle.steD (fun q => U.heap.size ≤ q) U U.heap ∧ vx_Zq Bundle.tN "SUPPRESSED_SENTINEL" Bundle.listD (fun q => U.heap.size ≤ q) U U.heap
/-- the desk, and what a throw needs -/
def zX (D : va_G) (ty : Nat → ClassId) (g : Nat → Nat → Int32) (ad : Nat → Nat) (U : State) : Prop := zI D ty g ad U ∧ zQ U ∧ zStr U
def zXB (U : State) : Prop := zQ U ∧ zStr U ∧ zN U
theorem zQ.to {s U : State} (hW : s.vm.Alike U.vm) (hh : U.heap = s.heap) (h : zQ s) : zQ U := by
  unfold zQ
  rw [hh]
  exact ⟨vx_Zq.moved hW h.1, vx_Zq.moved hW h.2⟩
theorem zStr.warm {s U : State} (hW : s.WarmedH U.vm) (h : zStr s) : zStr U := fun q hq => (h q hq).elim fun a ha => ⟨a, ha.warm hW⟩
theorem zStr.same {u U : State} (hv : U.vm = u.vm) (h : zStr u) : zStr U := fun q hq => (h q hq).elim fun a ha => ⟨a, ha.same hv⟩
theorem zX_blind {D : va_G} {ty : Nat → ClassId} {g : Nat → Nat → Int32} {ad : Nat → Nat} : ∀ (a : Array Value) (U : State) (f : JFrame) (mk : MethodId), zX D ty g ad U → zX D ty g ad (U.calling f mk a) := fun a U f mk h => ⟨zI_blind a U f mk h.1, zQ.to (s := U) (U := U.calling f mk a) (Vm.Alike.refl U.vm) rfl h.2.1, zStr.same (u := U) (U := U.calling f mk a) rfl h.2.2⟩
theorem zXB_blind : ∀ (a : Array Value) (U : State) (f : JFrame) (mk : MethodId), zXB U → zXB (U.calling f mk a) := fun a U f mk h => ⟨zQ.to (s := U) (U := U.calling f mk a) (Vm.Alike.refl U.vm) rfl h.1, zStr.same (u := U) (U := U.calling f mk a) rfl h.2.1, zN.same (u := U) (U := U.calling f mk a) rfl h.2.2⟩
theorem zX_pre {s : State} {D : va_G} {ty : Nat → ClassId} {g : Nat → Nat → Int32} {ad : Nat → Nat} (hP : va_P D vwCl (zC ty g ad) s.heap) (hK : va_K D vwCl (zT ty) s) (hN : zN s) (hQ : zQ s) (hT : zStr s) : ∀ U : State, U.heap = s.heap → s.WarmedH U.vm → zX D ty g ad U := fun U hU hW => ⟨zI_pre hP hK hN U hU hW, hQ.to hW.alike hU, hT.warm hW⟩
theorem zXB_pre {s : State} (hN : zN s) (hQ : zQ s) (hT : zStr s) : ∀ U : State, U.heap = s.heap → s.WarmedH U.vm → zXB U := fun U hU hW => ⟨hQ.to hW.alike hU, hT.warm hW, hN.warm hW⟩
/-- never an answer; the exception of that name, the old cells as they were -/
def zno : Array Value → State → Outcome → State → Prop := fun _ _ _ _ => False
def zXC (E0 : String) : String → State → State → Prop := fun E st t => E = E0 ∧ va_F (fun q => st.heap.size ≤ q) st t
abbrev znm : List String := ["java/lang/RuntimeException", "java/lang/Exception"]
section ZX
variable {p : Program} {l : Launch} {e : Env} {R : Room} {s : State} {m : MethodId} {args : Array Value} {below : List Frame} {meth : Method} {c : Code}
variable {y : MethodName} {bytes cc : ByteArray} {maxL nL n index pc : Nat} {ret : Option FieldType} {ws : List Cond} {rm : Room} {Ts : List Cond} {own C host : String} {b : Addr} {As rest st0 : List Value} {ls : Array Slot} {B : State → Prop} {E0 : String}
theorem zXMet {ws' : List Cond} {av : List Value}
    (hy : plainName y.cls = true) (hw : ws = Cond.code y cc maxL ret :: ws') (hle : (lg_sl av).length ≤ maxL)
    (k : ∀ (p : Program) (e : Env) (s : State) (m : MethodId) (below : List Frame) (meth : Method) (c : Code), p.tables.exec = Jvm.exec → c.code = cc → meth.sig.returnType = ret → (∀ w ∈ ws, w.before av.toArray s = true) → s.vm.findClass y.cls = some m.cls → meth.locks = false → c.maxLocals = maxL → (∀ x ∈ c.exceptionTable.toList, False) → B s → ∀ ls : Array Slot, lv_has ls maxL (lv_args 0 av) →
      W p l e rm s m av.toArray below meth c s.heap [] 0 0 (vx_MQ below zno (zXC E0) av.toArray s 1 6 (fun _ => False)) (F0 m 0 ls [])) : vx_Met l y ws rm (va_Pc av B) zno (zXC E0) 1 6 (fun _ => False) := by
  refine vx_ofW (cc := cc) (maxL := maxL) (ret := ret) hy hw ?_
  intro p e s m args below meth c s₁ B hml hno hv
  obtain ⟨rfl, hv⟩ := hv
  have hl := lv_entry av (n := maxL) hle
  rw [lg_entry_eq]
  generalize (lg_sl av ++ List.replicate (maxL - (lg_sl av).length) Slot.unset).toArray = ls at hl ⊢
  exact k p e s m below meth c B.exec B.bytes B.returns (atoms_spec (ws := ws) B.pre) (findClass_of_methodNamed B.named) B.notSynchronized hml hno hv ls hl
theorem zvx {H : Heap} {q : Addr} {E : String} {ce : Cell} {L : List Loc} (hno : ∀ x ∈ c.exceptionTable.toList, False) (hlocks : meth.locks = false) (hE : zXC E0 E s { s with heap := H }) (hcell : H[q]? = some ce) (hv : ce.vm = .none) (hcl : s.vm.findClass E = some ce.cls) (hL : ∀ z ∈ L, (fun _ : Addr => False) z.base) :
    vx_W p l e R s m args below meth c H L 1 6 (vx_MQ below zno (zXC E0) args s 1 6 (fun _ => False)) (F0 m pc ls rest) q :=
  vx_out (fun x hx => (hno x hx).elim) hlocks hcell hv hcl (fun t ht _ => ⟨hE.1, by rw [ht]; exact hE.2.1, fun q h1 h2 => by rw [ht]; exact hE.2.2 q h1 h2⟩) hL (Nat.le_refl _) (Nat.le_refl _)
theorem zxrun {st1 : List Value} {a : Array Value} (hno : ∀ x ∈ c.exceptionTable.toList, False) (hlocks : meth.locks = false)
    (hr : vx_Run p l e R s m args below meth c s.heap [] 0 0 1 6 (F0 m pc ls st1) rest (zno a) (zXC E0) (fun _ => False)) :
    W p l e R s m args below meth c s.heap [] 0 0 (vx_MQ below zno (zXC E0) args s 1 6 (fun _ => False)) (F0 m pc ls st1) := by
  intro T hT X
  rcases hr T hT X with ⟨v, st₀, t, T', L, h0, X', hL, e1, e2, hq, st⟩ | ⟨q, st₀, t, T', L, E, ce, h0, X', hL, e1, e2, ⟨hE, hF⟩, hce, hcv, hcl, st⟩
  · exact hq.elim
  · have hF1 : va_F (fun q => s.heap.size ≤ q) s { s with heap := T'.heap } := by
      refine ⟨?_, fun q h1 h2 => ?_⟩
      · show s.heap.size ≤ T'.heap.size
        rw [e1, ← h0]; exact hF.1
      · show T'.heap[q]? = s.heap[q]?
        rw [e1, ← h0]
        exact hF.2 q (by rw [h0]; exact h1) (by rw [h0]; exact h2)
    obtain ⟨t2, a1, b1⟩ := zvx (p := p) (l := l) (R := R) (below := below) (m := m) (args := args) (e := e) (pc := pc) (ls := ls) (rest := rest) (L := [] ++ L) hno hlocks ⟨hE, hF1⟩ (by rw [e1]; exact hce) hcv hcl (fun z hz => hL z (by simpa using hz)) T' rfl X'
    exact ⟨t2, st.trans a1, b1⟩
theorem zxV (S : CallFix p m c cc nL s args Ts own) (hno : ∀ x ∈ c.exceptionTable.toList, False) (hlocks : meth.locks = false) (hM : vx_Met l y ws rm (va_Pc (.ref b :: As) B) zno (zXC E0) 1 6 (fun _ => False)) (cw : CallW R s args own C index y bytes maxL ret ws rm 1 6 n) (hbl : ∀ (a : Array Value) (U : State) (f : JFrame) (mk : MethodId), B U → B (U.calling f mk a)) (hB : ∀ U : State, U.heap = s.heap → s.WarmedH U.vm → B U) (hrec : ∃ cellB : Cell, s.heap[b]? = some cellB ∧ cellB.vm.isStatics = false ∧ s.vm.findClass C = some cellB.cls) (hn : As.length = n) (hsz : ls.size = nL) (hst : st0 = As.reverse ++ .ref b :: rest) (hW : (rest.map fun v => v.category).sum ≤ 8) (hdg : decode cc pc = .ok (.invokevirtual index, 3)) (hc : 0 + 1 ≤ R.cells ∧ 0 + 6 ≤ R.slots) :
    W p l e R s m args below meth c s.heap [] 0 0 (vx_MQ below zno (zXC E0) args s 1 6 (fun _ => False)) (F0 m pc ls st0) :=
  zxrun hno hlocks (vx_runV S hM cw ⟨zBl hbl, hrec, fun U h1 h2 => ⟨rfl, hB U h1 h2⟩⟩ rfl hn hsz hst (lv_room hW) hdg hc)
theorem zxS (S : CallFix p m c cc nL s args Ts own) (hno : ∀ x ∈ c.exceptionTable.toList, False) (hlocks : meth.locks = false) (hM : vx_Met l y ws rm (va_Pc As B) zno (zXC E0) 1 6 (fun _ => False)) (cw : CallB R s args own index y bytes maxL ret ws rm 1 6 n ∧ (Cond.static y).before args s = true) (hbl : ∀ (a : Array Value) (U : State) (f : JFrame) (mk : MethodId), B U → B (U.calling f mk a)) (hB : ∀ U : State, U.heap = s.heap → s.WarmedH U.vm → B U) (hn : As.length = n) (hsz : ls.size = nL) (hst : st0 = As.reverse ++ rest) (hW : (rest.map fun v => v.category).sum ≤ 8) (hdg : decode cc pc = .ok (.invokestatic index, 3)) (hc : 0 + 1 ≤ R.cells ∧ 0 + 6 ≤ R.slots) :
    W p l e R s m args below meth c s.heap [] 0 0 (vx_MQ below zno (zXC E0) args s 1 6 (fun _ => False)) (F0 m pc ls st0) :=
  zxrun hno hlocks (vx_runS S hM cw ⟨zBl hbl, fun U h1 h2 => ⟨rfl, hB U h1 h2⟩⟩ rfl hn hsz hst (lv_room hW) hdg hc)
theorem zthrS {text : String} {ik is ic : Nat} (hexec : p.tables.exec = Jvm.exec) (hb : c.code = cc) (hlt : l.stackTraces = false) (hown : s.vm.findClass own = some m.cls) (hts : ∀ w ∈ Ts, w.before args s = true) (hno : ∀ x ∈ c.exceptionTable.toList, False) (hlocks : meth.locks = false) (hml : c.maxLocals = nL) (hN : zN s) (hQ : zQ s) (hT : zStr s) (hown2 : own = "DatamarketDesk")
    (hcls : Bundle.fit E0 = true) (hk : Cond.classLink own ik E0 ∈ Ts) (hini : Cond.initialized E0 ∈ Ts) (hsub : ∀ w ∈ (vx_atS own ic E0 znm).filter goodWord, w ∈ Ts) (hbad : ∀ w ∈ (vx_atS own ic E0 znm).filter (fun w => !goodWord w), w ∈ zNl)
    (hgood : ∀ w ∈ Cond.classLink own ik E0 :: Cond.initialized E0 :: vx_atS own ic E0 znm, vx_ot w = true) (htx : (is, text) ∈ zTx)
    (hsize : ls.size = nL) (d0 : decode cc pc = .ok (.new ik, 3)) (d3 : decode cc (pc + 3) = .ok (.dup, 1)) (d4 : decode cc (pc + 4) = .ok (.ldc is, 2)) (d6 : decode cc (pc + 6) = .ok (.invokespecial ic, 3)) (d9 : decode cc (pc + 9) = .ok (.athrow, 1))
    (hf : 5 < R.frames) (hlo : (rest.map fun v => v.category).sum + 82 ≤ R.locals) (hc : 0 + 1 ≤ R.cells) (hs : 0 + 6 ≤ R.slots) :
    W p l e R s m args below meth c s.heap [] 0 0 (vx_MQ below zno (zXC E0) args s 1 6 (fun _ => False)) (F0 m pc ls rest) := by
  obtain ⟨sa, hsa⟩ := hT _ htx
  exact vx_throwS hexec hb hlt hown hcls (by decide +kernel : ∀ n ∈ znm, Bundle.fit n = true) (hts _ hk) (hts _ hini) (by rw [hown2]; exact hsa) (vx_hat (fun w hw => hts w (hsub w hw)) hbad (fun w hw => hN.use hw)) hgood hQ.1 hQ.2 va_S.rf (hsize.trans hml.symm) d0 d3 d4 d6 d9 (fun x hx => (hno x hx).elim) hf (by simpa [znm] using hlo) hc hs hlocks (fun t _ h1 h2 => ⟨rfl, h1, fun q h3 _ => h2 q h3⟩) (fun _ h => nomatch h) (Nat.le_refl _) (Nat.le_refl _)
theorem zthrW {text : String} {ik is ic : Nat} (hexec : p.tables.exec = Jvm.exec) (hb : c.code = cc) (hlt : l.stackTraces = false) (hown : s.vm.findClass own = some m.cls) (hts : ∀ w ∈ Ts, w.before args s = true) (hno : ∀ x ∈ c.exceptionTable.toList, False) (hlocks : meth.locks = false) (hml : c.maxLocals = nL) (hN : zN s) (hQ : zQ s) (hT : zStr s) (hown2 : own = "DatamarketDesk")
    (hcls : Bundle.fit E0 = true) (hk : Cond.classLink own ik E0 ∈ Ts) (hini : Cond.initialized E0 ∈ Ts) (hsub : ∀ w ∈ (vx_atS own ic E0 znm).filter goodWord, w ∈ Ts) (hbad : ∀ w ∈ (vx_atS own ic E0 znm).filter (fun w => !goodWord w), w ∈ zNl)
    (hgood : ∀ w ∈ Cond.classLink own ik E0 :: Cond.initialized E0 :: vx_atS own ic E0 znm, vx_ot w = true) (htx : (is, text) ∈ zTx)
    (hsize : ls.size = nL) (d0 : decode cc pc = .ok (.new ik, 3)) (d3 : decode cc (pc + 3) = .ok (.dup, 1)) (d4 : decode cc (pc + 4) = .ok (.ldc_w is, 3)) (d7 : decode cc (pc + 7) = .ok (.invokespecial ic, 3)) (d10 : decode cc (pc + 10) = .ok (.athrow, 1))
    (hf : 5 < R.frames) (hlo : (rest.map fun v => v.category).sum + 82 ≤ R.locals) (hc : 0 + 1 ≤ R.cells) (hs : 0 + 6 ≤ R.slots) :
    W p l e R s m args below meth c s.heap [] 0 0 (vx_MQ below zno (zXC E0) args s 1 6 (fun _ => False)) (F0 m pc ls rest) := by
  obtain ⟨sa, hsa⟩ := hT _ htx
  exact vx_throwSW hexec hb hlt hown hcls (by decide +kernel : ∀ n ∈ znm, Bundle.fit n = true) (hts _ hk) (hts _ hini) (by rw [hown2]; exact hsa) (vx_hat (fun w hw => hts w (hsub w hw)) hbad (fun w hw => hN.use hw)) hgood hQ.1 hQ.2 va_S.rf (hsize.trans hml.symm) d0 d3 d4 d7 d10 (fun x hx => (hno x hx).elim) hf (by simpa [znm] using hlo) hc hs hlocks (fun t _ h1 h2 => ⟨rfl, h1, fun q h3 _ => h2 q h3⟩) (fun _ h => nomatch h) (Nat.le_refl _) (Nat.le_refl _)
end ZX
theorem zbad_A : ∀ w ∈ (vx_atS RX5 56 "java/lang/IllegalArgumentException" znm).filter (fun w => !goodWord w), w ∈ zNl := by decide +kernel
theorem zgood_A : ∀ w ∈ Cond.classLink RX5 52 "java/lang/IllegalArgumentException" :: Cond.initialized "java/lang/IllegalArgumentException" :: vx_atS RX5 56 "java/lang/IllegalArgumentException" znm, vx_ot w = true := by decide +kernel
theorem zfit_A : Bundle.fit "java/lang/IllegalArgumentException" = true := by decide +kernel
theorem zbad_S : ∀ w ∈ (vx_atS RX5 66 "java/lang/IllegalStateException" znm).filter (fun w => !goodWord w), w ∈ zNl := by decide +kernel
theorem zgood_S : ∀ w ∈ Cond.classLink RX5 62 "java/lang/IllegalStateException" :: Cond.initialized "java/lang/IllegalStateException" :: vx_atS RX5 66 "java/lang/IllegalStateException" znm, vx_ot w = true := by decide +kernel
theorem zfit_S : Bundle.fit "java/lang/IllegalStateException" = true := by decide +kernel
theorem zbad_B : ∀ w ∈ (vx_atS RX5 260 "java/lang/IndexOutOfBoundsException" znm).filter (fun w => !goodWord w), w ∈ zNl := by decide +kernel
theorem zgood_B : ∀ w ∈ Cond.classLink RX5 256 "java/lang/IndexOutOfBoundsException" :: Cond.initialized "java/lang/IndexOutOfBoundsException" :: vx_atS RX5 260 "java/lang/IndexOutOfBoundsException" znm, vx_ot w = true := by decide +kernel
theorem zfit_B : Bundle.fit "java/lang/IndexOutOfBoundsException" = true := by decide +kernel
