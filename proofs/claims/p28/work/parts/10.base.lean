/-- the cells of the desk: six objects, 33 arrays; the numbers are read off g: rows 0 to 5 the objects own numbers, row k the array k -/
def zC (ty : Nat → ClassId) (g : Nat → Nat → Int32) (ad : Nat → Nat) : va_W := [
  (ad 0, .inr (5, [.ref (ad 1), .ref (ad 2), .ref (ad 3), .ref (ad 4), .ref (ad 5), .ref (ad 6), .int (g 0 0)])),
  (ad 1, .inr (4, [.int (g 1 0), .ref (ad 7), .ref (ad 8), .ref (ad 9), .ref (ad 10), .ref (ad 11)])),
  (ad 2, .inr (2, [.int (g 2 0), .ref (ad 12), .ref (ad 13), .ref (ad 14), .int (g 2 1), .ref (ad 15), .ref (ad 16), .ref (ad 17), .ref (ad 18)])),
  (ad 3, .inr (1, [.ref (ad 19), .ref (ad 20), .ref (ad 21), .ref (ad 22)])),
  (ad 4, .inr (0, [.int (g 4 0), .ref (ad 23), .ref (ad 24), .ref (ad 25), .ref (ad 26), .ref (ad 27), .ref (ad 28)])),
  (ad 5, .inr (3, [.int (g 5 0), .ref (ad 29), .ref (ad 30), .ref (ad 31), .ref (ad 32), .ref (ad 33), .ref (ad 34), .ref (ad 35), .ref (ad 36), .ref (ad 37), .ref (ad 38)])),
  (ad 6, .inl (ty 0, 48, .inl (g 6))),
  (ad 7, .inl (ty 0, 8, .inl (g 7))),
  (ad 8, .inl (ty 0, 8, .inl (g 8))),
  (ad 9, .inl (ty 0, 48, .inl (g 9))),
  (ad 10, .inl (ty 0, 48, .inl (g 10))),
  (ad 11, .inl (ty 0, 48, .inl (g 11))),
  (ad 12, .inl (ty 0, 20, .inl (g 12))),
  (ad 13, .inl (ty 0, 20, .inl (g 13))),
  (ad 14, .inl (ty 0, 20, .inl (g 14))),
  (ad 15, .inl (ty 0, 120, .inl (g 15))),
  (ad 16, .inl (ty 0, 120, .inl (g 16))),
  (ad 17, .inl (ty 0, 120, .inl (g 17))),
  (ad 18, .inl (ty 1, 288, .inl (g 18))),
  (ad 19, .inl (ty 0, 288, .inl (g 19))),
  (ad 20, .inl (ty 1, 288, .inl (g 20))),
  (ad 21, .inl (ty 0, 288, .inl (g 21))),
  (ad 22, .inl (ty 0, 288, .inl (g 22))),
  (ad 23, .inl (ty 0, 16, .inl (g 23))),
  (ad 24, .inl (ty 0, 16, .inl (g 24))),
  (ad 25, .inl (ty 0, 16, .inl (g 25))),
  (ad 26, .inl (ty 0, 16, .inl (g 26))),
  (ad 27, .inl (ty 0, 16, .inl (g 27))),
  (ad 28, .inl (ty 0, 16, .inl (g 28))),
  (ad 29, .inl (ty 0, 40, .inl (g 29))),
  (ad 30, .inl (ty 0, 40, .inl (g 30))),
  (ad 31, .inl (ty 0, 40, .inl (g 31))),
  (ad 32, .inl (ty 0, 40, .inl (g 32))),
  (ad 33, .inl (ty 0, 40, .inl (g 33))),
  (ad 34, .inl (ty 0, 40, .inl (g 34))),
  (ad 35, .inl (ty 0, 40, .inl (g 35))),
  (ad 36, .inl (ty 0, 40, .inl (g 36))),
  (ad 37, .inl (ty 0, 40, .inl (g 37))),
  (ad 38, .inl (ty 0, 240, .inl (g 38)))]
abbrev zT (ty : Nat → ClassId) : List (ClassId × FieldType) := [(ty 0, .int), (ty 1, .boolean)]
/-- the words of the nest: fields and methods that the classes share -/
def zNl : List Cond := [(Jvm.Cond.methodLinkNest "DatamarketDesk" (11 : Nat) ({ cls := "DatamarketDesk$Shelf", name := "<init>", desc := "()V" } : Jvm.MethodName) "DatamarketDesk"), (Jvm.Cond.fieldLinkNest "DatamarketDesk" (59 : Nat) "DatamarketDesk$Shelf" "setCount" "I" "DatamarketDesk"), (Jvm.Cond.fieldLinkNest "DatamarketDesk" (165 : Nat) "DatamarketDesk$Shelf" "fields" "[I" "DatamarketDesk"), (Jvm.Cond.fieldLinkNest "DatamarketDesk" (117 : Nat) "DatamarketDesk$Shelf" "versions" "[I" "DatamarketDesk"), (Jvm.Cond.fieldLinkNest "DatamarketDesk" (83 : Nat) "DatamarketDesk$Shelf" "prices" "[I" "DatamarketDesk"), (Jvm.Cond.fieldLinkNest "DatamarketDesk" (86 : Nat) "DatamarketDesk$Shelf" "rules" "[I" "DatamarketDesk"), (Jvm.Cond.methodLinkNest "DatamarketDesk" (18 : Nat) ({ cls := "DatamarketDesk$Lineage", name := "<init>", desc := "()V" } : Jvm.MethodName) "DatamarketDesk"), (Jvm.Cond.fieldLinkNest "DatamarketDesk" (96 : Nat) "DatamarketDesk$Lineage" "sourceCount" "I" "DatamarketDesk"), (Jvm.Cond.fieldLinkNest "DatamarketDesk" (105 : Nat) "DatamarketDesk$Lineage" "sourceShares" "[I" "DatamarketDesk"), (Jvm.Cond.methodLinkNest "DatamarketDesk" (25 : Nat) ({ cls := "DatamarketDesk$Harms", name := "<init>", desc := "()V" } : Jvm.MethodName) "DatamarketDesk"), (Jvm.Cond.fieldLinkNest "DatamarketDesk" (153 : Nat) "DatamarketDesk$Harms" "now" "[I" "DatamarketDesk"), (Jvm.Cond.methodLinkNest "DatamarketDesk" (32 : Nat) ({ cls := "DatamarketDesk$Contracts", name := "<init>", desc := "()V" } : Jvm.MethodName) "DatamarketDesk"), (Jvm.Cond.fieldLinkNest "DatamarketDesk" (200 : Nat) "DatamarketDesk$Contracts" "count" "I" "DatamarketDesk"), (Jvm.Cond.fieldLinkNest "DatamarketDesk" (389 : Nat) "DatamarketDesk$Contracts" "fields" "[I" "DatamarketDesk"), (Jvm.Cond.methodLinkNest "DatamarketDesk" (39 : Nat) ({ cls := "DatamarketDesk$Reads", name := "<init>", desc := "()V" } : Jvm.MethodName) "DatamarketDesk"), (Jvm.Cond.fieldLinkNest "DatamarketDesk" (225 : Nat) "DatamarketDesk$Reads" "count" "I" "DatamarketDesk"), (Jvm.Cond.fieldLinkNest "DatamarketDesk" (261 : Nat) "DatamarketDesk$Reads" "readers" "[I" "DatamarketDesk"), (Jvm.Cond.fieldLinkNest "DatamarketDesk" (264 : Nat) "DatamarketDesk$Reads" "sets" "[I" "DatamarketDesk"), (Jvm.Cond.fieldLinkNest "DatamarketDesk" (267 : Nat) "DatamarketDesk$Reads" "versions" "[I" "DatamarketDesk"), (Jvm.Cond.fieldLinkNest "DatamarketDesk" (268 : Nat) "DatamarketDesk$Reads" "fields" "[I" "DatamarketDesk"), (Jvm.Cond.fieldLinkNest "DatamarketDesk" (269 : Nat) "DatamarketDesk$Reads" "rows" "[I" "DatamarketDesk"), (Jvm.Cond.fieldLinkNest "DatamarketDesk" (291 : Nat) "DatamarketDesk$Reads" "purposes" "[I" "DatamarketDesk"), (Jvm.Cond.fieldLinkNest "DatamarketDesk" (272 : Nat) "DatamarketDesk$Reads" "days" "[I" "DatamarketDesk"), (Jvm.Cond.fieldLinkNest "DatamarketDesk" (278 : Nat) "DatamarketDesk$Reads" "tiers" "[I" "DatamarketDesk"), (Jvm.Cond.fieldLinkNest "DatamarketDesk" (288 : Nat) "DatamarketDesk$Reads" "billed" "[I" "DatamarketDesk"), (Jvm.Cond.fieldLinkNest "DatamarketDesk" (379 : Nat) "DatamarketDesk$Reads" "charges" "[I" "DatamarketDesk"), (Jvm.Cond.castable "java/lang/IllegalArgumentException" "java/lang/IllegalArgumentException"), (Jvm.Cond.declares ({ cls := "java/lang/RuntimeException", name := "<init>", desc := "()V" } : Jvm.MethodName)), (Jvm.Cond.declares ({ cls := "java/lang/RuntimeException", name := "<init>", desc := "(Ljava/lang/String;)V" } : Jvm.MethodName)), (Jvm.Cond.declares ({ cls := "java/lang/Exception", name := "<init>", desc := "()V" } : Jvm.MethodName)), (Jvm.Cond.declares ({ cls := "java/lang/Exception", name := "<init>", desc := "(Ljava/lang/String;)V" } : Jvm.MethodName)), (Jvm.Cond.declares ({ cls := "java/lang/Throwable", name := "<init>", desc := "()V" } : Jvm.MethodName)), (Jvm.Cond.declares ({ cls := "java/lang/Throwable", name := "<init>", desc := "(Ljava/lang/String;)V" } : Jvm.MethodName)), (Jvm.Cond.castable "java/lang/IllegalStateException" "java/lang/IllegalStateException"), (Jvm.Cond.methodLinkNest "DatamarketDesk$Shelf" (31 : Nat) ({ cls := "DatamarketDesk", name := "fieldAt", desc := "(II)I" } : Jvm.MethodName) "DatamarketDesk"), (Jvm.Cond.castable "java/lang/IndexOutOfBoundsException" "java/lang/IndexOutOfBoundsException"), (Jvm.Cond.methodLinkNest "DatamarketDesk$Shelf" (35 : Nat) ({ cls := "DatamarketDesk", name := "versionAt", desc := "(II)I" } : Jvm.MethodName) "DatamarketDesk"), (Jvm.Cond.methodLinkNest "DatamarketDesk$Lineage" (47 : Nat) ({ cls := "DatamarketDesk", name := "placeAt", desc := "(III)I" } : Jvm.MethodName) "DatamarketDesk"), (Jvm.Cond.methodLinkNest "DatamarketDesk$Reads" (65 : Nat) ({ cls := "DatamarketDesk", name := "placeAt", desc := "(III)I" } : Jvm.MethodName) "DatamarketDesk"), (Jvm.Cond.methodLinkNest "DatamarketDesk$Reads" (62 : Nat) ({ cls := "DatamarketDesk", name := "chargeAt", desc := "(II)I" } : Jvm.MethodName) "DatamarketDesk")]
def zN (U : State) : Prop := ∀ w ∈ zNl, va_Nw w U
theorem zNl_tbl : ∀ w ∈ zNl, w ∈ lw_tbl := by decide +kernel
theorem zN.same {u U : State} (h : u.vm = U.vm) (hN : zN u) : zN U := fun w hw => by
  have k : w.onTables = true := by
    have a : zNl.all (fun w => w.onTables) = true := by decide +kernel
    exact List.all_eq_true.mp a w hw
  exact (hN w hw).same k h
def zNok (w : Cond) : Bool := match w with
  | .fieldLinkNest .. => true
  | .methodLinkNest .. => true
  | .declares _ => true
  | .castable .. => true
  | _ => false
theorem zN.warm {s U : State} (hW : s.WarmedH U.vm) (hN : zN s) : zN U := fun w hw => by
  have k : zNok w = true := by
    have a : zNl.all zNok = true := by decide +kernel
    exact List.all_eq_true.mp a w hw
  have h := hN w hw
  cases w <;> first | exact va_Nw.warmF hW h | exact va_Nw.warmM hW h | exact va_Nw.warmD hW h | exact va_Nw.warmC hW h | (simp [zNok] at k)
theorem zN.use {A : Array Value} {s : State} (hN : zN s) {w : Cond} (hw : w ∈ zNl) : w.before A s = true := by
  have k : w.onTables = true := by
    have a : zNl.all (fun w => w.onTables) = true := by decide +kernel
    exact List.all_eq_true.mp a w hw
  exact (hN w hw).use k
/-- the desk as it stands in a state -/
def zI (D : va_G) (ty : Nat → ClassId) (g : Nat → Nat → Int32) (ad : Nat → Nat) (U : State) : Prop := va_P D vwCl (zC ty g ad) U.heap ∧ va_K D vwCl (zT ty) U ∧ zN U
theorem zI_blind {D : va_G} {ty : Nat → ClassId} {g : Nat → Nat → Int32} {ad : Nat → Nat} : ∀ (a : Array Value) (U : State) (f : JFrame) (mk : MethodId), zI D ty g ad U → zI D ty g ad (U.calling f mk a) := fun a U f mk h => ⟨h.1, va_K.moved (u := U) (U := U.calling f mk a) (Vm.Alike.refl U.vm) h.2.1, zN.same (u := U) (U := U.calling f mk a) rfl h.2.2⟩
theorem zW_blind {D : va_G} {ty : Nat → ClassId} {g : Nat → Nat → Int32} {ad : Nat → Nat} {sz : Nat} : ∀ (a : Array Value) (U : State) (f : JFrame) (mk : MethodId), (zI D ty g ad U ∧ U.heap.size = sz) → (zI D ty g ad (U.calling f mk a) ∧ (U.calling f mk a).heap.size = sz) := fun a U f mk h => ⟨zI_blind a U f mk h.1, h.2⟩
theorem zI_pre {s : State} {H : Heap} {D : va_G} {ty : Nat → ClassId} {g : Nat → Nat → Int32} {ad : Nat → Nat} (hP : va_P D vwCl (zC ty g ad) H) (hK : va_K D vwCl (zT ty) s) (hN : zN s) : ∀ U : State, U.heap = H → s.WarmedH U.vm → zI D ty g ad U := fun U hU hW => ⟨by rw [hU]; exact hP, va_K.moved hW.alike hK, hN.warm hW⟩
section ZB
variable {p : Program} {l : Launch} {e : Env} {R : Room} {s : State} {m : MethodId} {args : Array Value} {below : List Frame} {meth : Method} {c : Code} {H : Heap} {locs : List Loc} {cells slots : Nat} {Q : State → Prop}
variable {cc : ByteArray} {pc : Nat} {ls : Array Slot} {rest : List Value} {D : va_G} {cl : List vw_C} {A : Nat → Prop} {a : Nat} {tys : List (ClassId × FieldType)} {wl : va_W} {H0 : Heap}
/-- a method's walk from its entry -/
theorem zMet {y : MethodName} {ws ws' : List Cond} {rm : Room} {av : List Value} {B : State → Prop} {Qc : Array Value → State → Outcome → State → Prop} {mc ms : Nat} {free : Addr → Prop} {maxL : Nat} {ret : Option FieldType}
    (hy : plainName y.cls = true) (hw : ws = Cond.code y cc maxL ret :: ws') (hle : (lg_sl av).length ≤ maxL)
    (k : ∀ (p : Program) (e : Env) (s : State) (m : MethodId) (below : List Frame) (meth : Method) (c : Code), p.tables.exec = Jvm.exec → c.code = cc → meth.sig.returnType = ret → (∀ w ∈ ws, w.before av.toArray s = true) → s.vm.findClass y.cls = some m.cls → meth.locks = false → c.maxLocals = maxL → B s → ∀ ls : Array Slot, lv_has ls maxL (lv_args 0 av) →
      W p l e rm s m av.toArray below meth c s.heap [] 0 0 (MQ below Qc av.toArray s mc ms free) (F0 m 0 ls [])) : Met l y ws rm (va_Pc av B) Qc mc ms free := by
  refine Met.ofW (cc := cc) (maxL := maxL) (ret := ret) hy hw ?_
  intro p e s m args below meth c s₁ B hml hv
  obtain ⟨rfl, hv⟩ := hv
  have hl := lv_entry av (n := maxL) hle
  rw [lg_entry_eq]
  generalize (lg_sl av ++ List.replicate (maxL - (lg_sl av).length) Slot.unset).toArray = ls at hl ⊢
  exact k p e s m below meth c B.exec B.bytes B.returns (atoms_spec (ws := ws) B.pre) (findClass_of_methodNamed B.named) B.notSynchronized hml hv ls hl
/-- a loop, n its last count: what holds at its head -/
theorem zloop {τ : Type} (inv : Nat → τ → Array Slot → Heap → List Loc → Nat → Nat → Prop) (n : Nat) {st : List Value}
    (hs : ∀ i x ls H locs cells slots, i ≤ n → inv i x ls H locs cells slots → (∀ x' ls' H' locs' cells' slots', i < n → inv (i + 1) x' ls' H' locs' cells' slots' → W p l e R s m args below meth c H' locs' cells' slots' Q (F0 m pc ls' st)) → W p l e R s m args below meth c H locs cells slots Q (F0 m pc ls st)) :
    ∀ i x ls H locs cells slots, i ≤ n → inv i x ls H locs cells slots → W p l e R s m args below meth c H locs cells slots Q (F0 m pc ls st) := by
  have key : ∀ (k i : Nat) x ls H locs cells slots, n - i < k → i ≤ n → inv i x ls H locs cells slots → W p l e R s m args below meth c H locs cells slots Q (F0 m pc ls st) := by
    intro k
    induction k with
    | zero => intro i x ls H locs cells slots h; omega
    | succ k ih =>
      intro i x ls H locs cells slots h hi hinv
      exact hs i x ls H locs cells slots hi hinv (fun x' ls' H' locs' cells' slots' hlt h' => ih (i + 1) x' ls' H' locs' cells' slots' (by omega) (by omega) h')
  intro i x ls H locs cells slots hi h
  exact key (n - i + 1) i x ls H locs cells slots (by omega) hi h
/-- a loop that changes no cell -/
theorem zloopP {τ : Type} (inv : Nat → τ → Array Slot → Prop) (n : Nat) {st : List Value}
    (hs : ∀ i x ls, i ≤ n → inv i x ls → (∀ x' ls', i < n → inv (i + 1) x' ls' → W p l e R s m args below meth c H locs cells slots Q (F0 m pc ls' st)) → W p l e R s m args below meth c H locs cells slots Q (F0 m pc ls st)) :
    ∀ i x ls, i ≤ n → inv i x ls → W p l e R s m args below meth c H locs cells slots Q (F0 m pc ls st) := by
  have key : ∀ (k i : Nat) x ls, n - i < k → i ≤ n → inv i x ls → W p l e R s m args below meth c H locs cells slots Q (F0 m pc ls st) := by
    intro k
    induction k with
    | zero => intro i x ls h; omega
    | succ k ih =>
      intro i x ls h hi hinv
      exact hs i x ls hi hinv (fun x' ls' hlt h' => ih (i + 1) x' ls' (by omega) (by omega) h')
  intro i x ls hi h
  exact key (n - i + 1) i x ls (by omega) hi h
theorem zald (hexec : p.tables.exec = Jvm.exec) (hb : c.code = cc) (hK : va_K D cl tys s) (hP : va_P D cl wl H) (q0 t0 : Nat) {cA : ClassId} {n : Nat} {f : Nat → Int32} (ha : wl[q0]? = some (a, .inl (cA, n, .inl f))) (ht : tys[t0]? = some (cA, .int)) {i : Nat} (hi : i < n) (hn : n < 2 ^ 31) (hdg : decode cc pc = .ok (.iaload, 1))
    (kk : W p l e R s m args below meth c H locs cells slots Q (F0 m (pc + 1) ls (.int (f i) :: rest))) : W p l e R s m args below meth c H locs cells slots Q (F0 m pc ls (.int (nI i) :: .ref a :: rest)) :=
  va_iald hexec hb hK hP q0 t0 ha ht (vp_in_nI hi hn) hdg (by rw [nI_clamp (by omega)]; exact kk)
theorem zaldz (hexec : p.tables.exec = Jvm.exec) (hb : c.code = cc) (hK : va_K D cl tys s) (hP : va_P D cl wl H) (q0 t0 : Nat) {cA : ClassId} {n : Nat} {f : Nat → Int32} (ha : wl[q0]? = some (a, .inl (cA, n, .inl f))) (ht : tys[t0]? = some (cA, .boolean)) {i : Nat} (hi : i < n) (hn : n < 2 ^ 31) (hdg : decode cc pc = .ok (.baload, 1))
    (kk : W p l e R s m args below meth c H locs cells slots Q (F0 m (pc + 1) ls (.int (f i) :: rest))) : W p l e R s m args below meth c H locs cells slots Q (F0 m pc ls (.int (nI i) :: .ref a :: rest)) :=
  va_zald hexec hb hK hP q0 t0 ha ht (vp_in_nI hi hn) hdg (by rw [nI_clamp (by omega)]; exact kk)
theorem zast (hexec : p.tables.exec = Jvm.exec) (hb : c.code = cc) (hK : va_K D cl tys s) (hP : va_P D cl wl H) (hD : va_D A wl) (hS : va_S A H0 H locs) (q0 t0 : Nat) {cA : ClassId} {n : Nat} {f : Nat → Int32} (ha : wl[q0]? = some (a, .inl (cA, n, .inl f))) (ht : tys[t0]? = some (cA, .int)) {i : Nat} {x : Int32} (hi : i < n) (hn : n < 2 ^ 31) (hdg : decode cc pc = .ok (.iastore, 1))
    (kk : ∀ (H1 : Heap) (locs1 : List Loc), va_P D cl (wl.set q0 (a, .inl (cA, n, .inl (upd f i x)))) H1 → va_S A H0 H1 locs1 → W p l e R s m args below meth c H1 locs1 cells slots Q (F0 m (pc + 1) ls rest)) : W p l e R s m args below meth c H locs cells slots Q (F0 m pc ls (.int x :: .int (nI i) :: .ref a :: rest)) :=
  va_iast hexec hb hK hP hD hS q0 t0 ha ht (vp_in_nI hi hn) hdg (by rw [nI_clamp (by omega)]; exact fun H1 locs1 h1 _ h3 => kk H1 locs1 h1 h3)
end ZB
section ZC
variable {p : Program} {l : Launch} {e : Env} {R : Room} {s : State} {m : MethodId} {args : Array Value} {below : List Frame} {meth : Method} {c : Code} {H : Heap} {locs : List Loc} {cells slots : Nat} {Q : State → Prop}
variable {y : MethodName} {bytes cc : ByteArray} {maxL nL mc ms n index pc : Nat} {ret : Option FieldType} {ws : List Cond} {rm : Room} {free : Addr → Prop} {Ts : List Cond} {own C host : String} {b : Addr} {As rest st0 : List Value} {ls : Array Slot} {B : State → Prop}
theorem zBl {av : List Value} (hbl : ∀ (a : Array Value) (U : State) (f : JFrame) (mk : MethodId), B U → B (U.calling f mk a)) : FrameBlind (va_Pc av B) := fun a U f mk q => ⟨q.1, hbl a U f mk q.2⟩
theorem zcVi {post : Int32 → Prop} (S : CallFix p m c cc nL s args Ts own) (hM : Met l y ws rm (va_Pc (.ref b :: As) B) (vp_Si post) 0 0 (fun _ => False)) (cw : CallW R s args own C index y bytes maxL ret ws rm 0 0 n) (hbl : ∀ (a : Array Value) (U : State) (f : JFrame) (mk : MethodId), B U → B (U.calling f mk a)) (hB : ∀ U : State, U.heap = H → s.WarmedH U.vm → B U) (hrec : ∃ cellB : Cell, H[b]? = some cellB ∧ cellB.vm.isStatics = false ∧ s.vm.findClass C = some cellB.cls) (hn : As.length = n) (hsz : ls.size = nL) (hst : st0 = As.reverse ++ .ref b :: rest) (hW : (rest.map fun v => v.category).sum ≤ 8) (hdg : decode cc pc = .ok (.invokevirtual index, 3)) (hc : cells ≤ R.cells ∧ slots ≤ R.slots)
    (kk : ∀ r : Int32, post r → W p l e R s m args below meth c H locs cells slots Q (F0 m (pc + 3) ls (.int r :: rest))) : W p l e R s m args below meth c H locs cells slots Q (F0 m pc ls st0) :=
  vp_callSi (W.runV S hM cw ⟨zBl hbl, hrec, fun U h1 h2 => ⟨rfl, hB U h1 h2⟩⟩ rfl hn hsz hst (lv_room hW) hdg hc) kk
theorem zcVl {post : Int64 → Prop} (S : CallFix p m c cc nL s args Ts own) (hM : Met l y ws rm (va_Pc (.ref b :: As) B) (vp_Sl post) 0 0 (fun _ => False)) (cw : CallW R s args own C index y bytes maxL ret ws rm 0 0 n) (hbl : ∀ (a : Array Value) (U : State) (f : JFrame) (mk : MethodId), B U → B (U.calling f mk a)) (hB : ∀ U : State, U.heap = H → s.WarmedH U.vm → B U) (hrec : ∃ cellB : Cell, H[b]? = some cellB ∧ cellB.vm.isStatics = false ∧ s.vm.findClass C = some cellB.cls) (hn : As.length = n) (hsz : ls.size = nL) (hst : st0 = As.reverse ++ .ref b :: rest) (hW : (rest.map fun v => v.category).sum ≤ 8) (hdg : decode cc pc = .ok (.invokevirtual index, 3)) (hc : cells ≤ R.cells ∧ slots ≤ R.slots)
    (kk : ∀ r : Int64, post r → W p l e R s m args below meth c H locs cells slots Q (F0 m (pc + 3) ls (.long r :: rest))) : W p l e R s m args below meth c H locs cells slots Q (F0 m pc ls st0) :=
  vp_callSl (W.runV S hM cw ⟨zBl hbl, hrec, fun U h1 h2 => ⟨rfl, hB U h1 h2⟩⟩ rfl hn hsz hst (lv_room hW) hdg hc) kk
theorem zcVv {post : Unit → Prop} (S : CallFix p m c cc nL s args Ts own) (hM : Met l y ws rm (va_Pc (.ref b :: As) B) (va_Sv post) 0 0 (fun _ => False)) (cw : CallW R s args own C index y bytes maxL ret ws rm 0 0 n) (hbl : ∀ (a : Array Value) (U : State) (f : JFrame) (mk : MethodId), B U → B (U.calling f mk a)) (hB : ∀ U : State, U.heap = H → s.WarmedH U.vm → B U) (hrec : ∃ cellB : Cell, H[b]? = some cellB ∧ cellB.vm.isStatics = false ∧ s.vm.findClass C = some cellB.cls) (hn : As.length = n) (hsz : ls.size = nL) (hst : st0 = As.reverse ++ .ref b :: rest) (hW : (rest.map fun v => v.category).sum ≤ 8) (hdg : decode cc pc = .ok (.invokevirtual index, 3)) (hc : cells ≤ R.cells ∧ slots ≤ R.slots)
    (kk : post () → W p l e R s m args below meth c H locs cells slots Q (F0 m (pc + 3) ls rest)) : W p l e R s m args below meth c H locs cells slots Q (F0 m pc ls st0) :=
  va_csv (W.runV S hM cw ⟨zBl hbl, hrec, fun U h1 h2 => ⟨rfl, hB U h1 h2⟩⟩ rfl hn hsz hst (lv_room hW) hdg hc) kk
theorem zcSi {post : Int32 → Prop} (S : CallFix p m c cc nL s args Ts own) (hM : Met l y ws rm (va_Pc As B) (vp_Si post) 0 0 (fun _ => False)) (cw : (CallB R s args own index y bytes maxL ret ws rm 0 0 n ∧ (Cond.static y).before args s = true)) (hbl : ∀ (a : Array Value) (U : State) (f : JFrame) (mk : MethodId), B U → B (U.calling f mk a)) (hB : ∀ U : State, U.heap = H → s.WarmedH U.vm → B U) (hn : As.length = n) (hsz : ls.size = nL) (hst : st0 = As.reverse ++ rest) (hW : (rest.map fun v => v.category).sum ≤ 8) (hdg : decode cc pc = .ok (.invokestatic index, 3)) (hc : cells ≤ R.cells ∧ slots ≤ R.slots)
    (kk : ∀ r : Int32, post r → W p l e R s m args below meth c H locs cells slots Q (F0 m (pc + 3) ls (.int r :: rest))) : W p l e R s m args below meth c H locs cells slots Q (F0 m pc ls st0) :=
  vp_callSi (W.runS S hM cw ⟨zBl hbl, fun U h1 h2 => ⟨rfl, hB U h1 h2⟩⟩ rfl hn hsz hst (lv_room hW) hdg hc) kk
theorem zcSv {post : Unit → Prop} (S : CallFix p m c cc nL s args Ts own) (hM : Met l y ws rm (va_Pc As B) (va_Sv post) 0 0 (fun _ => False)) (cw : (CallB R s args own index y bytes maxL ret ws rm 0 0 n ∧ (Cond.static y).before args s = true)) (hbl : ∀ (a : Array Value) (U : State) (f : JFrame) (mk : MethodId), B U → B (U.calling f mk a)) (hB : ∀ U : State, U.heap = H → s.WarmedH U.vm → B U) (hn : As.length = n) (hsz : ls.size = nL) (hst : st0 = As.reverse ++ rest) (hW : (rest.map fun v => v.category).sum ≤ 8) (hdg : decode cc pc = .ok (.invokestatic index, 3)) (hc : cells ≤ R.cells ∧ slots ≤ R.slots)
    (kk : post () → W p l e R s m args below meth c H locs cells slots Q (F0 m (pc + 3) ls rest)) : W p l e R s m args below meth c H locs cells slots Q (F0 m pc ls st0) :=
  va_csv (W.runS S hM cw ⟨zBl hbl, fun U h1 h2 => ⟨rfl, hB U h1 h2⟩⟩ rfl hn hsz hst (lv_room hW) hdg hc) kk
theorem zcSNi {post : Int32 → Prop} (S : CallFix p m c cc nL s args Ts own) (hM : Met l y ws rm (va_Pc As B) (vp_Si post) 0 0 (fun _ => False)) (cw : (va_CN R s args own index y host bytes maxL ret ws rm 0 0 n ∧ (Cond.static y).before args s = true ∧ True)) (hbl : ∀ (a : Array Value) (U : State) (f : JFrame) (mk : MethodId), B U → B (U.calling f mk a)) (hB : ∀ U : State, U.heap = H → s.WarmedH U.vm → B U) (hn : As.length = n) (hsz : ls.size = nL) (hst : st0 = As.reverse ++ rest) (hW : (rest.map fun v => v.category).sum ≤ 8) (hdg : decode cc pc = .ok (.invokestatic index, 3)) (hc : cells ≤ R.cells ∧ slots ≤ R.slots)
    (kk : ∀ r : Int32, post r → W p l e R s m args below meth c H locs cells slots Q (F0 m (pc + 3) ls (.int r :: rest))) : W p l e R s m args below meth c H locs cells slots Q (F0 m pc ls st0) :=
  vp_callSi (va_runSN S hM cw ⟨zBl hbl, fun U h1 h2 => ⟨rfl, hB U h1 h2⟩⟩ rfl hn hsz hst (lv_room hW) hdg hc).run kk
theorem zcSNv {post : Unit → Prop} (S : CallFix p m c cc nL s args Ts own) (hM : Met l y ws rm (va_Pc As B) (va_Sv post) 0 0 (fun _ => False)) (cw : (va_CN R s args own index y host bytes maxL ret ws rm 0 0 n ∧ (Cond.static y).before args s = true ∧ True)) (hbl : ∀ (a : Array Value) (U : State) (f : JFrame) (mk : MethodId), B U → B (U.calling f mk a)) (hB : ∀ U : State, U.heap = H → s.WarmedH U.vm → B U) (hn : As.length = n) (hsz : ls.size = nL) (hst : st0 = As.reverse ++ rest) (hW : (rest.map fun v => v.category).sum ≤ 8) (hdg : decode cc pc = .ok (.invokestatic index, 3)) (hc : cells ≤ R.cells ∧ slots ≤ R.slots)
    (kk : post () → W p l e R s m args below meth c H locs cells slots Q (F0 m (pc + 3) ls rest)) : W p l e R s m args below meth c H locs cells slots Q (F0 m pc ls st0) :=
  va_csv (va_runSN S hM cw ⟨zBl hbl, fun U h1 h2 => ⟨rfl, hB U h1 h2⟩⟩ rfl hn hsz hst (lv_room hW) hdg hc).run kk
end ZC
section ZD
variable {p : Program} {l : Launch} {e : Env} {R : Room} {s : State} {m : MethodId} {args : Array Value} {below : List Frame} {meth : Method} {c : Code} {H : Heap} {locs : List Loc} {cells slots : Nat} {Q : State → Prop}
variable {cc : ByteArray} {pc : Nat} {ls : Array Slot} {rest : List Value} {D : va_G} {cl : List vw_C} {A : Nat → Prop} {a : Nat} {tys : List (ClassId × FieldType)} {wl : va_W} {H0 : Heap}
/-- the top number by another name -/
theorem zeq {x y : Int32} (h : x = y) (k : W p l e R s m args below meth c H locs cells slots Q (F0 m pc ls (.int y :: rest))) : W p l e R s m args below meth c H locs cells slots Q (F0 m pc ls (.int x :: rest)) := by
  rw [h]; exact k
theorem zastz (hexec : p.tables.exec = Jvm.exec) (hb : c.code = cc) (hK : va_K D cl tys s) (hP : va_P D cl wl H) (hD : va_D A wl) (hS : va_S A H0 H locs) (q0 t0 : Nat) {cA : ClassId} {n : Nat} {f : Nat → Int32} (ha : wl[q0]? = some (a, .inl (cA, n, .inl f))) (ht : tys[t0]? = some (cA, .boolean)) {i : Nat} {x : Int32} (hi : i < n) (hn : n < 2 ^ 31) (hx : vp_nar .boolean x = x) (hdg : decode cc pc = .ok (.bastore, 1))
    (kk : ∀ (H1 : Heap) (locs1 : List Loc), va_P D cl (wl.set q0 (a, .inl (cA, n, .inl (upd f i x)))) H1 → va_S A H0 H1 locs1 → W p l e R s m args below meth c H1 locs1 cells slots Q (F0 m (pc + 1) ls rest)) : W p l e R s m args below meth c H locs cells slots Q (F0 m pc ls (.int x :: .int (nI i) :: .ref a :: rest)) :=
  va_zast hexec hb hK hP hD hS q0 t0 ha ht (vp_in_nI hi hn) hdg (by rw [nI_clamp (by omega), hx]; exact fun H1 locs1 h1 _ h3 => kk H1 locs1 h1 h3)
end ZD
def bI (b : Bool) : Int32 := if b then 1 else 0
theorem bI_f {b : Bool} (h : bI b = 0) : b = false := by cases b <;> simp_all [bI]
theorem bI_t {b : Bool} (h : ¬ bI b = 0) : b = true := by cases b <;> simp_all [bI]
theorem bI_1 {b : Bool} (h : b = true) : (1 : Int32) = bI b := by rw [h]; rfl
theorem bI_0 {b : Bool} (h : b = false) : (0 : Int32) = bI b := by rw [h]; rfl
theorem bI_n1 {b : Bool} (h : b = true) : nI 1 = bI b := by rw [h]; rfl
theorem bI_n0 {b : Bool} (h : b = false) : nI 0 = bI b := by rw [h]; rfl
def zmax (x y : Int32) : Int32 := if x < y then y else x
theorem zmax_def (x y : Int32) : zmax x y = (if x < y then y else x) := rfl
theorem nI_ne_m1 {k : Nat} (h : k < 2 ^ 31) : ¬ nI k = -1 := fun e => nI_pos h (by rw [e]; decide)
theorem zmin_def0 : True := trivial
theorem zeqT {a b : Nat} (ha : a < 2 ^ 31) (hb : b < 2 ^ 31) (h : nI a = nI b) : a = b := (nI_eq ha hb).mp h
theorem zn_eqT {a b : Nat} (ha : a < 2 ^ 31) (hb : b < 2 ^ 31) (h : nI a = nI b) : a = b := (nI_eq ha hb).mp h
theorem zn_eqF {a b : Nat} (ha : a < 2 ^ 31) (hb : b < 2 ^ 31) (h : ¬ nI a = nI b) : a ≠ b := fun e => h ((nI_eq ha hb).mpr e)
theorem zn_neT {a b : Nat} (ha : a < 2 ^ 31) (hb : b < 2 ^ 31) (h : ¬ nI a = nI b) : a ≠ b := fun e => h ((nI_eq ha hb).mpr e)
theorem zn_neF {a b : Nat} (ha : a < 2 ^ 31) (hb : b < 2 ^ 31) (h : nI a = nI b) : a = b := (nI_eq ha hb).mp h
theorem zn_ltT {a b : Nat} (ha : a < 2 ^ 31) (hb : b < 2 ^ 31) (h : nI a < nI b) : a < b := (nI_ltI ha hb).mp h
theorem zn_ltF {a b : Nat} (ha : a < 2 ^ 31) (hb : b < 2 ^ 31) (h : ¬ nI a < nI b) : b ≤ a := Nat.le_of_not_lt fun e => h ((nI_ltI ha hb).mpr e)
theorem zn_geT {a b : Nat} (ha : a < 2 ^ 31) (hb : b < 2 ^ 31) (h : nI b ≤ nI a) : b ≤ a := (nI_leI hb ha).mp h
theorem zn_geF {a b : Nat} (ha : a < 2 ^ 31) (hb : b < 2 ^ 31) (h : ¬ nI b ≤ nI a) : a < b := Nat.lt_of_not_le fun e => h ((nI_leI hb ha).mpr e)
theorem zn_gtT {a b : Nat} (ha : a < 2 ^ 31) (hb : b < 2 ^ 31) (h : nI b < nI a) : b < a := (nI_ltI hb ha).mp h
theorem zn_gtF {a b : Nat} (ha : a < 2 ^ 31) (hb : b < 2 ^ 31) (h : ¬ nI b < nI a) : a ≤ b := Nat.le_of_not_lt fun e => h ((nI_ltI hb ha).mpr e)
theorem zn_leT {a b : Nat} (ha : a < 2 ^ 31) (hb : b < 2 ^ 31) (h : nI a ≤ nI b) : a ≤ b := (nI_leI ha hb).mp h
theorem zn_leF {a b : Nat} (ha : a < 2 ^ 31) (hb : b < 2 ^ 31) (h : ¬ nI a ≤ nI b) : b < a := Nat.lt_of_not_le fun e => h ((nI_leI ha hb).mpr e)
theorem zq_eqT {x : Nat} (hx : x < 2 ^ 31) (h : nI x = 0) : x = 0 := (nI_eq hx (by decide)).mp (h.trans nI_0.symm)
theorem zq_eqF {x : Nat} (hx : x < 2 ^ 31) (h : ¬ nI x = 0) : 0 < x := Nat.pos_of_ne_zero fun e => h (by rw [e]; exact nI_0)
theorem zq_neT {x : Nat} (hx : x < 2 ^ 31) (h : ¬ nI x = 0) : 0 < x := zq_eqF hx h
theorem zq_neF {x : Nat} (hx : x < 2 ^ 31) (h : nI x = 0) : x = 0 := zq_eqT hx h
theorem zq_ltT {x : Nat} (hx : x < 2 ^ 31) (h : nI x < 0) : False := nI_pos hx h
theorem zq_ltF {x : Nat} (hx : x < 2 ^ 31) (h : ¬ nI x < 0) : 0 ≤ x := Nat.zero_le x
theorem zq_geT {x : Nat} (hx : x < 2 ^ 31) (h : 0 ≤ nI x) : 0 ≤ x := Nat.zero_le x
theorem zq_geF {x : Nat} (hx : x < 2 ^ 31) (h : ¬ 0 ≤ nI x) : False := h (nI_pos' hx)
theorem zq_gtT {x : Nat} (hx : x < 2 ^ 31) (h : 0 < nI x) : 0 < x := (nI_ltI (by decide) hx).mp (by rw [nI_0]; exact h)
theorem zq_gtF {x : Nat} (hx : x < 2 ^ 31) (h : ¬ 0 < nI x) : x = 0 := Nat.eq_zero_of_not_pos fun e => h (by rw [← nI_0]; exact (nI_ltI (by decide) hx).mpr e)
theorem zq_leT {x : Nat} (hx : x < 2 ^ 31) (h : nI x ≤ 0) : x = 0 := zq_gtF hx (fun q => absurd h (Int32.not_le.mpr q))
theorem zq_leF {x : Nat} (hx : x < 2 ^ 31) (h : ¬ nI x ≤ 0) : 0 < x := zq_gtT hx (Int32.not_le.mp h)
/-- the desk's own places, and what is new -/
def AC (ad : Nat → Nat) (sz : Nat) : Nat → Prop := fun q => (∃ k, k < 39 ∧ q = ad k) ∨ sz ≤ q
def zIj (ad : Nat → Nat) : Prop := ∀ i j : Nat, i < 39 → j < 39 → ad i = ad j → i = j
theorem zC_len (ty : Nat → ClassId) (g : Nat → Nat → Int32) (ad : Nat → Nat) : (zC ty g ad).length = 39 := rfl
theorem zC_ad (ty : Nat → ClassId) (g : Nat → Nat → Int32) (ad : Nat → Nat) : (zC ty g ad).map (·.1) = (List.range 39).map ad := rfl
theorem zC_at {ty : Nat → ClassId} {g : Nat → Nat → Int32} {ad : Nat → Nat} {k : Nat} {q : Nat × va_E} (h : (zC ty g ad)[k]? = some q) : k < 39 ∧ q.1 = ad k := by
  have h1 : k < (zC ty g ad).length := (List.getElem?_eq_some_iff.mp h).1
  rw [zC_len] at h1
  have h2 : ((zC ty g ad).map (·.1))[k]? = some q.1 := by rw [List.getElem?_map, h]; rfl
  rw [zC_ad, List.getElem?_map, List.getElem?_range h1] at h2
  exact ⟨h1, (Option.some.inj h2).symm⟩
theorem zD {ty : Nat → ClassId} {g : Nat → Nat → Int32} {ad : Nat → Nat} {sz : Nat} (h : zIj ad) : va_D (AC ad sz) (zC ty g ad) := by
  refine ⟨fun i j p q hi hj hpq => ?_, fun k q hk => ?_⟩
  · obtain ⟨h1, h2⟩ := zC_at hi
    obtain ⟨h3, h4⟩ := zC_at hj
    exact h i j h1 h3 (h2.symm.trans (hpq.trans h4))
  · obtain ⟨h1, h2⟩ := zC_at hk
    exact Or.inl ⟨k, h1, h2⟩
def zmin (x y : Int32) : Int32 := if y < x then y else x
theorem zmin_def (x y : Int32) : zmin x y = (if y < x then y else x) := rfl
