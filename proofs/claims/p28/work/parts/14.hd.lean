theorem zMetI {y : MethodName} {l : Launch} {cc : ByteArray} {ws ws' : List Cond} {rm : Room} {av : List Value} {B : State → Prop} {Qc : Array Value → State → Outcome → State → Prop} {mc ms : Nat} {free : Addr → Prop} {maxL : Nat} {ret : Option FieldType}
    (hy : plainName y.cls = true) (hw : ws = Cond.code y cc maxL ret :: ws') (hle : (lg_sl av).length ≤ maxL)
    (k : ∀ (p : Program) (e : Env) (s : State) (m : MethodId) (below : List Frame) (meth : Method) (c : Code), p.tables.exec = Jvm.exec → c.code = cc → meth.sig.returnType = ret → (∀ w ∈ ws, w.before av.toArray s = true) → s.vm.findClass y.cls = some m.cls → meth.locks = false → c.maxLocals = maxL → B s → meth.name = y.name → ∀ ls : Array Slot, lv_has ls maxL (lv_args 0 av) →
      W p l e rm s m av.toArray below meth c s.heap [] 0 0 (MQ below Qc av.toArray s mc ms free) (F0 m 0 ls [])) : Met l y ws rm (va_Pc av B) Qc mc ms free := by
  refine Met.ofW (cc := cc) (maxL := maxL) (ret := ret) hy hw ?_
  intro p e s m args below meth c s₁ B hml hv
  obtain ⟨rfl, hv⟩ := hv
  have hl := lv_entry av (n := maxL) hle
  rw [lg_entry_eq]
  generalize (lg_sl av ++ List.replicate (maxL - (lg_sl av).length) Slot.unset).toArray = ls at hl ⊢
  exact k p e s m below meth c B.exec B.bytes B.returns (atoms_spec (ws := ws) B.pre) (findClass_of_methodNamed B.named) B.notSynchronized hml hv (name_of_methodNamed B.named B.method).1 ls hl
theorem zRAi {U : State} {a b : ClassId} (h : va_RA U a .int) (h' : va_RA U b .int) : a = b := Option.some.inj (Eq.trans (Eq.symm h) h')
theorem zRAz {U : State} {a b : ClassId} (h : va_RA U a .boolean) (h' : va_RA U b .boolean) : a = b := Option.some.inj (Eq.trans (Eq.symm h) h')
theorem zaI (n : Nat) : ∀ cA : ClassId, vp_cell cA (n, .inl (fun _ => 0)) = arrV cA n (fun _ => defaultValue .int) := fun _ => rfl
theorem zaZ (n : Nat) : ∀ cA : ClassId, vp_cell cA (n, .inl (fun _ => 0)) = arrV cA n (fun _ => defaultValue .boolean) := fun _ => rfl
/-- a state in which a world stands, and the tables -/
def wI (D : va_G) (ty : Nat → ClassId) (w : va_W) (A : Nat → Prop) (sz : Nat) (U : State) : Prop := va_P D vwCl w U.heap ∧ va_D A w ∧ va_K D vwCl (zT ty) U ∧ zN U ∧ U.heap.size = sz
theorem wI_blind {D : va_G} {ty : Nat → ClassId} {w : va_W} {A : Nat → Prop} {sz : Nat} : ∀ (a : Array Value) (U : State) (f : JFrame) (mk : MethodId), wI D ty w A sz U → wI D ty w A sz (U.calling f mk a) := fun a U f mk h => ⟨h.1, h.2.1, va_K.moved (u := U) (U := U.calling f mk a) (Vm.Alike.refl U.vm) h.2.2.1, zN.same (u := U) (U := U.calling f mk a) rfl h.2.2.2.1, h.2.2.2.2⟩
theorem nI_n0' {k : Nat} (h : k < 2 ^ 31) : ¬ nI k < 0 := nI_pos h
theorem zC_get {ty : Nat → ClassId} {g : Nat → Nat → Int32} {ad : Nat → Nat} : ∀ k, k < 39 → ∃ e, (zC ty g ad)[k]? = some (ad k, e) := by
  intro k hk
  have h1 : k < (zC ty g ad).length := by rw [zC_len]; exact hk
  refine ⟨((zC ty g ad)[k]).2, ?_⟩
  rw [List.getElem?_eq_getElem h1]
  have h2 : ((zC ty g ad).map (·.1))[k]? = some (ad k) := by rw [zC_ad, List.getElem?_map, List.getElem?_range hk]; rfl
  rw [List.getElem?_map, List.getElem?_eq_getElem h1] at h2
  have h3 : ((zC ty g ad)[k]).1 = ad k := Option.some.inj h2
  rw [← h3]
theorem vA1 {q x n : Nat} {e : va_E} (h : va_A [(q, e)] n x) : x = q ∨ n ≤ x := by
  rcases h with ⟨k, e', h⟩ | h
  · have hz : k < 1 := (List.getElem?_eq_some_iff.mp h).1
    rw [show k = 0 by omega] at h
    cases h
    exact Or.inl rfl
  · exact Or.inr h
