theorem zMetD {y : MethodName} {l : Launch} {cc : ByteArray} {ws ws' : List Cond} {rm : Room} {av : List Value} {B : State → Prop} {Qc : Array Value → State → Outcome → State → Prop} {mc ms : Nat} {free : Addr → Prop} {maxL : Nat} {ret : Option FieldType}
    (hy : plainName y.cls = true) (hw : ws = Cond.code y cc maxL ret :: ws') (hle : (lg_sl av).length ≤ maxL)
    (k : ∀ (p : Program) (e : Env) (s : State) (m : MethodId) (below : List Frame) (meth : Method) (c : Code), p.tables.exec = Jvm.exec → c.code = cc → meth.sig.returnType = ret → (∀ w ∈ ws, w.before av.toArray (s.setDrawn s.drawn) = true) → s.vm.findClass y.cls = some m.cls → meth.locks = false → c.maxLocals = maxL → B s → s.drawn.sameBut s.drawn lw_cs → ∀ ls : Array Slot, lv_has ls maxL (lv_args 0 av) →
      W p l e rm (s.setDrawn s.drawn) m av.toArray below meth c s.heap [] 0 0 (MQD lw_cs below Qc av.toArray s mc ms free) (F0 m 0 ls [])) : MetD lw_cs l y ws rm (va_Pc av B) Qc mc ms free := by
  refine MetD.ofW (cc := cc) (maxL := maxL) (ret := ret) hy hw ?_
  intro p e s m args below meth c s₁ B hml hv hd0
  obtain ⟨rfl, hv⟩ := hv
  have hl := lv_entry av (n := maxL) hle
  rw [lg_entry_eq]
  generalize (lg_sl av ++ List.replicate (maxL - (lg_sl av).length) Slot.unset).toArray = ls at hl ⊢
  exact k p e s m below meth c B.exec B.bytes B.returns (dr_words (atoms_spec (ws := ws) B.pre) _) (findClass_of_methodNamed B.named) B.notSynchronized hml hv hd0 ls hl
theorem a64r (x : UInt64) : alike64 x x = true := by simp [alike64]
/-- the mean worth: what of each read is left of its charge -/
def mwN (g : Nat → Nat → Int32) (n5 : Nat) : UInt64 := if n5 = 0 then FP.dconst0 else FP.ddiv (FP.i2d (sumN (fCh g (-1) (-1)) n5 - sumN (fCr g (-1) (-1) 21) n5)) (FP.i2d (nI n5))
