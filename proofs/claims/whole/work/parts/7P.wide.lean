/-! contracts in a larger room, with weaker words behind; calls of methods with handlers -/
theorem zroom {s : State} {pl : Platform} {r r' : Room} (hf : r.frames ≤ r'.frames) (hl : r.locals ≤ r'.locals) (hc : r.cells ≤ r'.cells) (hs : r.slots ≤ r'.slots) (h : s.hasRoom pl r' = true) : s.hasRoom pl r = true := by
  simp only [State.hasRoom, Bool.and_eq_true, decide_eq_true_eq] at h ⊢
  obtain ⟨⟨⟨⟨y, a, b, c, d, e⟩, f⟩, g⟩, i⟩ := h
  exact ⟨⟨⟨⟨by omega, by omega, by omega, by omega, by omega, e⟩, by omega⟩, by omega⟩, i⟩
section WIDE
variable {l : Launch} {y : MethodName} {ws : List Cond} {rm rm' : Room} {Pc Pc' : Array Value → State → Prop} {Qc Qc' : Array Value → State → Outcome → State → Prop} {mc ms mc' ms' : Nat} {free free' : Addr → Prop}
theorem met_wide (h : Met l y ws rm Pc Qc mc ms free) (hf : rm.frames ≤ rm'.frames) (hl : rm.locals ≤ rm'.locals) (hc : rm.cells ≤ rm'.cells) (hs : rm.slots ≤ rm'.slots) (hmc : mc ≤ mc') (hms : ms ≤ ms') (hfr : ∀ q, free q → free' q) (hP : ∀ a s, Pc' a s → Pc a s) (hQ : ∀ a s o t, Pc' a s → s.WarmedH t.vm → Qc a s o t → Qc' a s o t) : Met l y ws rm' Pc' Qc' mc' ms' free' := by
  intro p e ha hcs hk s m args below hfr' happ hP' _
  obtain ⟨a1, a2, a3, a4, a5, a6, a7, a8⟩ := (Spec.appliesLoose_iff hfr').mp happ
  obtain ⟨n, o, h1, h2, h3, h4, L, h5, h6⟩ := h p e ha hcs hk s m args below hfr' ((Spec.appliesLoose_iff hfr').mpr ⟨a1, a2, a3, a4, a5, a6, zroom hf hl hc hs a7, a8⟩) (hP _ _ hP') trivial
  exact ⟨n, o, h1, h2, h3, hQ _ _ _ _ hP' h5.2.1 h4, L, ⟨h5.1, h5.2.1, h5.2.2.mono hmc hms⟩, fun q hq => hfr _ (h6 q hq)⟩
end WIDE
/-- an asker, as one that leaves the numbers as they are -/
theorem met_rd {l : Launch} {y : MethodName} {ws : List Cond} {rm : Room} {av : List Value} {D : va_G} {ty : Nat → ClassId} {g : Nat → Nat → Int32} {ad : Nat → Nat} {sz : Nat} {a : Int32} (h : Met l y ws rm (va_Pc av (zI D ty g ad)) (vp_Si (fun v => v = a)) 0 0 (fun _ => False)) : Met l y ws rm (va_Pc av (fun U => zI D ty g ad U ∧ U.heap.size = sz)) (va_Qi (fun (v9 : Int32) (g2 : Nat → Nat → Int32) => v9 = a ∧ g2 = g) (fun g2 t => zI D ty g2 ad t) (AC ad sz)) 0 0 (AC ad sz) :=
  met_wide h (Nat.le_refl _) (Nat.le_refl _) (Nat.le_refl _) (Nat.le_refl _) (Nat.le_refl _) (Nat.le_refl _) (fun _ q => q.elim) (fun _ _ q => ⟨q.1, q.2.1⟩) (fun _ s _ t hp hW ⟨r, ho, hr, hh⟩ => ⟨⟨r, g, ho, ⟨hr, rfl⟩, by rw [hh]; exact hp.2.1.1, va_K.moved hW.alike hp.2.1.2.1, hp.2.1.2.2.warm hW⟩, by rw [hh]; exact Nat.le_refl _, fun q _ _ => by rw [hh]⟩)
theorem zMetH {y : MethodName} {l : Launch} {cc : ByteArray} {ws ws' : List Cond} {rm : Room} {av : List Value} {B : State → Prop} {Qc : Array Value → State → Outcome → State → Prop} {mc ms : Nat} {free : Addr → Prop} {maxL : Nat} {ret : Option FieldType} {hh : List (Nat × Nat × Nat × Nat)}
    (hy : plainName y.cls = true) (hw : ws = Cond.codeWith y cc maxL ret hh :: ws') (hle : (lg_sl av).length ≤ maxL)
    (k : ∀ (p : Program) (e : Env) (s : State) (m : MethodId) (below : List Frame) (meth : Method) (c : Code), p.tables.exec = Jvm.exec → c.code = cc → meth.sig.returnType = ret → (∀ w ∈ ws, w.before av.toArray s = true) → s.vm.findClass y.cls = some m.cls → meth.locks = false → c.maxLocals = maxL → c.exceptionTable.toList = tableOf hh → B s → ∀ ls : Array Slot, lv_has ls maxL (lv_args 0 av) →
      W p l e rm s m av.toArray below meth c s.heap [] 0 0 (MQ below Qc av.toArray s mc ms free) (F0 m 0 ls [])) : Met l y ws rm (va_Pc av B) Qc mc ms free := by
  refine MetFree.of_bodyS (code := cc) (maxLocals := maxL) (ret := ret) hy ?_ ?_
  · intro args s m h hn
    obtain ⟨m9, meth, c, hn9, h1, h2, h3, h4, -, h5, h6, -⟩ := Cond.codeWith_spec (atoms_spec (ws := ws) h _ (by rw [hw]; exact List.mem_cons_self))
    cases hn.symm.trans hn9
    exact ⟨meth, c, h1, h2, h3, h4, h5, h6⟩
  · intro p e s m args below meth c s₁ B hml hP _
    have hh0 : s₁.heap = s.heap := by rw [B.state]; rfl
    obtain ⟨rfl, hv⟩ := hP
    have htab : c.exceptionTable.toList = tableOf hh := vx_table (x := y) B (atoms_spec (ws := ws) B.pre _ (by rw [hw]; exact List.mem_cons_self))
    have hl := lv_entry av (n := maxL) hle
    have K := fun ls hl => k p e s m below meth c B.exec B.bytes B.returns (atoms_spec (ws := ws) B.pre) (findClass_of_methodNamed B.named) B.notSynchronized hml htab hv ls hl
    have K2 : W p l e rm s m av.toArray below meth c s.heap [] 0 0 (MQ below Qc av.toArray s mc ms free) (entryFrame m av.toArray maxL) := by
      rw [lg_entry_eq]
      generalize (lg_sl av ++ List.replicate (maxL - (lg_sl av).length) Slot.unset).toArray = ls at hl ⊢
      exact K ls hl
    obtain ⟨t, a1, o, b1, b2, b3⟩ := K2 s₁ hh0 (Stand.of_body B)
    exact ⟨t, o, a1, b1, b2, ⟨b3.1, b3.2⟩⟩
/-! the desk and the law's long[1] -/
abbrev eL (c : ClassId) (f : Nat → Int64) : va_E := .inl (c, 1, .inr (.inl f))
def WC (ad : Nat → Nat) (ob sz : Nat) : Nat → Prop := fun q => AC ad sz q ∨ q = ob
/-- which exceptions aren't others -/
def zNC (U : State) : Prop := va_Nc "java/lang/IllegalArgumentException" "java/lang/IndexOutOfBoundsException" U ∧ va_Nc "java/lang/IllegalStateException" "java/lang/IndexOutOfBoundsException" U ∧ va_Nc "java/lang/IllegalStateException" "java/lang/IllegalArgumentException" U
theorem zNC.moved {s U : State} (hW : s.vm.Alike U.vm) (h : zNC s) : zNC U := ⟨h.1.moved hW, h.2.1.moved hW, h.2.2.moved hW⟩
def wX (D : va_G) (ty : Nat → ClassId) (tl : ClassId) (g : Nat → Nat → Int32) (ad : Nat → Nat) (ob : Nat) (f : Nat → Int64) (sz : Nat) (U : State) : Prop := zX D ty g ad U ∧ zNC U ∧ va_K D vwCl [(tl, .long)] U ∧ va_at D vwCl (ob, eL tl f) U.heap ∧ U.heap.size = sz
theorem wX_blind {D : va_G} {ty : Nat → ClassId} {tl : ClassId} {g : Nat → Nat → Int32} {ad : Nat → Nat} {ob : Nat} {f : Nat → Int64} {sz : Nat} : ∀ (a : Array Value) (U : State) (F : JFrame) (mk : MethodId), wX D ty tl g ad ob f sz U → wX D ty tl g ad ob f sz (U.calling F mk a) := fun a U F mk h => ⟨zX_blind a U F mk h.1, zNC.moved (s := U) (U := U.calling F mk a) (Vm.Alike.refl U.vm) h.2.1, va_K.moved (u := U) (U := U.calling F mk a) (Vm.Alike.refl U.vm) h.2.2.1, h.2.2.2⟩
def wY (D : va_G) (ty : Nat → ClassId) (tl : ClassId) (ad : Nat → Nat) (ob : Nat) (S : (Nat → Nat → Int32) × (Nat → Int64)) (t : State) : Prop := va_P D vwCl (zC ty S.1 ad) t.heap ∧ va_at D vwCl (ob, eL tl S.2) t.heap
/-- what a wrapper leaves: which exception (0: none), the answer, the numbers -/
def wQ (D : va_G) (ty : Nat → ClassId) (tl : ClassId) (ad : Nat → Nat) (ob sz k : Nat) (a : Int64) (g' : Nat → Nat → Int32) : Array Value → State → Outcome → State → Prop := va_Qi (fun (v9 : Int32) (S : (Nat → Nat → Int32) × (Nat → Int64)) => v9 = nI k ∧ S.1 = g' ∧ (k = 0 → S.2 0 = a)) (wY D ty tl ad ob) (WC ad ob sz)
section WL
variable {p : Program} {l : Launch} {e : Env} {R : Room} {s : State} {m : MethodId} {args : Array Value} {below : List Frame} {meth : Method} {c : Code} {H : Heap} {locs : List Loc} {cells slots : Nat} {Q : State → Prop}
variable {cc : ByteArray} {pc : Nat} {ls : Array Slot} {rest : List Value} {D : va_G} {cl : List vw_C} {A : Nat → Prop} {H0 : Heap} {tl : ClassId} {ob : Nat} {f : Nat → Int64}
/-- the one cell of the law's long[1] is written -/
theorem zlast (hexec : p.tables.exec = Jvm.exec) (hb : c.code = cc) (hK : va_K D cl [(tl, .long)] s) (hO : va_at D cl (ob, eL tl f) H) (hS : va_S A H0 H locs) (hA : A ob) {x : Int64} (hdg : decode cc pc = .ok (.lastore, 1))
    (kk : ∀ (H1 : Heap) (locs1 : List Loc), va_at D cl (ob, eL tl (vp_updL f 0 x)) H1 → va_S A H0 H1 locs1 → (∀ q, q ≠ ob → H1[q]? = H[q]?) → W p l e R s m args below meth c H1 locs1 cells slots Q (F0 m (pc + 1) ls rest)) : W p l e R s m args below meth c H locs cells slots Q (F0 m pc ls (.long x :: .int (nI 0) :: .ref ob :: rest)) := by
  refine W.last hexec hb hO ((hK.2 0 _ rfl).1 1 (fun j => .long (f j))) (fun q => by cases q) (by show ¬ (nI 0 < 0 ∨ (arrV _ _ _).slots.size ≤ _); rw [arrV_size]; exact (show vp_in (nI 0) 1 from vp_in_nI (show 0 < 1 by decide) (by decide))) rfl rfl hdg fun H1 e z oq => ?_
  refine kk H1 _ ?_ (hS.put z oq hA) oq
  show H1[ob]? = some (vp_cell _ _)
  rw [e]
  rw [vp_cell_l, vp_cell_l, arrV_store]
  congr 2
  funext q
  rw [nI_clamp (by decide)]
  by_cases hq : q = 0
  · subst hq
    simp [updV, vp_updL]
  · simp [updV, vp_updL, hq]
/-- a call that throws and never answers -/
theorem zxcall {st1 : List Value} {a : Array Value} {E0 : String} (hr : vx_Run p l e R s m args below meth c H locs cells slots 1 6 (F0 m pc ls st1) rest (zno a) (zXC E0) (fun _ => False)) (hS : va_S A H0 H locs)
    (kx : ∀ (ce : Cell) (q9 : Addr) (H1 : Heap) (locs1 : List Loc), H.size ≤ H1.size → (∀ q : Nat, q < H.size → H1[q]? = H[q]?) → va_S A H0 H1 locs1 → H1[q9]? = some ce → ce.vm = .none → s.vm.findClass E0 = some ce.cls → vx_W p l e R s m args below meth c H1 locs1 (cells + 1) (slots + 6) Q (F0 m pc ls rest) q9) : W p l e R s m args below meth c H locs cells slots Q (F0 m pc ls st1) := by
  intro T hT X
  rcases hr T hT X with ⟨v, st₀, t, T', L, h0, X', hL, e1, e2, hq, st⟩ | ⟨q, st₀, t, T', L, E, ce, h0, X', hL, e1, e2, ⟨hE, hF⟩, hce, hcv, hcl, st⟩
  · exact hq.elim
  · have z1 : H.size ≤ T'.heap.size := by rw [e1, ← h0]; exact hF.1
    have o1 : ∀ q : Nat, q < H.size → T'.heap[q]? = H[q]? := fun q hq => by
      rw [e1, ← h0]
      exact hF.2 q (by rw [h0]; exact hq) (by rw [h0]; exact Nat.not_le.mpr hq)
    obtain ⟨t2, a1, b1⟩ := kx ce q T'.heap (locs ++ L) z1 o1 ⟨Nat.le_trans hS.1 z1, fun q h1 h2 => (o1 q (Nat.lt_of_lt_of_le h1 hS.1)).trans (hS.2.1 q h1 h2), fun x hx => (List.mem_append.mp hx).elim (hS.2.2 x) (fun h => (hL x h).elim)⟩ (by rw [e1]; exact hce) hcv (by rw [← hE]; exact hcl) T' rfl X'
    exact ⟨t2, st.trans a1, b1⟩
end WL
theorem zC_kept {D : va_G} {ty : Nat → ClassId} {g : Nat → Nat → Int32} {ad : Nat → Nat} {H H1 : Heap} (h : va_P D vwCl (zC ty g ad) H) (hq : ∀ k, k < 39 → ad k < H.size → H1[ad k]? = H[ad k]?) : va_P D vwCl (zC ty g ad) H1 := fun k q hk => by
  obtain ⟨h1, h2⟩ := zC_at hk
  have h3 := h k q hk
  refine h3.kept ?_
  have h4 := h3.lt
  rw [h2] at h4 ⊢
  exact hq k h1 h4
