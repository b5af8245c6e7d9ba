/-! the model's world: cells of kinds, numbered: which are there (u), what they hold (C), where they lie (ma) -/
def up2 {α : Type} (C : Nat → Nat → α) (k x : Nat) (e : α) : Nat → Nat → α := fun k' x' => if k' = k ∧ x' = x then e else C k' x'
theorem up2_s {α : Type} (C : Nat → Nat → α) (k x : Nat) (e : α) : up2 C k x e k x = e := if_pos ⟨rfl, rfl⟩
theorem up2_n {α : Type} (C : Nat → Nat → α) {k x k' x' : Nat} (e : α) (h : ¬ (k' = k ∧ x' = x)) : up2 C k x e k' x' = C k' x' := if_neg h
theorem up2_k {α : Type} (C : Nat → Nat → α) {k x k' x' : Nat} (e : α) (h : k' ≠ k) : up2 C k x e k' x' = C k' x' := if_neg (fun z => h z.1)
theorem up2_x {α : Type} (C : Nat → Nat → α) {k x k' x' : Nat} (e : α) (h : x' ≠ x) : up2 C k x e k' x' = C k' x' := if_neg (fun z => h z.2)
def upU (u : Nat → Nat → Prop) (k x : Nat) : Nat → Nat → Prop := fun k' x' => (k' = k ∧ x' = x) ∨ u k' x'
theorem upU_s {u : Nat → Nat → Prop} {k x : Nat} : upU u k x k x := Or.inl ⟨rfl, rfl⟩
theorem upU_o {u : Nat → Nat → Prop} {k x k' x' : Nat} (h : u k' x') : upU u k x k' x' := Or.inr h
def mW (D : va_G) (A : Nat → Prop) (u : Nat → Nat → Prop) (C : Nat → Nat → va_E) (ma : Nat → Nat → Nat) (H : Heap) : Prop :=
  (∀ k x, u k x → va_at D vwCl (ma k x, C k x) H ∧ A (ma k x)) ∧ (∀ k x k' x', u k x → u k' x' → ma k x = ma k' x' → k = k' ∧ x = x') ∧ (∀ q, H.size ≤ q → A q)
section MW
variable {D : va_G} {A : Nat → Prop} {u : Nat → Nat → Prop} {C : Nat → Nat → va_E} {ma : Nat → Nat → Nat} {H H1 : Heap} {k x : Nat} {e : va_E}
theorem mW.at (h : mW D A u C ma H) (hu : u k x) : va_at D vwCl (ma k x, C k x) H := (h.1 k x hu).1
theorem mW.inA (h : mW D A u C ma H) (hu : u k x) : A (ma k x) := (h.1 k x hu).2
theorem mW.lt (h : mW D A u C ma H) (hu : u k x) : ma k x < H.size := (h.at hu).lt
theorem mW.P (h : mW D A u C ma H) (hu : u k x) (hC : C k x = e) : va_P D vwCl [(ma k x, e)] H := fun i q hi => by
  have hz : i < 1 := (List.getElem?_eq_some_iff.mp hi).1
  rw [show i = 0 by omega] at hi
  cases hi
  rw [← hC]; exact h.at hu
theorem mW.Pa {a : Nat} (h : mW D A u C ma H) (hu : u k x) (ha : ma k x = a) (hC : C k x = e) : va_P D vwCl [(a, e)] H := ha ▸ h.P hu hC
theorem mW.P2 {k2 x2 : Nat} {e2 : va_E} (h : mW D A u C ma H) (hu : u k x) (hC : C k x = e) (hu2 : u k2 x2) (hC2 : C k2 x2 = e2) : va_P D vwCl [(ma k x, e), (ma k2 x2, e2)] H := fun i q hi => by
  have hz : i < 2 := (List.getElem?_eq_some_iff.mp hi).1
  rcases (show i = 0 ∨ i = 1 by omega) with rfl | rfl
  · cases hi
    rw [← hC]; exact h.at hu
  · cases hi
    rw [← hC2]; exact h.at hu2
theorem mW.D1 (a : Nat) (e : va_E) : va_D (fun _ => True) [(a, e)] := ⟨fun i j p q hi hj _ => by
  have h1 : i < 1 := (List.getElem?_eq_some_iff.mp hi).1
  have h2 : j < 1 := (List.getElem?_eq_some_iff.mp hj).1
  omega, fun _ _ _ => trivial⟩
theorem mW.D2 {a b : Nat} {e e2 : va_E} (h : a ≠ b) : va_D (fun _ => True) [(a, e), (b, e2)] := ⟨fun i j p q hi hj hpq => by
  have h1 : i < 2 := (List.getElem?_eq_some_iff.mp hi).1
  have h2 : j < 2 := (List.getElem?_eq_some_iff.mp hj).1
  rcases (show i = 0 ∨ i = 1 by omega) with rfl | rfl <;> rcases (show j = 0 ∨ j = 1 by omega) with rfl | rfl
  · rfl
  · cases hi; cases hj; exact absurd hpq h
  · cases hi; cases hj; exact absurd hpq.symm h
  · rfl, fun _ _ _ => trivial⟩
theorem mW.ne (h : mW D A u C ma H) {k' x' : Nat} (hu : u k x) (hu' : u k' x') (hn : ¬ (k = k' ∧ x = x')) : ma k x ≠ ma k' x' := fun z => hn (h.2.1 k x k' x' hu hu' z)
/-- one cell is written -/
theorem mW.set (h : mW D A u C ma H) (hu : u k x) (he : va_at D vwCl (ma k x, e) H1) (oq : ∀ q, q < H.size → q ≠ ma k x → H1[q]? = H[q]?) (hz : H.size ≤ H1.size) : mW D A u (up2 C k x e) ma H1 := by
  refine ⟨fun k' x' hu' => ⟨?_, h.inA hu'⟩, h.2.1, fun q hq => h.2.2 q (Nat.le_trans hz hq)⟩
  by_cases hh : k' = k ∧ x' = x
  · obtain ⟨rfl, rfl⟩ := hh
    rw [up2_s]; exact he
  · rw [up2_n _ _ hh]
    exact (h.at hu').kept (oq _ (h.lt hu') (h.ne hu' hu hh))
/-- nothing of it is written -/
theorem mW.ext (h : mW D A u C ma H) (oq : ∀ q, q < H.size → A q → H1[q]? = H[q]?) (hz : H.size ≤ H1.size) : mW D A u C ma H1 :=
  ⟨fun _ _ hu => ⟨(h.at hu).kept (oq _ (h.lt hu) (h.inA hu)), h.inA hu⟩, h.2.1, fun q hq => h.2.2 q (Nat.le_trans hz hq)⟩
/-- a cell that was not of it joins -/
theorem mW.reg (h : mW D A u C ma H) {q : Nat} (he : va_at D vwCl (q, e) H) (hA : A q) (hq : ∀ k' x', u k' x' → ma k' x' ≠ q) : mW D A (upU u k x) (up2 C k x e) (up2 ma k x q) H := by
  refine ⟨fun k' x' hu' => ?_, fun k1 x1 k2 x2 h1 h2 h3 => ?_, h.2.2⟩
  · by_cases hh : k' = k ∧ x' = x
    · obtain ⟨rfl, rfl⟩ := hh
      rw [up2_s, up2_s]; exact ⟨he, hA⟩
    · rw [up2_n _ _ hh, up2_n _ _ hh]
      rcases hu' with z | z
      · exact absurd z hh
      · exact ⟨h.at z, h.inA z⟩
  · by_cases hh1 : k1 = k ∧ x1 = x
    · by_cases hh2 : k2 = k ∧ x2 = x
      · exact ⟨hh1.1.trans hh2.1.symm, hh1.2.trans hh2.2.symm⟩
      · obtain ⟨rfl, rfl⟩ := hh1
        rw [up2_s, up2_n _ _ hh2] at h3
        rcases h2 with z | z
        · exact absurd z hh2
        · exact absurd h3.symm (hq _ _ z)
    · by_cases hh2 : k2 = k ∧ x2 = x
      · obtain ⟨rfl, rfl⟩ := hh2
        rw [up2_s, up2_n _ _ hh1] at h3
        rcases h1 with z | z
        · exact absurd z hh1
        · exact absurd h3 (hq _ _ z)
      · rw [up2_n _ _ hh1, up2_n _ _ hh2] at h3
        rcases h1 with z1 | z1
        · exact absurd z1 hh1
        · rcases h2 with z2 | z2
          · exact absurd z2 hh2
          · exact h.2.1 k1 x1 k2 x2 z1 z2 h3
/-- a new cell joins -/
theorem mW.new (h : mW D A u C ma H) (he : va_at D vwCl (H.size, e) H1) (oq : ∀ q, q < H.size → H1[q]? = H[q]?) (hz : H1.size = H.size + 1) : mW D A (upU u k x) (up2 C k x e) (up2 ma k x H.size) H1 :=
  (h.ext (fun q hq _ => oq q hq) (by omega)).reg he (h.2.2 _ (Nat.le_refl _)) (fun _ _ hu => Nat.ne_of_lt (h.lt hu))
end MW
/-- the array classes: int, boolean, Object, int[], int[][] -/
abbrev mT (ty : Nat → ClassId) : List (ClassId × FieldType) := [(ty 0, .int), (ty 1, .boolean), (ty 2, .object "java/lang/Object"), (ty 3, .array .int), (ty 4, .array (.array .int))]
/-- the classes of int[], int[][], int[][][], and the link to the last -/
def xN (ty : Nat → ClassId) (U : State) : Prop := (∃ (k3 k2 k1 : Class) (cz : ClassId), U.vm.classes[ty 4]? = some k3 ∧ k3.kind = .array (ty 3) (.array (.array .int)) ∧ U.vm.classes[ty 3]? = some k2 ∧ k2.kind = .array (ty 0) (.array .int) ∧ U.vm.classes[ty 0]? = some k1 ∧ k1.kind = .array cz .int) ∧ va_Nw (.classLink "DatamarketDeskModel" 67 "[[[I") U
theorem xN.al {ty : Nat → ClassId} {s U : State} (hal : s.vm.Alike U.vm) (hw : va_Nw (.classLink "DatamarketDeskModel" 67 "[[[I") U) (h : xN ty s) : xN ty U := by
  obtain ⟨⟨k3, k2, k1, cz, h1, h2, h3, h4, h5, h6⟩, h7⟩ := h
  obtain ⟨k3', g1, e1⟩ := hal.2.2 _ _ h1
  obtain ⟨k2', g2, e2⟩ := hal.2.2 _ _ h3
  obtain ⟨k1', g3, e3⟩ := hal.2.2 _ _ h5
  exact ⟨⟨k3', k2', k1', cz, g1, by rw [e1]; exact h2, g2, by rw [e2]; exact h4, g3, by rw [e3]; exact h6⟩, hw⟩
theorem xN.warm {ty : Nat → ClassId} {s U : State} (hW : s.WarmedH U.vm) (h : xN ty s) : xN ty U := h.al hW.alike (word_at hW (Or.inl (by decide)) h.2)
theorem xN.same {ty : Nat → ClassId} {s U : State} (hv : s.vm = U.vm) (h : xN ty s) : xN ty U := h.al (by rw [← hv]; exact Vm.Alike.refl s.vm) (va_Nw.same (by decide) hv h.2)
/-- the empty array of the lists: all that is known of its cell -/
def mE (t0 : Nat) (U : State) (H : Heap) : Prop := ∃ cell : Cell, H[t0]? = some cell ∧ U.isArrayOf cell (.object "java/lang/Object") ∧ cell.slots.size.toInt32 = nI 0
theorem mE.lt {t0 : Nat} {U : State} {H : Heap} (h : mE t0 U H) : t0 < H.size := by
  obtain ⟨cell, h1, -⟩ := h
  exact (Array.getElem?_eq_some_iff.mp h1).1
theorem mE.kept {t0 : Nat} {U : State} {H H1 : Heap} (h : mE t0 U H) (hq : H1[t0]? = H[t0]?) : mE t0 U H1 := by
  obtain ⟨cell, h1, h2⟩ := h
  exact ⟨cell, by rw [hq]; exact h1, h2⟩
theorem mE.moved {t0 : Nat} {u U : State} {H : Heap} (hvm : u.vm.Alike U.vm) (h : mE t0 u H) : mE t0 U H := by
  obtain ⟨cell, h1, h2, h3⟩ := h
  exact ⟨cell, h1, State.isArrayOf_alike hvm h2, h3⟩
/-- what stands outside: the empty array of the lists, the mirror of Object[], the class of Object[] -/
def mS (D : va_G) (ty : Nat → ClassId) (A : Nat → Prop) (t0 mi : Nat) (U : State) : Prop :=
  va_Z "java/util/ArrayList" "DEFAULTCAPACITY_EMPTY_ELEMENTDATA" "[Ljava/lang/Object;" (.ref t0) A U U.heap ∧ mE t0 U U.heap ∧ ¬ A t0 ∧ va_Mi "[Ljava/lang/Object;" mi U ∧ va_AO "java/lang/Object" U ∧ zN U ∧ xN ty U
theorem mS.moved {D : va_G} {ty : Nat → ClassId} {A : Nat → Prop} {t0 mi : Nat} {s U : State} (h : mS D ty A t0 mi s) (hW : s.WarmedH U.vm) (hz : s.heap.size ≤ U.heap.size) (oq : ∀ q, q < s.heap.size → ¬ A q → U.heap[q]? = s.heap[q]?) : mS D ty A t0 mi U := by
  obtain ⟨h1, h2, h3, h4, h5, h6, h7⟩ := h
  exact ⟨(h1.moved hW.alike).kept (fun a ha hA => oq a ha hA), (h2.moved hW.alike).kept (oq _ h2.lt h3), h3, h4.moved hW.alike, h5.moved hW.alike, h6.warm hW, h7.warm hW⟩
section MR
variable {p : Program} {l : Launch} {e : Env} {R : Room} {s : State} {m : MethodId} {args : Array Value} {below : List Frame} {meth : Method} {c : Code} {H : Heap} {locs : List Loc} {cells slots : Nat} {Q : State → Prop}
variable {cc : ByteArray} {pc : Nat} {ls : Array Slot} {rest : List Value} {D : va_G} {A : Nat → Prop} {u : Nat → Nat → Prop} {C : Nat → Nat → va_E} {ma : Nat → Nat → Nat} {tys : List (ClassId × FieldType)} {H0 : Heap}
/-- a field of the model's cells is written -/
theorem mput (hexec : p.tables.exec = Jvm.exec) (hb : c.code = cc) {own ref Cn : String} {T : u_T} {N ci index : Nat} {Ts : List Cond} (hts : ∀ w ∈ Ts, w.before args s = true) (hin : ∀ w ∈ u_ws Cn T N, w ∈ Ts) (ty0 : Nat → FieldType) (hty : ∀ k, k < N → parseFieldDescriptor (T k).2.2.1 = some (ty0 k)) (hnm : ∀ a, a < N → ∀ b, b < N → a ≠ b → (T a).2.1 ≠ (T b).2.1) (hown : s.vm.findClass own = some m.cls) (hK : va_K D vwCl tys s) (hM : mW D A u C ma H) (hS : va_S A H0 H locs) {kk x a : Nat} (hu : u kk x) (ha : ma kk x = a) {fs : List Value} (hC : C kk x = .inr (ci, fs)) (hc : vwCl[ci]? = some (Cn, T, N)) (k : Nat) (hk : k < N) (hlink : (Cond.fieldLink own index ref (T k).2.1 (T k).2.2.1).before args s = true) (hsame : ∀ x, s.fieldFound? (T k).1 (T k).2.1 (T k).2.2.1 = some x → s.fieldFound? ref (T k).2.1 (T k).2.2.1 = some x) (hfin : (T k).2.2.2 = false) {ty : FieldType} {v : Value} (hd : parseFieldDescriptor (T k).2.2.1 = some ty) (hn : narrow ty v = v) (hfit : fits ty v = true) (hl : k < fs.length)
    (hdg : decode cc pc = .ok (.putfield index, 3)) (kn : ∀ (H1 : Heap) (locs1 : List Loc), mW D A u (up2 C kk x (.inr (ci, fs.set k v))) ma H1 → va_S A H0 H1 locs1 → (∀ q, q ≠ ma kk x → H1[q]? = H[q]?) → W p l e R s m args below meth c H1 locs1 cells slots Q (F0 m (pc + 3) ls rest)) : W p l e R s m args below meth c H locs cells slots Q (F0 m pc ls (v :: .ref a :: rest)) := by
  subst ha
  have hap := va_apart (own := own) hts hin ty0 hty hnm hK hc
  obtain ⟨r, h1, cell, q1, q2, q3, q4⟩ := hM.P hu hC 0 _ rfl
  have hr : r = (Cn, T, N) := Option.some.inj (h1.symm.trans hc)
  subst hr
  obtain ⟨hSl, hfc, kC, hkC, hkind⟩ := hK.1 ci _ hc
  obtain ⟨cf, kf, fi, f, hi, hsl⟩ := hSl k hk
  have hlay := hts _ (hin _ (u_in_lay hk))
  unfold u_lay at hlay
  rw [if_neg (by rw [hfin]; decide)] at hlay
  have hst := (u_facts hfc hkC (u_lays hts hin hk) hi).1
  have h6 := u_store hfc hkC hkind hlay hi hd hn hfit
  refine W.putK hexec hb (f := f) ⟨hown, hlink, ⟨_, _, _, hsame _ hi⟩, hst⟩ (by rw [q2]; exact h6) q1 q3 (by rw [hsl]; exact k2_hasslot (q4 k hk)) rfl rfl hdg fun H' e1 e2 e3 => ?_
  rw [hsl] at e1 ⊢
  have e9 : va_at D vwCl (ma kk x, .inr (ci, fs.set k v)) H' := ⟨_, hc, t_OB.to (V := updV (vp_V fs) k v) ⟨_, e1, q2, q3, t_set q4 hap hk v⟩ (fun j _ => vp_updV_set hl v j)⟩
  exact kn H' _ (hM.set hu e9 (fun q _ hq => e3 q hq) (Nat.le_of_eq e2.symm)) (hS.put e2 e3 (hM.inA hu)) e3
theorem miast (hexec : p.tables.exec = Jvm.exec) (hb : c.code = cc) (hK : va_K D vwCl tys s) (hM : mW D A u C ma H) (hS : va_S A H0 H locs) {kk x a : Nat} (hu : u kk x) (ha : ma kk x = a) (t0 : Nat) {cA : ClassId} {n : Nat} {f : Nat → Int32} (hC : C kk x = .inl (cA, n, .inl f)) (ht : tys[t0]? = some (cA, .int)) {i : Nat} {v : Int32} (hi : i < n) (hn : n < 2 ^ 31) (hdg : decode cc pc = .ok (.iastore, 1))
    (kn : ∀ (H1 : Heap) (locs1 : List Loc), mW D A u (up2 C kk x (.inl (cA, n, .inl (upd f i v)))) ma H1 → va_S A H0 H1 locs1 → (∀ q, q ≠ ma kk x → H1[q]? = H[q]?) → W p l e R s m args below meth c H1 locs1 cells slots Q (F0 m (pc + 1) ls rest)) : W p l e R s m args below meth c H locs cells slots Q (F0 m pc ls (.int v :: .int (nI i) :: .ref a :: rest)) := by
  subst ha
  have hin : vp_in (nI i) n := vp_in_nI hi hn
  refine W.iast hexec hb (hM.P hu hC 0 _ rfl) ((hK.2 t0 _ ht).1 n (fun j => .int (f j))) (fun q => by cases q) (by show ¬ (nI i < 0 ∨ (arrV _ _ _).slots.size ≤ _); rw [arrV_size]; exact hin) rfl rfl hdg fun H1 e z oq => ?_
  have e9 : va_at D vwCl (ma kk x, .inl (cA, n, .inl (upd f i v))) H1 := by
    show H1[ma kk x]? = some (vp_cell _ _)
    rw [e, vp_cell_i, vp_cell_i, arrV_store, nI_clamp (by omega)]
    congr 2
    funext q
    by_cases hq : q = i
    · subst hq
      simp [updV, upd]
    · simp [updV, upd, hq]
  exact kn H1 _ (hM.set hu e9 (fun q _ hq => oq q hq) (Nat.le_of_eq z.symm)) (hS.put z oq (hM.inA hu)) oq
theorem mzast (hexec : p.tables.exec = Jvm.exec) (hb : c.code = cc) (hK : va_K D vwCl tys s) (hM : mW D A u C ma H) (hS : va_S A H0 H locs) {kk x a : Nat} (hu : u kk x) (ha : ma kk x = a) (t0 : Nat) {cA : ClassId} {n : Nat} {f : Nat → Int32} (hC : C kk x = .inl (cA, n, .inl f)) (ht : tys[t0]? = some (cA, .boolean)) {i : Nat} {v : Int32} (hi : i < n) (hn : n < 2 ^ 31) (hv : vp_nar .boolean v = v) (hdg : decode cc pc = .ok (.bastore, 1))
    (kn : ∀ (H1 : Heap) (locs1 : List Loc), mW D A u (up2 C kk x (.inl (cA, n, .inl (upd f i v)))) ma H1 → va_S A H0 H1 locs1 → (∀ q, q ≠ ma kk x → H1[q]? = H[q]?) → W p l e R s m args below meth c H1 locs1 cells slots Q (F0 m (pc + 1) ls rest)) : W p l e R s m args below meth c H locs cells slots Q (F0 m pc ls (.int v :: .int (nI i) :: .ref a :: rest)) := by
  subst ha
  have hin : vp_in (nI i) n := vp_in_nI hi hn
  refine W.zast hexec hb (hM.P hu hC 0 _ rfl) ((hK.2 t0 _ ht).1 n (fun j => .int (f j))) (fun q => by cases q) (by show ¬ (nI i < 0 ∨ (arrV _ _ _).slots.size ≤ _); rw [arrV_size]; exact hin) rfl rfl hdg fun H1 e z oq => ?_
  have e9 : va_at D vwCl (ma kk x, .inl (cA, n, .inl (upd f i v))) H1 := by
    show H1[ma kk x]? = some (vp_cell _ _)
    have hv' : narrow .boolean (.int v) = .int v := congrArg Value.int hv
    rw [e, vp_cell_i, vp_cell_i, arrV_store, nI_clamp (by omega)]
    congr 2
    funext q
    by_cases hq : q = i
    · subst hq
      simp [updV, upd, hv']
    · simp [updV, upd, hq]
  exact kn H1 _ (hM.set hu e9 (fun q _ hq => oq q hq) (Nat.le_of_eq z.symm)) (hS.put z oq (hM.inA hu)) oq
end MR
theorem mS.same {D : va_G} {ty : Nat → ClassId} {A : Nat → Prop} {t0 mi : Nat} {s U : State} (h : mS D ty A t0 mi s) (hvm : s.vm = U.vm) (hh : U.heap = s.heap) : mS D ty A t0 mi U := by
  obtain ⟨h1, h2, h3, h4, h5, h6, h7⟩ := h
  have hal : s.vm.Alike U.vm := by rw [← hvm]; exact Vm.Alike.refl s.vm
  exact ⟨(h1.moved hal).kept (fun a _ _ => by rw [hh]), (h2.moved hal).kept (by rw [hh]), h3, h4.moved hal, h5.moved hal, h6.same hvm, h7.same hvm⟩
/-- the model as it stands in a state -/
def mI (D : va_G) (ty : Nat → ClassId) (A : Nat → Prop) (u : Nat → Nat → Prop) (C : Nat → Nat → va_E) (ma : Nat → Nat → Nat) (t0 mi : Nat) (U : State) : Prop := mW D A u C ma U.heap ∧ va_K D vwCl (mT ty) U ∧ mS D ty A t0 mi U
section MI
variable {D : va_G} {ty : Nat → ClassId} {A : Nat → Prop} {u : Nat → Nat → Prop} {C : Nat → Nat → va_E} {ma : Nat → Nat → Nat} {t0 mi : Nat}
theorem mI_blind : ∀ (a : Array Value) (U : State) (f : JFrame) (mk : MethodId), mI D ty A u C ma t0 mi U → mI D ty A u C ma t0 mi (U.calling f mk a) := fun a U f mk h => ⟨h.1, va_K.moved (u := U) (U := U.calling f mk a) (Vm.Alike.refl U.vm) h.2.1, h.2.2.same (U := U.calling f mk a) rfl rfl⟩
theorem mI_pre {s : State} {H : Heap} {locs : List Loc} (hM : mW D A u C ma H) (hK : va_K D vwCl (mT ty) s) (hMS : mS D ty A t0 mi s) (hS : va_S A s.heap H locs) : ∀ U : State, U.heap = H → s.WarmedH U.vm → mI D ty A u C ma t0 mi U := fun U hU hW => ⟨by rw [hU]; exact hM, va_K.moved hW.alike hK, hMS.moved hW (by rw [hU]; exact hS.1) (fun q h1 h2 => by rw [hU]; exact hS.2.1 q h1 h2)⟩
end MI
section ZR
variable {p : Program} {l : Launch} {e : Env} {R : Room} {s : State} {m : MethodId} {args : Array Value} {below : List Frame} {meth : Method} {c : Code} {H : Heap} {locs : List Loc} {cells slots : Nat} {Q : State → Prop}
variable {y : MethodName} {bytes cc : ByteArray} {maxL nL mc ms n index pc : Nat} {ret : Option FieldType} {ws : List Cond} {rm : Room} {free : Addr → Prop} {Ts : List Cond} {own C host : String} {b : Addr} {As rest st0 : List Value} {ls : Array Slot} {B : State → Prop} {x : Value}
theorem zcVr (S : CallFix p m c cc nL s args Ts own) (hM : Met l y ws rm (va_Pc (.ref b :: As) B) (va_Sr (fun _ => True) (fun _ => x)) 0 0 (fun _ => False)) (cw : CallW R s args own C index y bytes maxL ret ws rm 0 0 n) (hbl : ∀ (a : Array Value) (U : State) (f : JFrame) (mk : MethodId), B U → B (U.calling f mk a)) (hB : ∀ U : State, U.heap = H → s.WarmedH U.vm → B U) (hrec : ∃ cellB : Cell, H[b]? = some cellB ∧ cellB.vm.isStatics = false ∧ s.vm.findClass C = some cellB.cls) (hn : As.length = n) (hsz : ls.size = nL) (hst : st0 = As.reverse ++ .ref b :: rest) (hW : (rest.map fun v => v.category).sum ≤ 8) (hdg : decode cc pc = .ok (.invokevirtual index, 3)) (hc : cells ≤ R.cells ∧ slots ≤ R.slots)
    (kk : W p l e R s m args below meth c H locs cells slots Q (F0 m (pc + 3) ls (x :: rest))) : W p l e R s m args below meth c H locs cells slots Q (F0 m pc ls st0) :=
  va_csr (W.runV S hM cw ⟨zBl hbl, hrec, fun U h1 h2 => ⟨rfl, hB U h1 h2⟩⟩ rfl hn hsz hst (lv_room hW) hdg hc) (fun _ _ => kk)
theorem zcSr (S : CallFix p m c cc nL s args Ts own) (hM : Met l y ws rm (va_Pc As B) (va_Sr (fun _ => True) (fun _ => x)) 0 0 (fun _ => False)) (cw : (CallB R s args own index y bytes maxL ret ws rm 0 0 n ∧ (Cond.static y).before args s = true)) (hbl : ∀ (a : Array Value) (U : State) (f : JFrame) (mk : MethodId), B U → B (U.calling f mk a)) (hB : ∀ U : State, U.heap = H → s.WarmedH U.vm → B U) (hn : As.length = n) (hsz : ls.size = nL) (hst : st0 = As.reverse ++ rest) (hW : (rest.map fun v => v.category).sum ≤ 8) (hdg : decode cc pc = .ok (.invokestatic index, 3)) (hc : cells ≤ R.cells ∧ slots ≤ R.slots)
    (kk : W p l e R s m args below meth c H locs cells slots Q (F0 m (pc + 3) ls (x :: rest))) : W p l e R s m args below meth c H locs cells slots Q (F0 m pc ls st0) :=
  va_csr (W.runS S hM cw ⟨zBl hbl, fun U h1 h2 => ⟨rfl, hB U h1 h2⟩⟩ rfl hn hsz hst (lv_room hW) hdg hc) (fun _ _ => kk)
/-- the top value by another name -/
theorem zeqv {x y : Value} (h : x = y) (k : W p l e R s m args below meth c H locs cells slots Q (F0 m pc ls (y :: rest))) : W p l e R s m args below meth c H locs cells slots Q (F0 m pc ls (x :: rest)) := by
  rw [h]; exact k
end ZR
/-! cells by their kind -/
abbrev eI (c : ClassId) (n : Nat) (f : Nat → Int32) : va_E := .inl (c, n, .inl f)
abbrev eR (c : ClassId) (n : Nat) (f : Nat → Option Nat) : va_E := .inl (c, n, .inr (.inr (.inr (.inr f))))
abbrev eO (ci : Nat) (fs : List Value) : va_E := .inr (ci, fs)
def arF (e : va_E) : Nat → Int32 := match e with
  | .inl (_, _, .inl f) => f
  | _ => fun _ => 0
/-- a list of n elements -/
def isL (ty : Nat → ClassId) (t0 : Nat) (u : Nat → Nat → Prop) (C : Nat → Nat → va_E) (ma : Nat → Nat → Nat) (kl x n : Nat) (f : Nat → Nat) : Prop :=
  u kl x ∧ n ≤ 40 ∧ ∃ m : Int32, (n = 0 ∧ C kl x = eO 0 [.int m, .ref t0, .int (nI n)]) ∨
    (0 < n ∧ C kl x = eO 0 [.int m, .ref (ma (kl + 1) x), .int (nI n)] ∧ u (kl + 1) x ∧ ∃ (cap : Nat) (h : Nat → Option Nat), C (kl + 1) x = eR (ty 2) cap h ∧ n ≤ cap ∧ 2 ≤ cap ∧ cap ≤ 60 ∧ ∀ j, j < n → h j = some (f j))
theorem isL.hd {ty : Nat → ClassId} {t0 : Nat} {u : Nat → Nat → Prop} {C : Nat → Nat → va_E} {ma : Nat → Nat → Nat} {kl x n : Nat} {f : Nat → Nat} (h : isL ty t0 u C ma kl x n f) : u kl x ∧ n ≤ 40 ∧ ∃ (m : Int32) (b : Nat), C kl x = eO 0 [.int m, .ref b, .int (nI n)] := by
  obtain ⟨h1, h2, m, h3 | h3⟩ := h
  · exact ⟨h1, h2, m, t0, h3.2⟩
  · exact ⟨h1, h2, m, _, h3.2.1⟩
theorem isL.pos {ty : Nat → ClassId} {t0 : Nat} {u : Nat → Nat → Prop} {C : Nat → Nat → va_E} {ma : Nat → Nat → Nat} {kl x n : Nat} {f : Nat → Nat} (h : isL ty t0 u C ma kl x n f) (hn : 0 < n) : u kl x ∧ n ≤ 40 ∧ ∃ m : Int32, C kl x = eO 0 [.int m, .ref (ma (kl + 1) x), .int (nI n)] ∧ u (kl + 1) x ∧ ∃ (cap : Nat) (h : Nat → Option Nat), C (kl + 1) x = eR (ty 2) cap h ∧ n ≤ cap ∧ 2 ≤ cap ∧ cap ≤ 60 ∧ ∀ j, j < n → h j = some (f j) := by
  obtain ⟨h1, h2, m, h3 | h3⟩ := h
  · omega
  · exact ⟨h1, h2, m, h3.2⟩
