/-! rows of rows of rows: how the machine makes them. F makes a new cells with b slots; ct says what they hold -/
def mkF (F : State → State) (a b : Nat) (ct : Nat → Nat → Cell) : Prop := ∀ s : State, (F s).heap.size = s.heap.size + a ∧ (F s).vm = s.vm ∧ (F s).slotsUsed = s.slotsUsed + b ∧ (∀ q : Nat, q < s.heap.size → (F s).heap[q]? = s.heap[q]?) ∧ ∀ k : Nat, k < a → (F s).heap[s.heap.size + k]? = some (ct s.heap.size k)
def mkT (F : State → State) : Prop := ∀ (s : State) (f : JFrame), F (s.setTop f) = (F s).setTop f
def mkW (e : Env) (v : Vm) (c : ClassId) (cs : List Int32) (F : State → State) (a b : Nat) : Prop := ∀ (s : State) (d : Bool) (acts : List Action) (E : CtlPost) (Q : Addr → Pre), s.vm = v → s.heap.size + a ≤ e.platform.maxCells → s.slotsUsed + b ≤ e.platform.maxSlots → (∀ d' acts', Q s.heap.size d' acts' (F s)) → wp (Op.multianewarray.make c cs) Q E e d acts s
def mkS (F : State → State) (a b : Nat) : Prop := ∀ (p : Program) (l : Launch) (e : Env) (R : Room) (s : State) (m : MethodId) (args : Array Value) (below : List Frame) (meth : Method) (c : Code) (T : State) (locs : List Loc) (cells slots : Nat), Stand p l e R s m args below meth c T locs cells slots → ∃ L : List Loc, (∀ z ∈ L, T.heap.size ≤ z.base) ∧ Stand p l e R s m args below meth c (F T) (locs ++ L) (cells + a) (slots + b)
/-- the innermost rows -/
def mk1 (c : ClassId) (M : Nat) (dv : Value) (s : State) : State := s.pushCell { cls := c, slots := Array.replicate M dv, vm := .none }
theorem mk1_F (c : ClassId) (M : Nat) (dv : Value) : mkF (mk1 c M dv) 1 M (fun _ _ => arrV c M (fun _ => dv)) := fun s => by
  refine ⟨by simp [mk1], rfl, by simp [mk1], fun q hq => State.heap_pushCell_of_lt _ _ hq, fun k hk => ?_⟩
  rw [show k = 0 by omega, Nat.add_zero, ← arrV_new]
  exact State.heap_pushCell_size _ _
theorem mk1_T (c : ClassId) (M : Nat) (dv : Value) : mkT (mk1 c M dv) := fun s f => by simp only [mk1, State.pushCell_setTop]
theorem mk1_S (c : ClassId) (M : Nat) (dv : Value) : mkS (mk1 c M dv) 1 M := fun p l e R s m args below meth c' T locs cells slots X => by
  refine ⟨[], fun z hz => absurd hz List.not_mem_nil, ?_⟩
  have h := X.pushed { cls := c, slots := Array.replicate M dv, vm := .none }
  rw [Array.size_replicate] at h
  rw [List.append_nil]
  exact h
theorem mk1_W {e : Env} {v : Vm} {c cc : ClassId} {kc : Class} {ty : FieldType} {x : Int32} {M : Nat} (hk : v.classes[c]? = some kc) (hkind : kc.kind = .array cc ty) (hx : ¬ x < 0) (hM : x.toNatClampNeg = M) (h1 : ¬ M > e.platform.arrayLengthLimit) (h2 : ¬ M * componentBytes ty > e.platform.maxHeapBytes) (hfit : fits ty (defaultValue ty) = true) : mkW e v c [x] (mk1 c M (defaultValue ty)) 1 M := by
  intro s d acts E Q hv hc hs hq
  subst hv
  subst hM
  rw [Op.multianewarray.make]
  simp only [wp_bind', W.ite, hx, if_false, wp_pure', W.theClass, hk, hkind, Option.some.injEq, exists_eq_left']
  exact W.newArray_of hk hkind h1 h2 (by omega) hs hfit fun acts' => hq d acts'
/-- the row that holds the others, i of them made -/
def mkO (c : ClassId) (N a h i : Nat) : Cell := arrV c N (fun j => if j < i then .ref (h + 1 + a * j) else .null)
theorem mkO_s (c : ClassId) (N a h i : Nat) : (mkO c N a h i).setSlot i (.ref (h + 1 + a * i)) = mkO c N a h (i + 1) := by
  unfold mkO
  rw [arrV_store]
  congr 1
  funext j
  unfold updV
  by_cases e : j = i
  · subst e; simp
  · by_cases q : j < i
    · simp [e, q, show j < i + 1 by omega]
    · simp [e, q, show ¬ j < i + 1 by omega]
def mkU (F : State → State) (c : ClassId) (N a : Nat) (s : State) : Nat → State
  | 0 => s.pushCell (mkO c N a s.heap.size 0)
  | i + 1 => (F (mkU F c N a s i)).setCell s.heap.size (mkO c N a s.heap.size (i + 1))
theorem mkU_f {F : State → State} {a b : Nat} {ct : Nat → Nat → Cell} (hF : mkF F a b ct) (c : ClassId) (N : Nat) (s : State) : ∀ i, (mkU F c N a s i).heap.size = s.heap.size + 1 + a * i ∧ (mkU F c N a s i).vm = s.vm ∧ (mkU F c N a s i).slotsUsed = s.slotsUsed + N + b * i ∧ (∀ q : Nat, q < s.heap.size → (mkU F c N a s i).heap[q]? = s.heap[q]?) ∧ (mkU F c N a s i).heap[s.heap.size]? = some (mkO c N a s.heap.size i) ∧ ∀ j k : Nat, j < i → k < a → (mkU F c N a s i).heap[s.heap.size + 1 + a * j + k]? = some (ct (s.heap.size + 1 + a * j) k) := by
  intro i
  induction i with
  | zero =>
    refine ⟨by simp [mkU], rfl, ?_, fun q hq => State.heap_pushCell_of_lt _ _ hq, State.heap_pushCell_size _ _, fun j k hj => by omega⟩
    simp [mkU, mkO, arrV_size]
  | succ i ih =>
    obtain ⟨h1, h2, h3, h4, h5, h6⟩ := ih
    obtain ⟨f1, f2, f3, f4, f5⟩ := hF (mkU F c N a s i)
    have hmul : a * (i + 1) = a * i + a := Nat.mul_succ a i
    have hmulb : b * (i + 1) = b * i + b := Nat.mul_succ b i
    have hlt : s.heap.size < (F (mkU F c N a s i)).heap.size := by omega
    have e5 : (F (mkU F c N a s i)).heap[s.heap.size]? = some (mkO c N a s.heap.size i) := (f4 _ (by omega)).trans h5
    have oq : ∀ q : Nat, s.heap.size ≠ q → (mkU F c N a s (i + 1)).heap[q]? = (F (mkU F c N a s i)).heap[q]? := fun q hq => State.heap_setCell_other hq
    refine ⟨?_, f2.trans h2, ?_, fun q hq => ?_, State.heap_setCell_self e5, fun j k hj hk => ?_⟩
    · show ((F (mkU F c N a s i)).setCell _ _).heap.size = _
      rw [size_setCell]; omega
    · show ((F (mkU F c N a s i)).setCell _ _).slotsUsed = _
      show (F (mkU F c N a s i)).slotsUsed = _
      omega
    · rw [oq q (by omega), f4 q (by omega)]; exact h4 q hq
    · rw [oq _ (by omega)]
      by_cases e : j = i
      · subst e
        have g := f5 k hk
        rw [h1] at g
        exact g
      · have hji : j + 1 ≤ i := by omega
        have := Nat.mul_le_mul_left a hji
        rw [Nat.mul_succ] at this
        rw [f4 _ (by omega)]
        exact h6 j k (by omega) hk
def mkC (ct : Nat → Nat → Cell) (c : ClassId) (N a : Nat) : Nat → Nat → Cell := fun h k => if k = 0 then mkO c N a h N else ct (h + 1 + a * ((k - 1) / a)) ((k - 1) % a)
theorem mkU_F {F : State → State} {a b : Nat} {ct : Nat → Nat → Cell} (hF : mkF F a b ct) (ha : 0 < a) (c : ClassId) (N : Nat) : mkF (fun s => mkU F c N a s N) (1 + a * N) (N + b * N) (mkC ct c N a) := fun s => by
  obtain ⟨h1, h2, h3, h4, h5, h6⟩ := mkU_f hF c N s N
  refine ⟨by rw [h1]; omega, h2, by rw [h3]; omega, h4, fun k hk => ?_⟩
  unfold mkC
  by_cases e : k = 0
  · rw [if_pos e, e]; exact h5
  · rw [if_neg e]
    have q1 := Nat.div_add_mod (k - 1) a
    have q2 := Nat.mod_lt (k - 1) ha
    have q3 : (k - 1) / a < N := (Nat.div_lt_iff_lt_mul ha).mpr (by rw [Nat.mul_comm]; omega)
    have g := h6 _ _ q3 q2
    rw [show s.heap.size + k = s.heap.size + 1 + a * ((k - 1) / a) + (k - 1) % a by omega]
    exact g
theorem mkU_T {F : State → State} {a : Nat} (hT : mkT F) (c : ClassId) (N : Nat) : mkT (fun s => mkU F c N a s N) := fun s f => by
  show mkU F c N a (s.setTop f) N = (mkU F c N a s N).setTop f
  generalize N = i at *
  have key : ∀ n i, mkU F c n a (s.setTop f) i = (mkU F c n a s i).setTop f := by
    intro n i
    induction i with
    | zero => simp only [mkU, State.heap_setTop, State.pushCell_setTop]
    | succ i ih => simp only [mkU, ih, hT _ _, State.heap_setTop, State.setCell_setTop]
  exact key _ _
theorem mkU_S {F : State → State} {a b : Nat} {ct : Nat → Nat → Cell} (hF : mkF F a b ct) (hS : mkS F a b) (c : ClassId) (N : Nat) : mkS (fun s => mkU F c N a s N) (1 + a * N) (N + b * N) := by
  intro p l e R s m args below meth c' T locs cells slots X
  have key : ∀ i, ∃ L : List Loc, (∀ z ∈ L, T.heap.size ≤ z.base) ∧ Stand p l e R s m args below meth c' (mkU F c N a T i) (locs ++ L) (cells + (1 + a * i)) (slots + (N + b * i)) := by
    intro i
    induction i with
    | zero =>
      refine ⟨[], fun z hz => absurd hz List.not_mem_nil, ?_⟩
      have h := X.pushed (mkO c N a T.heap.size 0)
      rw [show (mkO c N a T.heap.size 0).slots.size = N from arrV_size _ _ _] at h
      rw [List.append_nil]
      exact h
    | succ i ih =>
      obtain ⟨L, h1, h2⟩ := ih
      obtain ⟨g1, g2, g3, g4, g5, g6⟩ := mkU_f hF c N T i
      obtain ⟨L2, h3, h4⟩ := hS p l e R s m args below meth c' _ _ _ _ h2
      obtain ⟨f1, f2, f3, f4, f5⟩ := hF (mkU F c N a T i)
      have e5 : (F (mkU F c N a T i)).heap[T.heap.size]? = some (mkO c N a T.heap.size i) := (f4 _ (by omega)).trans g5
      have h5 := h4.stored e5 i (.ref (T.heap.size + 1 + a * i))
      rw [mkO_s] at h5
      refine ⟨L ++ L2 ++ [⟨T.heap.size, i⟩], fun z hz => ?_, ?_⟩
      · rcases List.mem_append.mp hz with hz | hz
        · rcases List.mem_append.mp hz with hz | hz
          · exact h1 z hz
          · have := h3 z hz
            omega
        · rw [List.mem_singleton] at hz
          subst hz
          exact Nat.le_refl _
      · rw [← List.append_assoc, ← List.append_assoc, show cells + (1 + a * (i + 1)) = cells + (1 + a * i) + a by rw [Nat.mul_succ]; omega, show slots + (N + b * (i + 1)) = slots + (N + b * i) + b by rw [Nat.mul_succ]; omega]
        exact h5
  exact key N
theorem rfits {t : FieldType} (h : t.isReference = true) (v : Value) (hv : v = .null ∨ ∃ a, v = .ref a) : fits t v = true := by
  rcases hv with rfl | ⟨a, rfl⟩ <;> cases t <;> first | rfl | (exact absurd h (by decide))
theorem mkU_W {e : Env} {v : Vm} {c comp : ClassId} {k : Class} {t0 : FieldType} {x y : Int32} {ys : List Int32} {F : State → State} {a b N : Nat} {ct : Nat → Nat → Cell} (hF : mkF F a b ct) (hW : mkW e v comp (y :: ys) F a b) (hk : v.classes[c]? = some k) (hkind : k.kind = .array comp t0) (href : t0.isReference = true) (hx : ¬ x < 0) (hx0 : (x == 0) = false) (hN : x.toNatClampNeg = N) (h1 : ¬ N > e.platform.arrayLengthLimit) (h2 : ¬ N * componentBytes t0 > e.platform.maxHeapBytes) : mkW e v c (x :: y :: ys) (fun s => mkU F c N a s N) (1 + a * N) (N + b * N) := by
  intro s d acts E Q hv hc hs hq
  subst hv
  subst hN
  rw [Op.multianewarray.make]
  simp only [wp_bind', W.ite, hx, if_false, wp_pure', W.theClass, hk, hkind, Option.some.injEq, exists_eq_left']
  refine W.newArray_of hk hkind h1 h2 (by omega) (by omega) (rfits href _ (Or.inl rfl)) fun acts0 => ?_
  simp only [hx0, Bool.false_eq_true, if_false, wp_pure']
  rw [wp_bind', Std.Legacy.Range.forIn_eq_forIn_range']
  have hsz : ([:x.toNatClampNeg] : Std.Legacy.Range).size = x.toNatClampNeg := by simp [Std.Legacy.Range.size]
  rw [hsz]
  show wp (forIn (List.range' 0 x.toNatClampNeg 1) PUnit.unit _) _ E e d acts0 _
  generalize x.toNatClampNeg = N at *
  have e0 : s.pushCell { cls := c, slots := Array.replicate N .null } = mkU F c N a s 0 := by
    show s.pushCell _ = s.pushCell _
    congr 1
    unfold mkO
    rw [arrV_new]
    congr 1
  refine wp_forIn_inv (fun rest s' => ∃ i, i ≤ N ∧ rest = List.range' i (N - i) ∧ s' = mkU F c N a s i) _ _ ⟨0, Nat.zero_le _, rfl, e0⟩ ?_ ?_
  · rintro z rest s' d' acts' Q' ⟨i, hi, hl, rfl⟩ hnext
    have hlt : i < N := Nat.lt_of_not_le fun h => by
      rw [show N - i = 0 by omega] at hl
      cases hl
    rw [show N - i = (N - (i + 1)) + 1 by omega, List.range'_succ] at hl
    obtain ⟨rfl, hrest⟩ := List.cons.inj hl
    obtain ⟨g1, g2, g3, g4, g5, g6⟩ := mkU_f hF c N s z
    obtain ⟨f1, f2, f3, f4, f5⟩ := hF (mkU F c N a s z)
    have m1 := Nat.mul_le_mul_left a (show z + 1 ≤ N from hlt)
    have m2 := Nat.mul_le_mul_left b (show z + 1 ≤ N from hlt)
    rw [Nat.mul_succ] at m1 m2
    simp only [wp_bind']
    refine hW _ _ _ _ _ g2 (by omega) (by omega) fun d2 acts2 => ?_
    have e5 : (F (mkU F c N a s z)).heap[s.heap.size]? = some (mkO c N a s.heap.size z) := (f4 _ (by omega)).trans g5
    simp only [wp_bind', W.writeLoc, wp_pure']
    refine ⟨mkO c N a s.heap.size z, e5, fun q => (nomatch (show VmData.none = VmData.unknown from q)), by show z < (arrV _ _ _).slots.size; rw [arrV_size]; exact hlt, ?_, hnext _ _ _ ⟨z + 1, hlt, hrest, ?_⟩⟩
    · show State.fitsSlot _ c .none z _ = true
      simp [State.fitsSlot, State.slotType?, f2, g2, hk, hkind, rfits href _ (Or.inr ⟨_, rfl⟩)]
    · show (F (mkU F c N a s z)).setCell s.heap.size ((mkO c N a s.heap.size z).setSlot z _) = _
      rw [g1, mkO_s]
      rfl
  · rintro s' d' acts' ⟨i, hi, hl, rfl⟩
    have hiN : i = N := Nat.le_antisymm hi (Nat.le_of_not_lt fun h => by
      rw [show N - i = (N - (i + 1)) + 1 by omega, List.range'_succ] at hl
      cases hl)
    subst hiN
    simp only [wp_pure']
    exact hq _ _
