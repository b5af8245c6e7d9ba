/-! the start: the classes, the arrays, what stands outside -/
section START
variable {s : State} {av : Array Value}
theorem st_K (hts : ∀ w ∈ lw_tbl, w.before av s = true) : ∃ D : va_G, ∀ (c : Nat) (q : vw_C), vwCl[c]? = some q → u_Kn s q.1 q.2.1 q.2.2 (D.1 c) (D.2 c) := by
  have K : ∀ {C : String} {T : u_T} {N : Nat}, (∀ w ∈ u_ws C T N, w ∈ lw_tbl) → ∀ n, Cond.instantiable C n ∈ lw_tbl → ∃ x : ClassId × (Nat → Nat), ∀ q : vw_C, some (C, T, N) = some q → u_Kn s q.1 q.2.1 q.2.2 x.1 x.2 := fun h1 n h2 => by
    obtain ⟨cC, iS, hk⟩ := u_known hts h1 (hts _ h2)
    exact ⟨(cC, iS), fun q e => by cases e; exact hk⟩
  have h : ∀ c : Nat, ∃ x : ClassId × (Nat → Nat), ∀ q : vw_C, vwCl[c]? = some q → u_Kn s q.1 q.2.1 q.2.2 x.1 x.2 := by
    intro c
    match c with
    | 0 => exact K wl_wsJx4a65c0 3 (List.mem_of_getElem? (i := 860) (by decide +kernel))
    | 1 => exact K wl_wsX00 7 (List.mem_of_getElem? (i := 173) (by decide +kernel))
    | 2 => exact K wl_wsX10 4 (List.mem_of_getElem? (i := 152) (by decide +kernel))
    | 3 => exact K wl_wsX20 9 (List.mem_of_getElem? (i := 115) (by decide +kernel))
    | 4 => exact K wl_wsX30 11 (List.mem_of_getElem? (i := 203) (by decide +kernel))
    | 5 => exact K wl_wsX40 6 (List.mem_of_getElem? (i := 84) (by decide +kernel))
    | 6 => exact K wl_wsX50 7 (List.mem_of_getElem? (i := 76) (by decide +kernel))
    | 7 => exact K wl_wsX60 6 (List.mem_of_getElem? (i := 1231) (by decide +kernel))
    | 8 => exact K wl_wsX70 5 (List.mem_of_getElem? (i := 928) (by decide +kernel))
    | 9 => exact K wl_wsX80 4 (List.mem_of_getElem? (i := 1116) (by decide +kernel))
    | 10 => exact K wl_wsX90 10 (List.mem_of_getElem? (i := 1291) (by decide +kernel))
    | 11 => exact K wl_wsX100 5 (List.mem_of_getElem? (i := 1051) (by decide +kernel))
    | 12 => exact K wl_wsX110 5 (List.mem_of_getElem? (i := 1081) (by decide +kernel))
    | 13 => exact K wl_wsX120 6 (List.mem_of_getElem? (i := 854) (by decide +kernel))
    | n + 14 => exact ⟨(0, fun _ => 0), fun q e => by cases e⟩
  exact ⟨(fun c => (Classical.choose (h c)).1, fun c => (Classical.choose (h c)).2), fun c => Classical.choose_spec (h c)⟩
/-- what the tables say of an array class -/
def st_ar (s : State) (c comp : ClassId) (t : FieldType) : Prop := (∃ k : Class, s.vm.classes[c]? = some k ∧ k.kind = .array comp t) ∧ s.vm.findClass ("[" ++ t.toString) = some c
theorem st_ar.T {c comp : ClassId} {t : FieldType} (h : st_ar s c comp t) : ArrOfT s c t := by
  obtain ⟨⟨k, h1, h2⟩, h3⟩ := h
  exact fun n z => ⟨fun k h => (by cases h), k, h1, comp, h2⟩
theorem st_cls {t : FieldType} (h : (Cond.arrayClass t).before av s = true) : ∃ c comp, st_ar s c comp t := by
  obtain ⟨c, k, comp, h1, h2, h3⟩ := Cond.arrayClass_spec h
  exact ⟨c, comp, ⟨k, h2, h3⟩, h1⟩
theorem st_over {t : FieldType} (h : (Cond.arrayOver (.array t)).before av s = true) : ∃ c comp, s.vm.findClass (FieldType.array t).toString = some comp ∧ st_ar s c comp (.array t) := by
  simp only [Cond.before, Cond.holds, Cond.value, beq_iff_eq] at h
  cases hc : s.vm.findClass (FieldType.array t).toString with
  | none => simp [hc] at h
  | some comp =>
    simp only [hc, Option.bind_some, Option.bind_eq_some_iff, Option.map_eq_some_iff] at h
    obtain ⟨c, hi, k, hk, hb⟩ := h
    obtain ⟨hlt, hp, -⟩ := Array.findIdx?_eq_some_iff_getElem.mp hi
    have hkk : s.vm.classes[c] = k := (Array.getElem?_eq_some_iff.mp hk).2
    rw [hkk] at hp
    cases hkind : k.kind with
    | array component ty =>
      rw [hkind] at hb hp
      simp at hb hp
      exact ⟨c, comp, rfl, ⟨k, hk, by rw [hkind, hp, hb.1]⟩, hb.2⟩
    | _ => rw [hkind] at hb; simp at hb
/-- the five array classes of the model, the two of the desk, and the law's own -/
theorem st_T (hts : ∀ w ∈ lw_tbl, w.before av s = true) {D : va_G} (hD : ∀ (c : Nat) (q : vw_C), vwCl[c]? = some q → u_Kn s q.1 q.2.1 q.2.2 (D.1 c) (D.2 c)) : ∃ (ty : Nat → ClassId) (tl : ClassId), va_K D vwCl (mT ty) s ∧ va_K D vwCl (zT ty) s ∧ va_K D vwCl [(tl, .long)] s ∧ xN ty s := by
  obtain ⟨c0, z0, h0⟩ := st_cls (hts (.arrayClass .int) (List.mem_of_getElem? (i := 113) (by decide +kernel)))
  obtain ⟨c1, z1, h1⟩ := st_cls (hts (.arrayClass .boolean) (List.mem_of_getElem? (i := 150) (by decide +kernel)))
  obtain ⟨cl, zl, hl⟩ := st_cls (hts (.arrayClass .long) (List.mem_of_getElem? (i := 1437) (by decide +kernel)))
  obtain ⟨z2, c2, k2, e2, -, e3, e4, e5⟩ := Cond.arrayOver_spec (hts (.arrayOver (.object "java/lang/Object")) (List.mem_of_getElem? (i := 1008) (by decide +kernel)))
  obtain ⟨c3, z3, f3, h3⟩ := st_over (hts (.arrayOver (.array .int)) (List.mem_of_getElem? (i := 1153) (by decide +kernel)))
  obtain ⟨c4, z4, f4, h4⟩ := st_over (hts (.arrayOver (.array (.array .int))) (List.mem_of_getElem? (i := 1152) (by decide +kernel)))
  obtain rfl : z3 = c0 := Option.some.inj (f3.symm.trans h0.2)
  obtain rfl : z4 = c3 := Option.some.inj (f4.symm.trans h3.2)
  have E : ∀ {tys : List (ClassId × FieldType)}, (∀ (k : Nat) (q : ClassId × FieldType), tys[k]? = some q → ArrOfT s q.1 q.2 ∧ va_RA s q.1 q.2) → va_K D vwCl tys s := fun h => ⟨hD, h⟩
  have q0 : ArrOfT s z3 .int ∧ va_RA s z3 .int := ⟨h0.T, h0.2⟩
  have q1 : ArrOfT s c1 .boolean ∧ va_RA s c1 .boolean := ⟨h1.T, h1.2⟩
  refine ⟨fun k => match k with | 0 => z3 | 1 => c1 | 2 => c2 | 3 => z4 | _ => c4, cl, E fun k q hk => ?_, E fun k q hk => ?_, E fun k q hk => ?_, ⟨?_, ?_⟩⟩
  · match k with
    | 0 => cases hk; exact q0
    | 1 => cases hk; exact q1
    | 2 => cases hk; exact ⟨fun n z => ⟨fun k h => (by cases h), k2, e3, z2, e4⟩, k2, z2, e3, e4, e2, e5⟩
    | 3 => cases hk; exact ⟨h3.T, h3.2⟩
    | 4 => cases hk; exact ⟨h4.T, h4.2⟩
    | n + 5 => cases hk
  · match k with
    | 0 => cases hk; exact q0
    | 1 => cases hk; exact q1
    | n + 2 => cases hk
  · match k with
    | 0 => cases hk; exact ⟨hl.T, hl.2⟩
    | n + 1 => cases hk
  · obtain ⟨⟨k4, a4, b4⟩, -⟩ := h4
    obtain ⟨⟨k3, a3, b3⟩, -⟩ := h3
    obtain ⟨⟨k0, a0, b0⟩, -⟩ := h0
    exact ⟨k4, k3, k0, z0, a4, b4, a3, b3, a0, b0⟩
  · exact va_Nw.of (by decide) (hts (.classLink "DatamarketDeskModel" 67 "[[[I") (List.mem_of_getElem? (i := 1151) (by decide +kernel)))
theorem st_N (hts : ∀ w ∈ lw_tbl, w.before av s = true) : zN s := fun w hw => by
  have k : w.onTables = true := by
    have a : zNl.all (fun w => w.onTables) = true := by decide +kernel
    exact List.all_eq_true.mp a w hw
  exact va_Nw.of k (hts w (zNl_tbl w hw))
theorem zTx_tbl : ∀ q ∈ zTx, Cond.stringRef "DatamarketDesk" q.1 q.2 ∈ lw_tbl := by decide +kernel
def st_nar : List Cond := flatC (Jvm.Cond.and given_1 narrow_1)
theorem zTx_nar : ∀ q ∈ zTx, Cond.exactly (.string "DatamarketDesk" q.1) "java/lang/String" ∈ st_nar := by decide +kernel
theorem st_Str (hts : ∀ w ∈ lw_tbl, w.before av s = true) (hn : ∀ w ∈ st_nar, w.before av s = true) : zStr s := fun q hq => by
  obtain ⟨a, c, cell, k, h1, -⟩ := Cond.exactly_spec (hn _ (zTx_nar q hq))
  exact ⟨a, vk_R.of (hts _ (zTx_tbl q hq)) h1⟩
theorem st_Q (hts : ∀ w ∈ lw_tbl, w.before av s = true) (hn : ∀ w ∈ st_nar, w.before av s = true) : zQ s := by
  have hA : ∀ a : Nat, a < s.heap.size → ¬ (fun q => s.heap.size ≤ q) a := fun a h => Nat.not_le.mpr h
  have hi := hts (.initialized "java/lang/Throwable") (List.mem_of_getElem? (i := 56) (by decide +kernel))
  exact ⟨vx_Zqof (hts (.laysStatic "java/lang/Throwable" "UNASSIGNED_STACK" "[Ljava/lang/StackTraceElement;") (List.mem_of_getElem? (i := 350) (by decide +kernel))) hi (hn _ (by decide +kernel)) hA, vx_Zqof (hts (.laysStatic "java/lang/Throwable" "SUPPRESSED_SENTINEL" "Ljava/util/List;") (List.mem_of_getElem? (i := 352) (by decide +kernel))) hi (hn _ (by decide +kernel)) hA⟩
theorem st_NC (hn : ∀ w ∈ st_nar, w.before av s = true) : zNC s := ⟨va_Nc.of (hn _ (by decide +kernel)), va_Nc.of (hn _ (by decide +kernel)), va_Nc.of (hn _ (by decide +kernel))⟩
theorem st_S (hts : ∀ w ∈ lw_tbl, w.before av s = true) (hn : ∀ w ∈ st_nar, w.before av s = true) (D : va_G) {ty : Nat → ClassId} (hx : xN ty s) : ∃ t0 mi : Nat, mS D ty (fun q => s.heap.size ≤ q) t0 mi s := by
  obtain ⟨mi, hmi⟩ := va_Mi.of (hn (.isRef (.mirror "[Ljava/lang/Object;")) (by decide +kernel))
  obtain ⟨t0, c, cell, k, h1, h2, h3, h4, h5, h6, -⟩ := Cond.exactly_spec (hn (.exactly (.static "java/util/ArrayList" "DEFAULTCAPACITY_EMPTY_ELEMENTDATA" "[Ljava/lang/Object;") "[Ljava/lang/Object;") (by decide +kernel))
  have h7 := (Cond.arrayOf_spec (hn (.arrayOf (.static "java/util/ArrayList" "DEFAULTCAPACITY_EMPTY_ELEMENTDATA" "[Ljava/lang/Object;") (.object "java/lang/Object")) (by decide +kernel)) h1 h3).1
  have h8 : cell.slots.size.toInt32 = nI 0 := by
    have h := hn (.eq (.length (.static "java/util/ArrayList" "DEFAULTCAPACITY_EMPTY_ELEMENTDATA" "[Ljava/lang/Object;")) (.int 0)) (by decide +kernel)
    cases hv : (Term.length (.static "java/util/ArrayList" "DEFAULTCAPACITY_EMPTY_ELEMENTDATA" "[Ljava/lang/Object;")).eval av s none [] s with
    | none => simp [Cond.before, Cond.holds, Cond.value, hv] at h
    | some w =>
      obtain ⟨a, cell', e1, e2, rfl⟩ := Term.length_spec hv
      cases h1.symm.trans e1
      obtain ⟨e3, -⟩ := State.arrayAt?_spec e2
      cases h3.symm.trans e3
      have e := Cond.eq_ints (idx := []) (o := none) (first := s) (s := s) (args := av) hv (show (Term.int 0).eval av s none [] s = some (.int 0) from rfl)
      simp only [Cond.before, Cond.holds, e] at h
      rw [nI_0]; simpa using h
  have hl : t0 < s.heap.size := (Array.getElem?_eq_some_iff.mp h3).1
  exact ⟨t0, mi, va_Zof (hts (.laysStatic "java/util/ArrayList" "DEFAULTCAPACITY_EMPTY_ELEMENTDATA" "[Ljava/lang/Object;") (List.mem_of_getElem? (i := 872) (by decide +kernel))) (hts (.initialized "java/util/ArrayList") (List.mem_of_getElem? (i := 55) (by decide +kernel))) h1 (fun a h => Nat.not_le.mpr h), ⟨cell, h3, h7, h8⟩, Nat.not_le.mpr hl, hmi, va_AO.of (hts (.arrayOver (.object "java/lang/Object")) (List.mem_of_getElem? (i := 1008) (by decide +kernel))), st_N hts, hx⟩
end START
/-! the law up to its loop: the desk, the model, the long[1] -/
theorem mv_zero : mv (fun _ _ => 0) (fun _ => 0) (fun _ => 0) (fun _ => 0) = fun _ _ => 0 := by
  funext k j
  unfold mv va_up
  split
  · rfl
  · split
    · rfl
    · split <;> rfl
theorem zC_D {A : Nat → Prop} {ty : Nat → ClassId} {g : Nat → Nat → Int32} {ad : Nat → Nat} (hij : zIj ad) (hA : ∀ k, k < 39 → A (ad k)) : va_D A (zC ty g ad) := ⟨fun i j p q hi hj e => by
  obtain ⟨h1, h2⟩ := zC_at hi
  obtain ⟨h3, h4⟩ := zC_at hj
  exact hij i j h1 h3 (by rw [← h2, ← h4]; exact e), fun k q hk => by
  obtain ⟨h1, h2⟩ := zC_at hk
  rw [h2]; exact hA k h1⟩
/-- the model's own places before the long[1] is made -/
def mB (hs : Nat) (ad : Nat → Nat) : Nat → Prop := fun q => hs ≤ q ∧ ∀ k, k < 39 → q ≠ ad k
/-- the blank model -/
def oN : va_E := .inr (13, [.int 0, .null, .null, .null, .null, .int 0])
theorem lwI_start {D : va_G} {ty : Nat → ClassId} {tl : ClassId} {t0 hs ob : Nat} {ad : Nat → Nat} {u : Nat → Nat → Prop} {C : Nat → Nat → va_E} {ma : Nat → Nat → Nat} {H H1 : Heap} (hP : va_P D vwCl (zC ty (fun _ _ => 0) ad) H) (hij : zIj ad) (hlo : ∀ k, k < 39 → hs ≤ ad k) (hz : hs ≤ H.size) (hM : mW D (mB hs ad) u C ma H) (hob : ob = H.size) (hz1 : H1.size = H.size + 1) (o1 : ∀ q : Nat, q < H.size → H1[q]? = H[q]?) (hO : va_at D vwCl (ob, eL tl (fun _ => 0)) H1)
    (o : u 0 0 ∧ C 0 0 = eO 13 [.int 0, .ref (ma 1 0), .ref (ma 3 0), .ref (ma 5 0), .ref (ma 7 0), .int 0]) (l1 : u 1 0 ∧ C 1 0 = eO 0 [.int (nI 0), .ref t0, .int 0]) (l3 : u 3 0 ∧ C 3 0 = eO 0 [.int (nI 0), .ref t0, .int 0]) (l5 : u 5 0 ∧ C 5 0 = eO 0 [.int (nI 0), .ref t0, .int 0]) (l7 : u 7 0 ∧ C 7 0 = eO 0 [.int (nI 0), .ref t0, .int 0]) :
    lwI D ty tl t0 hs ad ob (fun _ _ => 0) (fun _ => 0) (fun _ => 0) (fun _ => 0) (fun _ => 0) u C ma 0 0 0 0 0 0 (fun _ _ => 0) (fun _ _ => 0) (nI 0) H1 := by
  have had : ∀ k, k < 39 → ad k < H.size := fun k hk => by
    obtain ⟨e, he⟩ := zC_get (ty := ty) (g := fun _ _ => 0) (ad := ad) k hk
    exact (hP k _ he).lt
  refine ⟨zC_kept hP (fun k hk h => o1 _ h), ⟨hij, fun k hk e => ?_, hlo, by omega⟩, hO, ⟨fun k x hu => ?_, hM.2.1, fun q hq => ?_⟩, ?_, ?_⟩
  · have := had k hk; omega
  · have h1 := hM.lt hu
    have h2 := hM.inA hu
    exact ⟨(hM.at hu).kept (o1 _ h1), h2.1, by omega, h2.2⟩
  · exact ⟨by omega, by omega, fun k hk e => by have := had k hk; omega⟩
  · rw [mv_zero]
    exact mR_start gI_zero rfl o l1 l3 l5 l7
  · exact ⟨fun i f hi => absurd hi (Nat.not_lt_zero _), Nat.le_refl _, fun c hc => absurd hc (Nat.not_lt_zero _), Nat.le_refl _, fun i hi => absurd hi (Nat.not_lt_zero _), fun h => absurd h (Nat.not_lt_zero _)⟩
set_option maxHeartbeats 2000000 in
set_option maxRecDepth 100000 in
theorem law_init (p : Program) (l : Launch) (e : Env) (s : State) (m : MethodId) (below : List Frame) (meth : Method) (c : Code) (Q : State → Prop) (D : va_G) (ty : Nat → ClassId) (tl : ClassId) (t0 mi b L : Nat) (xs : Nat → Int32) (hC : lwC p l s m meth c D ty tl t0 mi b L xs) (ls : Array Slot) (hl : lv_has ls 9 [(0, .ref b)])
    (K : ∀ (ad : Nat → Nat) (ob : Nat) (u : Nat → Nat → Prop) (C : Nat → Nat → va_E) (ma : Nat → Nat → Nat) (H : Heap) (locs : List Loc) (ls : Array Slot), lwI D ty tl t0 s.heap.size ad ob (fun _ _ => 0) (fun _ => 0) (fun _ => 0) (fun _ => 0) (fun _ => 0) u C ma 0 0 0 0 0 0 (fun _ _ => 0) (fun _ _ => 0) (nI 0) H → va_S (fun q => s.heap.size ≤ q) s.heap H locs → lv_has ls 9 [(4, .int (nI 0)), (3, .ref ob), (2, .ref (ma 0 0)), (1, .ref (ad 0)), (0, .ref b)] → W p l e room_1 s m #[Value.ref b] below meth c H locs 45 2827 Q (F0 m 23 ls [])) : W p l e room_1 s m #[Value.ref b] below meth c s.heap [] 0 0 Q (F0 m 0 ls []) := by
  have hC0 := hC
  obtain ⟨⟨hx, hb, hr, hml, hlocks, hlt⟩, ⟨hown, hts, hX, hbl, hL⟩, ⟨hKz, hK, hKl⟩, hNz, hT, hQ, hMS, hNc⟩ := hC
  have hA : ∀ q : Nat, s.heap.size ≤ q → (fun q : Nat => s.heap.size ≤ q) q := fun _ h => h
  have hS : va_S (fun q : Nat => s.heap.size ≤ q) s.heap s.heap [] := va_S.rf
  have hP : va_P D vwCl [] s.heap := fun k q h => by cases h
  have hD : va_D (fun q : Nat => s.heap.size ≤ q) [] := ⟨fun i j p q h => (by cases h), fun k q h => (by cases h)⟩
  refine va_new (ci := 6) (fs := [.null, .null, .null, .null, .null, .null, .int 0]) (C := RX5) (T := TX5) (N := 7) hx hb hts inlX5 tyX5 tyX5_ok hown (hts (.classLink RL 8 RX5) (List.mem_of_getElem? (i := 0) (by decide +kernel))) (hts (.instantiable RX5 7) (List.mem_of_getElem? (i := 1) (by decide +kernel))) (hts (.initialized RX5) (List.mem_of_getElem? (i := 2) (by decide +kernel))) hKz hP hD hS hA rfl (fun j hj => by rcases (show j = 0 ∨ j = 1 ∨ j = 2 ∨ j = 3 ∨ j = 4 ∨ j = 5 ∨ j = 6 by omega) with rfl | rfl | rfl | rfl | rfl | rfl | rfl <;> rfl) (Nat.le_of_ble_eq_true rfl) (Nat.le_of_ble_eq_true rfl) dL_law_0 (fun q H hP hD hS => ?_)
  have hP : va_P D vwCl [(q, .inr (6, [.null, .null, .null, .null, .null, .null, .int 0]))] H := hP
  have hq : s.heap.size ≤ q := hD.2 0 _ rfl
  refine lv_dup hx hb dL_law_3 rfl ?_
  have hqA : ∀ x, va_A [(q, .inr (6, [.null, .null, .null, .null, .null, .null, .int 0]))] H.size x → s.heap.size ≤ x := fun x h => by
    have := hS.1
    rcases vA1 h with h | h <;> omega
  refine va_callv (va_runI (As := []) (rest := [.ref q]) ⟨hx, hb, hml, hown, hts⟩ (c_X5_init l D ty q H.size) (cwI 0 hts gL_law_X5_init rfl rfl rfl (hts (.initialized RX5) (List.mem_of_getElem? (i := 2) (by decide +kernel))) (hts (.methodLink RL 91 yX5_init) (List.mem_of_getElem? (i := 7) (by decide +kernel))) (hts (.instanceMethod yX5_init) (List.mem_of_getElem? (i := 8) (by decide +kernel))) rfl (by decide +kernel) ⟨Nat.le_of_ble_eq_true rfl, Nat.le_of_ble_eq_true rfl⟩) ⟨zBl wI_blind, fun U h1 h2 => ⟨rfl, by rw [h1]; exact hP, mW.D1 _ _, va_K.moved h2.alike hKz, hNz.warm h2, by rw [h1]⟩⟩ rfl rfl hl.1 rfl (lv_room (Nat.le_of_ble_eq_true rfl)) dL_law_4 ⟨Nat.le_of_ble_eq_true rfl, Nat.le_of_ble_eq_true rfl⟩) hS (fun x _ h => hqA x h) (fun x h => hqA x h) (fun ad t H1 locs ht hvm hw hB hz1 hk1 hS => ?_)
  obtain ⟨h0, hPz, hij, had⟩ := hB
  have hPz : va_P D vwCl (zC ty (fun _ _ => 0) ad) H1 := by rw [← ht]; exact hPz
  have hlo : ∀ k, k < 39 → s.heap.size ≤ ad k := fun k hk => by
    have h3 : s.heap.size ≤ H.size := Nat.le_trans (Nat.le_of_eq rfl) (by have h4 := (hP 0 _ rfl).lt; have h5 : q < H.size := h4; omega)
    rcases had k hk with h | h <;> omega
  refine lv_astore_n (lv' := [(1, .ref q), (0, .ref b)]) hx hb dL_law_7 rfl hl (by decide) rfl (fun ls hl => ?_)
  rw [← h0] at hl
  have hDz : va_D (fun q : Nat => s.heap.size ≤ q) (zC ty (fun _ _ => 0) ad) := zC_D hij hlo
  refine va_new (ci := 13) (fs := [.int 0, .null, .null, .null, .null, .int 0]) (C := RX12) (T := TX12) (N := 6) hx hb hts inlX12 tyX12 tyX12_ok hown (hts (.classLink RL 92 RX12) (List.mem_of_getElem? (i := 3) (by decide +kernel))) (hts (.instantiable RX12 6) (List.mem_of_getElem? (i := 4) (by decide +kernel))) (hts (.initialized RX12) (List.mem_of_getElem? (i := 5) (by decide +kernel))) hKz hPz hDz hS hA rfl (fun j hj => by rcases (show j = 0 ∨ j = 1 ∨ j = 2 ∨ j = 3 ∨ j = 4 ∨ j = 5 by omega) with rfl | rfl | rfl | rfl | rfl | rfl <;> rfl) (Nat.le_of_ble_eq_true rfl) (Nat.le_of_ble_eq_true rfl) dL_law_8 (fun q2 H2 hP2 hD2 hS2 => ?_)
  have e39 : (zC ty (fun _ _ => 0) ad ++ [(q2, oN)])[39]? = some (q2, oN) := rfl
  have hP2z : va_P D vwCl (zC ty (fun _ _ => 0) ad) H2 := fun k x hk => hP2 k x (by rw [List.getElem?_append_left (by have := (zC_at hk).1; exact this)]; exact hk)
  have h2q : va_at D vwCl (q2, oN) H2 := hP2 39 _ e39
  have h2n : ∀ k, k < 39 → q2 ≠ ad k := fun k hk e => by
    obtain ⟨x, hx⟩ := zC_get (ty := ty) (g := fun _ _ => 0) (ad := ad) k hk
    have := hD2.1 39 k _ _ e39 (by rw [List.getElem?_append_left (show k < 39 from hk)]; exact hx) e
    omega
  have had2 : ∀ k, k < 39 → ad k < H2.size := fun k hk => by
    obtain ⟨x, hx⟩ := zC_get (ty := ty) (g := fun _ _ => 0) (ad := ad) k hk
    exact (hP2z k _ hx).lt
  have hM2 : mW D (mB s.heap.size ad) (fun k x => k = 0 ∧ x = 0) (fun _ _ => oN) (fun _ _ => q2) H2 := ⟨fun k x hu => ⟨h2q, hD2.2 39 _ e39, h2n⟩, fun k x k' x' h1 h2 _ => ⟨h1.1.trans h2.1.symm, h1.2.trans h2.2.symm⟩, fun x hx => ⟨Nat.le_trans hS2.1 hx, fun k hk e => by have := had2 k hk; omega⟩⟩
  have hmI : ∀ U : State, U.heap = H2 → s.WarmedH U.vm → mI D ty (mB s.heap.size ad) (fun k x => k = 0 ∧ x = 0) (fun _ _ => oN) (fun _ _ => q2) t0 mi U := fun U hU hW => ⟨by rw [hU]; exact hM2, va_K.moved hW.alike hK, mS_narrow (fun q z => z.1) (hMS.moved hW (by rw [hU]; exact hS2.1) (fun q h1 h2 => by rw [hU]; exact hS2.2.1 q h1 h2))⟩
  refine lv_dup hx hb dL_law_11 rfl ?_
  refine va_callv (va_runI (As := []) (rest := [.ref q2]) ⟨hx, hb, hml, hown, hts⟩ (c_X12_init l D ty (mB s.heap.size ad) (fun k x => k = 0 ∧ x = 0) (fun _ _ => oN) (fun _ _ => q2) t0 mi ⟨rfl, rfl⟩ rfl) (cwI 0 hts gL_law_X12_init rfl rfl rfl (hts (.initialized RX12) (List.mem_of_getElem? (i := 5) (by decide +kernel))) (hts (.methodLink RL 94 yX12_init) (List.mem_of_getElem? (i := 89) (by decide +kernel))) (hts (.instanceMethod yX12_init) (List.mem_of_getElem? (i := 90) (by decide +kernel))) rfl (by decide +kernel) ⟨Nat.le_of_ble_eq_true rfl, Nat.le_of_ble_eq_true rfl⟩) ⟨zBl mI_blind, fun U h1 h2 => ⟨rfl, hmI U h1 h2⟩⟩ rfl rfl hl.1 rfl (lv_room (Nat.le_of_ble_eq_true rfl)) dL_law_12 ⟨Nat.le_of_ble_eq_true rfl, Nat.le_of_ble_eq_true rfl⟩) hS2 (fun x _ h => h.1) (fun x h => h.1) (fun S t H3 locs ht hvm hw hB hz3 hk3 hS3 => ?_)
  obtain ⟨u, C, ma⟩ := S
  obtain ⟨h00, o, l1, l3, l5, l7⟩ := hw
  have h00 : ma 0 0 = q2 := h00
  have hM3 : mW D (mB s.heap.size ad) u C ma H3 := by rw [← ht]; exact hB.1
  have hP3 : va_P D vwCl (zC ty (fun _ _ => 0) ad) H3 := zC_kept hP2z (fun k hk h => hk3 _ h (fun z => z.2 k hk rfl))
  refine lv_astore_n (lv' := [(2, .ref q2), (1, .ref (ad 0)), (0, .ref b)]) hx hb dL_law_15 rfl hl (by decide) rfl (fun ls hl => ?_)
  rw [← h00] at hl
  refine lv_iconst (v := nI 1) hx hb dL_law_16 (by decide) ?_
  refine va_newaK (atype := .long) (g := F0 m 17 ls [.int (nI 1)]) (n := nI 1) (N := 1) (rest := []) hx hb (hts (.arrayClass .long) (List.mem_of_getElem? (i := 6) (by decide +kernel))) rfl dL_law_17 rfl (by decide) (by decide) (Nat.le_of_ble_eq_true rfl) (Nat.le_of_ble_eq_true rfl) (Nat.le_of_ble_eq_true rfl) rfl (fun H4 cA e1 z1 o1 hAr hNm => ?_)
  have hcA : cA = tl := Option.some.inj (hNm.symm.trans (hKl.2 0 _ rfl).2)
  rw [hcA] at e1
  have hO : va_at D vwCl (H3.size, eL tl (fun _ => 0)) H4 := e1
  have hS4 : va_S (fun q : Nat => s.heap.size ≤ q) s.heap H4 locs := ⟨Nat.le_trans hS3.1 (by omega), fun x h1 h2 => (o1 x (Nat.lt_of_lt_of_le h1 hS3.1)).trans (hS3.2.1 x h1 h2), hS3.2.2⟩
  show W p l e room_1 s m #[Value.ref b] below meth c H4 locs _ _ Q (F0 m 19 ls [.ref H3.size])
  refine lv_astore_n (lv' := [(3, .ref H3.size), (2, .ref (ma 0 0)), (1, .ref (ad 0)), (0, .ref b)]) hx hb dL_law_19 rfl hl (by decide) rfl (fun ls hl => ?_)
  refine lv_iconst (v := nI 0) hx hb dL_law_20 (by decide) ?_
  refine lv_istore (lv' := [(4, .int (nI 0)), (3, .ref H3.size), (2, .ref (ma 0 0)), (1, .ref (ad 0)), (0, .ref b)]) hx hb dL_law_21 hl (by decide) rfl (fun ls hl => ?_)
  exact K ad H3.size u C ma H4 locs ls (lwI_start hP3 hij hlo hS3.1 hM3 rfl z1 o1 hO o l1 l3 l5 l7) hS4 hl
