/-! the start: the classes, the arrays, what stands outside -/
section START
variable {s : State} {av : Array Value}
theorem st_K (hts : ∀ w ∈ lw_tbl, w.before av s = true) : ∃ D : va_G, ∀ (c : Nat) (q : vw_C), vwCl[c]? = some q → u_Kn s q.1 q.2.1 q.2.2 (D.1 c) (D.2 c) := by
  have K : ∀ {C : String} {T : u_T} {N : Nat}, (∀ w ∈ u_ws C T N, w ∈ lw_tbl) → ∀ n, Cond.instantiable C n ∈ lw_tbl → ∃ x : ClassId × (Nat → Nat), ∀ q : vw_C, some (C, T, N) = some q → u_Kn s q.1 q.2.1 q.2.2 x.1 x.2 := fun h1 n h2 => by
    obtain ⟨cC, iS, hk⟩ := u_known hts h1 (hts _ h2)
    exact ⟨(cC, iS), fun q e => by cases e; exact hk⟩
  have h : ∀ c : Nat, ∃ x : ClassId × (Nat → Nat), ∀ q : vw_C, vwCl[c]? = some q → u_Kn s q.1 q.2.1 q.2.2 x.1 x.2 := by
    intro c
    match c with
    | 0 => exact K wl_wsX00 7 (List.mem_of_getElem? (i := 129) (by decide +kernel))
    | 1 => exact K wl_wsX10 4 (List.mem_of_getElem? (i := 109) (by decide +kernel))
    | 2 => exact K wl_wsX20 9 (List.mem_of_getElem? (i := 72) (by decide +kernel))
    | 3 => exact K wl_wsX30 11 (List.mem_of_getElem? (i := 159) (by decide +kernel))
    | 4 => exact K wl_wsX40 6 (List.mem_of_getElem? (i := 41) (by decide +kernel))
    | 5 => exact K wl_wsX50 7 (List.mem_of_getElem? (i := 33) (by decide +kernel))
    | n + 6 => exact ⟨(0, fun _ => 0), fun q e => by cases e⟩
  exact ⟨(fun c => (Classical.choose (h c)).1, fun c => (Classical.choose (h c)).2), fun c => Classical.choose_spec (h c)⟩
/-- what the tables say of an array class -/
def st_ar (s : State) (c comp : ClassId) (t : FieldType) : Prop := (∃ k : Class, s.vm.classes[c]? = some k ∧ k.kind = .array comp t) ∧ s.vm.findClass ("[" ++ t.toString) = some c
theorem st_ar.T {c comp : ClassId} {t : FieldType} (h : st_ar s c comp t) : ArrOfT s c t := by
  obtain ⟨⟨k, h1, h2⟩, h3⟩ := h
  exact fun n z => ⟨fun k h => (by cases h), k, h1, comp, h2⟩
theorem st_cls {t : FieldType} (h : (Cond.arrayClass t).before av s = true) : ∃ c comp, st_ar s c comp t := by
  obtain ⟨c, k, comp, h1, h2, h3⟩ := Cond.arrayClass_spec h
  exact ⟨c, comp, ⟨k, h2, h3⟩, h1⟩
theorem st_T (hts : ∀ w ∈ lw_tbl, w.before av s = true) {D : va_G} (hD : ∀ (c : Nat) (q : vw_C), vwCl[c]? = some q → u_Kn s q.1 q.2.1 q.2.2 (D.1 c) (D.2 c)) : ∃ ty : Nat → ClassId, va_K D vwCl (zT ty) s := by
  obtain ⟨c0, z0, h0⟩ := st_cls (hts (.arrayClass .int) (List.mem_of_getElem? (i := 70) (by decide +kernel)))
  obtain ⟨c1, z1, h1⟩ := st_cls (hts (.arrayClass .boolean) (List.mem_of_getElem? (i := 107) (by decide +kernel)))
  refine ⟨fun k => match k with | 0 => c0 | _ => c1, hD, fun k q hk => ?_⟩
  match k with
  | 0 => cases hk; exact ⟨h0.T, h0.2⟩
  | 1 => cases hk; exact ⟨h1.T, h1.2⟩
  | n + 2 => cases hk
theorem st_N (hts : ∀ w ∈ lw_tbl, w.before av s = true) : zN s := fun w hw => by
  have k : w.onTables = true := by
    have a : zNl.all (fun w => w.onTables) = true := by decide +kernel
    exact List.all_eq_true.mp a w hw
  exact va_Nw.of k (hts w (zNl_tbl w hw))
theorem zTx_tbl : ∀ q ∈ zTx, Cond.stringRef "DatamarketDesk" q.1 q.2 ∈ lw_tbl := by decide +kernel
def st_nar : List Cond := flatC (Jvm.Cond.and given_1 narrow_1)
theorem zTx_nar : ∀ q ∈ zTx, Cond.exactly (.string "DatamarketDesk" q.1) "java/lang/String" ∈ st_nar := by decide +kernel
theorem st_Str (hts : ∀ w ∈ lw_tbl, w.before av s = true) (hn : ∀ w ∈ st_nar, w.before av s = true) : zStr s := fun q hq => by
  obtain ⟨a, c, cell, k, h1, -⟩ := Cond.exactly_spec (hn _ (zTx_nar q hq))
  exact ⟨a, vk_R.of (hts _ (zTx_tbl q hq)) h1⟩
theorem st_Q (hts : ∀ w ∈ lw_tbl, w.before av s = true) (hn : ∀ w ∈ st_nar, w.before av s = true) : zQ s := by
  have hA : ∀ a : Nat, a < s.heap.size → ¬ (fun q => s.heap.size ≤ q) a := fun a h => Nat.not_le.mpr h
  have hi := hts (.initialized "java/lang/Throwable") (List.mem_of_getElem? (i := 24) (by decide +kernel))
  exact ⟨vx_Zqof (hts (.laysStatic "java/lang/Throwable" "UNASSIGNED_STACK" "[Ljava/lang/StackTraceElement;") (List.mem_of_getElem? (i := 262) (by decide +kernel))) hi (hn _ (by decide +kernel)) hA, vx_Zqof (hts (.laysStatic "java/lang/Throwable" "SUPPRESSED_SENTINEL" "Ljava/util/List;") (List.mem_of_getElem? (i := 264) (by decide +kernel))) hi (hn _ (by decide +kernel)) hA⟩
end START
