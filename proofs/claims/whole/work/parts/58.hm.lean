theorem arrV_c {c : ClassId} {N : Nat} {f f' : Nat → Value} (h : ∀ j, j < N → f j = f' j) : arrV c N f = arrV c N f' := by
  unfold arrV
  congr 2
  funext j
  exact h j.val j.isLt
/-- the three kinds of rows of the harms: 0, 1, 2 -/
def hmu : Nat → Nat → Prop := fun k x => (k = 0 ∧ x = 0) ∨ (k = 1 ∧ x < 8) ∨ (k = 2 ∧ x < 48)
def hmC (ty : Nat → ClassId) (b d : Nat → Nat) (h : Nat → Int32) : Nat → Nat → va_E := fun k x => if k = 0 then eR (ty 4) 8 (fun i => some (b i)) else if k = 1 then eR (ty 3) 6 (fun v => some (d (x * 6 + v))) else eI (ty 0) 6 (row6 h (x * 6))
def hma (a : Nat) (b d : Nat → Nat) : Nat → Nat → Nat := fun k x => if k = 0 then a else if k = 1 then b x else d x
theorem mW.cong {D : va_G} {A : Nat → Prop} {u : Nat → Nat → Prop} {C C' : Nat → Nat → va_E} {ma : Nat → Nat → Nat} {H : Heap} (h : mW D A u C ma H) (e : ∀ k x, u k x → C' k x = C k x) : mW D A u C' ma H :=
  ⟨fun k x hu => by rw [e k x hu]; exact h.1 k x hu, h.2.1, h.2.2⟩
section HMW
variable {D : va_G} {ty : Nat → ClassId} {A : Nat → Prop} {a : Nat} {b d : Nat → Nat} {h h' : Nat → Int32} {H : Heap}
theorem hmW_X (hM : mW D A hmu (hmC ty b d h) (hma a b d) H) : hmX D ty a h b d H :=
  ⟨(hM.1 0 0 (Or.inl ⟨rfl, rfl⟩)).1, fun i hi => (hM.1 1 i (Or.inr (Or.inl ⟨rfl, hi⟩))).1, fun q hq => (hM.1 2 q (Or.inr (Or.inr ⟨rfl, hq⟩))).1⟩
theorem hmW_A (hM : mW D A hmu (hmC ty b d h) (hma a b d) H) : A a ∧ (∀ i, i < 8 → A (b i)) ∧ ∀ q, q < 48 → A (d q) :=
  ⟨(hM.1 0 0 (Or.inl ⟨rfl, rfl⟩)).2, fun i hi => (hM.1 1 i (Or.inr (Or.inl ⟨rfl, hi⟩))).2, fun q hq => (hM.1 2 q (Or.inr (Or.inr ⟨rfl, hq⟩))).2⟩
theorem hmW_h (hM : mW D A hmu (hmC ty b d h) (hma a b d) H) (e : ∀ p, p < 288 → h' p = h p) : mW D A hmu (hmC ty b d h') (hma a b d) H := by
  refine hM.cong fun k x hu => ?_
  unfold hmC
  split
  · rfl
  · split
    · rfl
    · rename_i h0 h1
      have hx : x < 48 := by unfold hmu at hu; omega
      rw [row6_e (h := h') (h' := h) fun f hf => e _ (by omega)]
/-- one place is written -/
theorem hmW_u {p : Nat} {x : Int32} (hp : p < 288) (hM : mW D A hmu (up2 (hmC ty b d h) 2 (p / 6) (eI (ty 0) 6 (upd (row6 h (p / 6 * 6)) (p % 6) x))) (hma a b d) H) : mW D A hmu (hmC ty b d (upd h p x)) (hma a b d) H := by
  refine hM.cong fun k y hu => ?_
  by_cases e : k = 2 ∧ y = p / 6
  · obtain ⟨rfl, rfl⟩ := e
    rw [up2_s]
    show eI (ty 0) 6 (row6 (upd h p x) (p / 6 * 6)) = _
    rw [row6_u (by omega), show p / 6 * 6 + p % 6 = p by omega]
  · rw [up2_n _ _ e]
    unfold hmC
    split
    · rfl
    · split
      · rfl
      · rename_i h0 h1
        have hy : k = 2 := by unfold hmu at hu; omega
        rw [row6_o (by have : y ≠ p / 6 := fun z => e ⟨hy, z⟩; omega)]
end HMW
/-- the places that are made so far -/
def hmP (g : Nat → Nat → Int32) (P : Nat) : Nat → Int32 := cpy (g 21) (fun _ => 0) P
theorem hmP_0 (g : Nat → Nat → Int32) : hmP g 0 = fun _ => 0 := cpy_0 _ _
theorem hmP_s (g : Nat → Nat → Int32) (P : Nat) : upd (hmP g P) P (g 21 P) = hmP g (P + 1) := cpy_s _ _ _
theorem hmP_lt {g : Nat → Nat → Int32} {P p : Nat} (h : p < P) : hmP g P p = g 21 p := if_pos h
theorem hmP_gap {g : Nat → Nat → Int32} {P P' : Nat} (hle : P ≤ P') (hz : ∀ p, P ≤ p → p < P' → p < 288 → g 21 p = 0) : ∀ p, p < 288 → hmP g P' p = hmP g P p := by
  intro p hp
  unfold hmP cpy
  by_cases h1 : p < P
  · rw [if_pos h1, if_pos (by omega)]
  · rw [if_neg h1]
    by_cases h2 : p < P'
    · rw [if_pos h2]; exact hz p (by omega) h2 hp
    · rw [if_neg h2]
section MUL
variable {p : Program} {l : Launch} {e : Env} {R : Room} {s : State} {m : MethodId} {args : Array Value} {below : List Frame} {meth : Method} {c : Code} {H : Heap} {locs : List Loc} {cells slots : Nat} {Q : State → Prop}
variable {cc : ByteArray} {pc : Nat} {ls : Array Slot} {rest : List Value} {D : va_G} {A : Nat → Prop} {ty : Nat → ClassId} {H0 : Heap}
set_option maxHeartbeats 4000000 in
theorem mmulti (hexec : p.tables.exec = Jvm.exec) (hb : c.code = cc) {own : String} {index : Nat} (hown : s.vm.findClass own = some m.cls) (ho9 : own = "DatamarketDeskModel") (hi9 : index = 67) (hX : xN ty s)
    (hK : va_K D vwCl (mT ty) s) (hS : va_S A H0 H locs) (hA : ∀ q : Nat, H.size ≤ q → A q) (hcells : cells + 57 ≤ R.cells) (hslots : slots + 344 ≤ R.slots) (hdg : decode cc pc = .ok (.multianewarray index 3, 4))
    (kk : ∀ (H1 : Heap) (locs1 : List Loc) (a : Nat) (b d : Nat → Nat), mW D A hmu (hmC ty b d (fun _ => 0)) (hma a b d) H1 → va_S A H0 H1 locs1 → (∀ q : Nat, q < H.size → H1[q]? = H[q]?) → H.size ≤ a → W p l e R s m args below meth c H1 locs1 (cells + 57) (slots + 344) Q (F0 m (pc + 4) ls (.ref a :: rest))) : W p l e R s m args below meth c H locs cells slots Q (F0 m pc ls (.int (nI 6) :: .int (nI 6) :: .int (nI 8) :: rest)) := by
  intro T hT X
  subst hT; subst hb
  have hpl : e.platform.magicAccessors = ({} : Platform).magicAccessors := by rw [X.admits.platform]
  subst ho9; subst hi9
  obtain ⟨⟨k3, k2, k1, cz, q3, q4, r3, r4, w2, w3⟩, hcw⟩ := hX
  have t3 : s.vm.findClass "[[[I" = some (ty 4) := (hK.2 4 _ rfl).2
  obtain ⟨c3, hfc0, hcl⟩ := Cond.classLink_spec hown (va_Nw.use (A := args) (by decide) hcw) e.platform hpl
  have t3 : c3 = ty 4 := Option.some.inj (hfc0.symm.trans t3)
  obtain ⟨c2, t2⟩ : ∃ z, z = ty 3 := ⟨_, rfl⟩
  obtain ⟨c1, t1⟩ : ∃ z, z = ty 0 := ⟨_, rfl⟩
  rw [← t3] at q3
  rw [← t2] at q4 r3
  rw [← t1] at r4 w2
  obtain ⟨hg₁, hwarm₁, hready₁⟩ := State.classEntry (e := e) X.warmed hcl
  generalize hvm : T.vm.noted m.cls 67 (.cls c3) = vm₁ at hg₁ hwarm₁ hready₁
  have hal : s.vm.Alike vm₁ := hwarm₁.alike
  obtain ⟨k3', hk3, e3⟩ := hal.2.2 _ _ q3
  obtain ⟨k2', hk2, e2⟩ := hal.2.2 _ _ r3
  obtain ⟨k1', hk1, e1⟩ := hal.2.2 _ _ w2
  have hl : ∀ n : Nat, n ≤ 8 → ¬ n > e.platform.arrayLengthLimit := fun n hn => by rw [Launch.admits_arrayLengthLimit X.admits]; omega
  have hh : ∀ n k : Nat, n ≤ 8 → k ≤ 4 → ¬ n * k > e.platform.maxHeapBytes := fun n k hn hk => by
    rw [Launch.admits_maxHeapBytes X.admits]
    have := Nat.mul_le_mul hn hk
    omega
  have F1 := mk1_F c1 6 (.int 0)
  have F2 := mkU_F F1 (by decide) c2 6
  have F3 := mkU_F F2 (by decide) c3 8
  have W1 : mkW e vm₁ c1 [nI 6] (mk1 c1 6 (.int 0)) 1 6 := mk1_W (ty := .int) hk1 (by rw [e1]; exact w3) (nI_pos (by decide)) (nI_clamp (by decide)) (hl 6 (by decide)) (hh 6 _ (by decide) (by decide)) rfl
  have W2 := mkU_W (t0 := .array .int) (N := 6) F1 W1 hk2 (by rw [e2]; exact r4) rfl (nI_pos (by decide)) (by decide) (nI_clamp (by decide)) (hl 6 (by decide)) (hh 6 4 (by decide) (by decide))
  have W3 := mkU_W (t0 := .array (.array .int)) (N := 8) F2 W2 hk3 (by rw [e3]; exact q4) rfl (nI_pos (by decide)) (by decide) (nI_clamp (by decide)) (hl 8 (by decide)) (hh 8 4 (by decide) (by decide))
  have S3 := mkU_S F2 (mkU_S F1 (mk1_S c1 6 (.int 0)) c2 6) c3 8
  have T3 := mkU_T (a := 1 + 1 * 6) (mkU_T (a := 1) (mk1_T c1 6 (.int 0)) c2 6) c3 8
  generalize hG : (fun s => mkU (fun s => mkU (mk1 c1 6 (.int 0)) c2 6 1 s 6) c3 8 (1 + 1 * 6) s 8) = G at F3 W3 S3 T3
  have X₁ := X.noted hwarm₁
  obtain ⟨L, hL, XF⟩ := S3 _ _ _ _ _ _ _ _ _ _ _ _ _ _ X₁
  obtain ⟨g1, g2, g3, g4, g5⟩ := F3 (T.setVm vm₁)
  obtain ⟨hr1, hr2⟩ := X.roomAbove hcells hslots
  have hz : (T.setVm vm₁).heap = T.heap := rfl
  rw [hz] at g1 g4 g5 hL
  have gO : (G (T.setVm vm₁)).heap[T.heap.size]? = some (mkO c3 8 7 T.heap.size 8) := g5 0 (by decide)
  have gI' : ∀ i, i < 8 → (G (T.setVm vm₁)).heap[T.heap.size + (1 + 7 * i)]? = some (mkO c2 6 1 (T.heap.size + 1 + 7 * i) 6) := fun i hi => by
    rw [g5 (1 + 7 * i) (by omega)]
    unfold mkC
    rw [if_neg (by omega), show (1 + 7 * i - 1) / (1 + 1 * 6) = i by omega, show (1 + 7 * i - 1) % (1 + 1 * 6) = 0 by omega, if_pos rfl]
  have gJ : ∀ i v, i < 8 → v < 6 → (G (T.setVm vm₁)).heap[T.heap.size + (2 + 7 * i + v)]? = some (arrV c1 6 (fun _ => .int 0)) := fun i v hi hv => by
    rw [g5 (2 + 7 * i + v) (by omega)]
    unfold mkC
    rw [if_neg (by omega), show (2 + 7 * i + v - 1) / (1 + 1 * 6) = i by omega, show (2 + 7 * i + v - 1) % (1 + 1 * 6) = 1 + v by omega, if_neg (by omega)]
  have hM : mW D A hmu (hmC ty (fun i => T.heap.size + (1 + 7 * i)) (fun q => T.heap.size + (2 + 7 * (q / 6) + q % 6)) (fun _ => 0)) (hma T.heap.size (fun i => T.heap.size + (1 + 7 * i)) (fun q => T.heap.size + (2 + 7 * (q / 6) + q % 6))) (G (T.setVm vm₁)).heap := by
    refine ⟨fun k x hu => ?_, fun k x k' x' hu hu' hq => ?_, fun q hq => hA q (by omega)⟩
    · rcases hu with ⟨rfl, rfl⟩ | ⟨rfl, hx⟩ | ⟨rfl, hx⟩
      · refine ⟨?_, hA _ (Nat.le_refl _)⟩
        show (G (T.setVm vm₁)).heap[T.heap.size]? = some (vp_cell _ _)
        rw [gO, vp_cell_q, ← t3]
        unfold mkO
        rw [arrV_c fun j hj => show (if j < 8 then Value.ref (T.heap.size + 1 + 7 * j) else .null) = va_rf (some (T.heap.size + (1 + 7 * j))) by rw [if_pos hj, Nat.add_assoc]; rfl]
      · refine ⟨?_, hA _ (by show T.heap.size ≤ T.heap.size + (1 + 7 * x); omega)⟩
        show (G (T.setVm vm₁)).heap[T.heap.size + (1 + 7 * x)]? = some (vp_cell _ _)
        rw [gI' x hx, vp_cell_q, ← t2]
        unfold mkO
        rw [arrV_c fun j hj => show (if j < 6 then Value.ref (T.heap.size + 1 + 7 * x + 1 + 1 * j) else .null) = va_rf (some (T.heap.size + (2 + 7 * ((x * 6 + j) / 6) + (x * 6 + j) % 6))) by rw [if_pos hj, show T.heap.size + 1 + 7 * x + 1 + 1 * j = T.heap.size + (2 + 7 * ((x * 6 + j) / 6) + (x * 6 + j) % 6) by omega]; rfl]
      · refine ⟨?_, hA _ (by show T.heap.size ≤ T.heap.size + (2 + 7 * (x / 6) + x % 6); omega)⟩
        show (G (T.setVm vm₁)).heap[T.heap.size + (2 + 7 * (x / 6) + x % 6)]? = some (vp_cell _ _)
        rw [gJ (x / 6) (x % 6) (by omega) (by omega), vp_cell_i, ← t1]
        rw [arrV_c fun j hj => show Value.int 0 = Value.int (row6 (fun _ => 0) (x * 6) j) by rw [row6_at hj]]
    · unfold hma at hq
      unfold hmu at hu hu'
      rcases hu with ⟨rfl, rfl⟩ | ⟨rfl, hx⟩ | ⟨rfl, hx⟩ <;> rcases hu' with ⟨rfl, rfl⟩ | ⟨rfl, hx'⟩ | ⟨rfl, hx'⟩ <;> simp at hq <;> omega
  have hS1 : va_S A H0 (G (T.setVm vm₁)).heap (locs ++ L) := ⟨by have := hS.1; omega, fun q h1 h2 => (g4 q (Nat.lt_of_lt_of_le h1 hS.1)).trans (hS.2.1 q h1 h2), fun z hz => (List.mem_append.mp hz).elim (hS.2.2 z) (fun h => hA _ (hL z h))⟩
  obtain ⟨t, a1, b1⟩ := kk _ _ _ _ _ hM hS1 g4 (Nat.le_refl _) (G (T.setVm vm₁)) rfl XF
  refine ⟨t, ?_, b1⟩
  jvm_step X.here [hexec, hdg]
  simp only [Op.multianewarray.sem, wp_bind', W.resolveClassAt_links (State.method?_setTop (F0 m pc ls (.int (nI 6) :: .int (nI 6) :: .int (nI 8) :: rest)) X.here.top) hg₁]
  rw [W.popN, if_neg (by decide)]
  refine ⟨F0 m pc ls (.int (nI 6) :: .int (nI 6) :: .int (nI 8) :: rest), State.topJava?_setTop' (s := T.setVm vm₁) _ X.here.top, [.int (nI 8), .int (nI 6), .int (nI 6)], rest, rfl, rfl, ?_⟩
  simp only [List.mapM_cons, List.mapM_nil, wp_bind', wp_pure']
  refine W3 _ _ _ _ _ rfl (by show T.heap.size + _ ≤ _; omega) (by show T.slotsUsed + _ ≤ _; omega) fun d' acts' => ?_
  have eS : ((T.setTop (F0 m pc ls (.int (nI 6) :: .int (nI 6) :: .int (nI 8) :: rest))).setVm vm₁).setTop { F0 m pc ls (.int (nI 6) :: .int (nI 6) :: .int (nI 8) :: rest) with stack := rest } = (T.setVm vm₁).setTop { F0 m pc ls (.int (nI 6) :: .int (nI 6) :: .int (nI 8) :: rest) with stack := rest } := by
    show ((T.setVm vm₁).setTop _).setTop _ = _
    rw [State.setTop_setTop]
  rw [eS, T3]
  simp only [wp_bind', W.mark, W.pushRef, State.topJava?_setTop' _ XF.here.top, Option.some.injEq, exists_eq_left', State.setTop_setTop, State.heap_setTop]
  intro acts
  simp [jvm, XF.here.top]
  exact a1
end MUL
