/-- an object that a list may hold -/
def okE (D : va_G) (H : Heap) (y : Nat) : Prop := ∃ (ci : Nat) (gs : List Value) (r : vw_C), vwCl[ci]? = some r ∧ Cond.castable r.1 "java/lang/Object" ∈ zNl ∧ va_at D vwCl (y, eO ci gs) H
theorem okE.kept {D : va_G} {H H1 : Heap} {y : Nat} (h : okE D H y) (hq : H1[y]? = H[y]?) : okE D H1 y := by
  obtain ⟨ci, gs, r, h1, h2, h3⟩ := h
  exact ⟨ci, gs, r, h1, h2, h3.kept hq⟩
theorem okE.lt {D : va_G} {H : Heap} {y : Nat} (h : okE D H y) : y < H.size := by
  obtain ⟨ci, gs, r, h1, h2, h3⟩ := h
  exact h3.lt
theorem okE.any {D : va_G} {H : Heap} {y : Nat} {s : State} {tys : List (ClassId × FieldType)} (hK : va_K D vwCl tys s) (hN : zN s) (h : okE D H y) : va_Any "java/lang/Object" s H y := by
  obtain ⟨ci, gs, r, h1, h2, h3⟩ := h
  have hP : va_P D vwCl [(y, eO ci gs)] H := fun i q hi => by
    have hz : i < 1 := (List.getElem?_eq_some_iff.mp hi).1
    rw [show i = 0 by omega] at hi
    cases hi
    exact h3
  refine va_rAny hK hP (q0 := 0) rfl h1 (fun comp c0 g1 g2 => ?_)
  obtain ⟨c1, t1, f1, f2, f3⟩ := Cond.castable_spec (hN.use (A := #[]) h2)
  obtain rfl : c1 = c0 := Option.some.inj (f1.symm.trans g2)
  obtain rfl : t1 = comp := Option.some.inj (f2.symm.trans g1)
  exact f3
/-- an array of objects that stands, to be copied -/
def cB (D : va_G) (ty : Nat → ClassId) (b cap : Nat) (f : Nat → Option Nat) (mi sz : Nat) (U : State) : Prop := va_P D vwCl [(b, eR (ty 2) cap f)] U.heap ∧ va_K D vwCl (mT ty) U ∧ va_Mi "[Ljava/lang/Object;" mi U ∧ va_AO "java/lang/Object" U ∧ (∀ i y, i < cap → f i = some y → y ≠ b ∧ okE D U.heap y) ∧ U.heap.size = sz ∧ zN U
theorem cB_blind {D : va_G} {ty : Nat → ClassId} {b cap : Nat} {f : Nat → Option Nat} {mi sz : Nat} : ∀ (a : Array Value) (U : State) (g : JFrame) (mk : MethodId), cB D ty b cap f mi sz U → cB D ty b cap f mi sz (U.calling g mk a) := fun a U g mk h => ⟨h.1, va_K.moved (u := U) (U := U.calling g mk a) (Vm.Alike.refl U.vm) h.2.1, va_Mi.moved (u := U) (U := U.calling g mk a) (Vm.Alike.refl U.vm) h.2.2.1, va_AO.moved (u := U) (U := U.calling g mk a) (Vm.Alike.refl U.vm) h.2.2.2.1, h.2.2.2.2.1, h.2.2.2.2.2.1, zN.same (u := U) (U := U.calling g mk a) rfl h.2.2.2.2.2.2⟩
set_option maxHeartbeats 4000000 in
set_option maxRecDepth 100000 in
theorem c_copyOf3 (l : Launch) (D : va_G) (ty : Nat → ClassId) (b cap N mi sz : Nat) (f : Nat → Option Nat) (hcap : cap ≤ N) (hN : N ≤ 60) : Met l yJ7_copyOf_6403c wsJ7_copyOf_6403c ({ frames := 1, cells := 1, slots := 60, locals := 60 }) (va_Pc [.ref b, .int (nI N), .ref mi] (cB D ty b cap f mi sz)) (va_Qr (fun _ : Unit => True) (fun _ q t => va_P D vwCl [(b, eR (ty 2) cap f), (q, eR (ty 2) N (va_cpy f (fun _ => none) 0 0 cap))] t.heap ∧ sz ≤ q) (va_A [(b, eR (ty 2) cap f)] sz)) 1 60 (va_A [(b, eR (ty 2) cap f)] sz) := by
  refine zMet (cc := cJ7_copyOf_6403c) (maxL := 4) (ret := (some (.array (.object "java/lang/Object")))) (by decide) rfl (Nat.le_of_ble_eq_true rfl) ?_
  intro p e s m below meth c hx hb hr hts hown hlocks hml hB ls hl
  obtain ⟨hP, hK, hMi, hAO, hel, hsz, hN9⟩ := hB
  subst hsz
  have hD : va_D (va_A [(b, eR (ty 2) cap f)] s.heap.size) [(b, eR (ty 2) cap f)] := (mW.D1 b _).self (sz := s.heap.size)
  generalize hAe : va_A [(b, eR (ty 2) cap f)] s.heap.size = A9 at hD ⊢
  have hA : ∀ q : Nat, s.heap.size ≤ q → A9 q := fun q h => by rw [← hAe]; exact Or.inr h
  have hAb : ∀ q : Nat, A9 q → q = b ∨ s.heap.size ≤ q := fun q h => by rw [← hAe] at h; exact vA1 h
  have hS : va_S A9 s.heap s.heap [] := va_S.rf
  have hl : lv_has ls 4 [(0, .ref b), (1, .int (nI N)), (2, .ref mi)] := hl
  refine lv_aload_n hx hb dJ7_copyOf_6403c_0 rfl (lv_at hl 2 rfl) ?_
  refine va_ldcM hx hb hown (hts (.classLink RJ7 110 "[Ljava/lang/Object;") (by decide +kernel)) hMi dJ7_copyOf_6403c_1 ?_
  refine lv_acmp_ne (rx := some mi) (ry := some mi) (tgt := 13) hx hb dJ7_copyOf_6403c_3 (by decide) (fun h => absurd rfl h) (fun _ => ?_)
  refine lv_iload_n hx hb dJ7_copyOf_6403c_6 rfl (lv_at hl 1 rfl) ?_
  refine va_newq (N' := N) hx hb hown (hts (.classLink RJ7 2 "java/lang/Object") (by decide +kernel)) hAO hK hP hD hS hA (nI_pos (by omega)) (nI_clamp (by omega)) (by omega) (Nat.le_of_ble_eq_true rfl) (by show 0 + N ≤ 60; omega) dJ7_copyOf_6403c_7 (fun q cA H hK9 hP hD hS => ?_)
  have e9 : cA = ty 2 := by
    obtain ⟨_, _, -, -, -, g1⟩ := (hK9.2 5 _ rfl).2
    obtain ⟨_, _, -, -, -, g2⟩ := (hK.2 2 _ rfl).2
    exact Option.some.inj (g1.symm.trans g2)
  subst e9
  have hP : va_P D vwCl [(b, eR (ty 2) cap f), (q, eR (ty 2) N (fun _ => none))] H := hP
  have hD : va_D A9 [(b, eR (ty 2) cap f), (q, eR (ty 2) N (fun _ => none))] := hD
  have hq : s.heap.size ≤ q := by
    rcases hAb q (hD.2 1 _ rfl) with h | h
    · have h2 := hD.1 0 1 _ _ rfl rfl h.symm
      omega
    · exact h
  refine lv_goto (tgt := 24) hx hb dJ7_copyOf_6403c_10 (by decide) ?_
  refine lv_astore_n (lv' := [(3, .ref q), (0, .ref b), (1, .int (nI N)), (2, .ref mi)]) hx hb dJ7_copyOf_6403c_24 rfl hl (by decide) rfl (fun ls hl => ?_)
  refine lv_aload_n hx hb dJ7_copyOf_6403c_25 rfl (lv_at hl 1 rfl) ?_
  refine lv_iconst (v := nI 0) hx hb dJ7_copyOf_6403c_26 (by decide) ?_
  refine lv_aload_n hx hb dJ7_copyOf_6403c_27 rfl (lv_at hl 0 rfl) ?_
  refine lv_iconst (v := nI 0) hx hb dJ7_copyOf_6403c_28 (by decide) ?_
  refine lv_aload_n hx hb dJ7_copyOf_6403c_29 rfl (lv_at hl 1 rfl) ?_
  refine va_alen hx hb hK hP 0 2 rfl rfl (v := nI cap) rfl dJ7_copyOf_6403c_30 ?_
  refine lv_iload_n hx hb dJ7_copyOf_6403c_31 rfl (lv_at hl 2 rfl) ?_
  refine va_mmin hx hb (hml.trans hl.1.symm) hown (hts (.methodLink RJ7 304 Lib.Math.min.name) (by decide +kernel)) (hts (.static Lib.Math.min.name) (by decide +kernel)) (hts (.initialized "java/lang/Math") (by decide +kernel)) (hts (.code Lib.Math.min.name Lib.Math.min.code 2 (some .int)) (by decide +kernel)) (Nat.le_of_ble_eq_true rfl) (Nat.le_of_ble_eq_true rfl) (Nat.le_of_ble_eq_true rfl) (by show 0 + N ≤ 60; omega) dJ7_copyOf_6403c_32 ?_
  refine zeq (show _ = nI cap from (zmin_def (nI cap) (nI N)).symm.trans (zmin_n hcap (by omega))) ?_
  refine va_copyM hx hb (hml.trans hl.1.symm) hown (hts (.methodLink RJ7 150 arraycopyName) (by decide +kernel)) (hts (.native arraycopyName) (by decide +kernel)) (hts (.static arraycopyName) (by decide +kernel)) (hts (.initialized "java/lang/System") (by decide +kernel)) hK hP hD hS 0 1 2 2 rfl rfl rfl rfl (nI_pos (by decide)) (nI_pos (by decide)) (nI_pos (by omega)) (by rw [nI_clamp (by decide), nI_clamp (by omega)]; omega) (by rw [nI_clamp (by decide), nI_clamp (by omega)]; omega) (fun i hi y hy => ?_) (Nat.le_of_ble_eq_true rfl) (Nat.le_of_ble_eq_true rfl) dJ7_copyOf_6403c_35 (fun H locs hP hD hS => ?_)
  · rw [nI_clamp (by omega)] at hi
    rw [nI_clamp (by decide), Nat.zero_add] at hy
    obtain ⟨g1, g2⟩ := hel i y hi hy
    have hlt : y < s.heap.size := g2.lt
    exact (g2.kept (hS.2.1 y hlt (fun h => by rcases hAb y h with z | z; exact g1 z; omega))).any hK hN9
  have hP : va_P D vwCl [(b, eR (ty 2) cap f), (q, eR (ty 2) N (va_cpy f (fun _ => none) (nI 0).toNatClampNeg (nI 0).toNatClampNeg (nI cap).toNatClampNeg))] H := hP
  rw [nI_clamp (by decide), nI_clamp (by omega)] at hP
  refine lv_aload_n hx hb dJ7_copyOf_6403c_38 rfl (lv_at hl 0 rfl) ?_
  refine W.widen (k := 1) (n := 60) (by omega) (by omega) ?_
  exact W.aret hx hb hr (Or.inr ⟨_, rfl⟩) (Or.inr ⟨_, rfl⟩) (fun t ht hW => ⟨⟨(), q, rfl, trivial, by rw [ht]; exact hP, hq⟩, hS.F ht⟩) hS.2.2 dJ7_copyOf_6403c_39
set_option maxHeartbeats 4000000 in
set_option maxRecDepth 100000 in
theorem c_copyOf (l : Launch) (D : va_G) (ty : Nat → ClassId) (b cap N mi sz : Nat) (f : Nat → Option Nat) (hcap : cap ≤ N) (hN : N ≤ 60) : Met l yJ7_copyOf_1904c wsJ7_copyOf_1904c ({ frames := 2, cells := 1, slots := 60, locals := 90 }) (va_Pc [.ref b, .int (nI N)] (cB D ty b cap f mi sz)) (va_Qr (fun _ : Unit => True) (fun _ q t => va_P D vwCl [(b, eR (ty 2) cap f), (q, eR (ty 2) N (va_cpy f (fun _ => none) 0 0 cap))] t.heap ∧ sz ≤ q) (va_A [(b, eR (ty 2) cap f)] sz)) 1 60 (va_A [(b, eR (ty 2) cap f)] sz) := by
  refine zMet (cc := cJ7_copyOf_1904c) (maxL := 2) (ret := (some (.array (.object "java/lang/Object")))) (by decide) rfl (Nat.le_of_ble_eq_true rfl) ?_
  intro p e s m below meth c hx hb hr hts hown hlocks hml hB ls hl
  obtain ⟨hP, hK, hMi, hAO, hel, hsz, hN9⟩ := id hB
  subst hsz
  have hS : va_S (va_A [(b, eR (ty 2) cap f)] s.heap.size) s.heap s.heap [] := va_S.rf
  have hl : lv_has ls 2 [(0, .ref b), (1, .int (nI N))] := hl
  have hcl : s.vm.findClass "[Ljava/lang/Object;" = some (ty 2) := by
    obtain ⟨_, _, -, -, -, g2⟩ := (hK.2 2 _ rfl).2
    exact g2
  refine lv_aload_n hx hb dJ7_copyOf_1904c_0 rfl (lv_at hl 0 rfl) ?_
  refine lv_iload_n hx hb dJ7_copyOf_1904c_1 rfl (lv_at hl 1 rfl) ?_
  refine lv_aload_n hx hb dJ7_copyOf_1904c_2 rfl (lv_at hl 0 rfl) ?_
  refine va_getC (C := "[Ljava/lang/Object;") (mi := mi) hx hb (hml.trans hl.1.symm) hown (hts (.methodLink RJ7 86 ⟨"java/lang/Object", "getClass", "()Ljava/lang/Class;"⟩) (by decide +kernel)) (hN9.use (w := .declares ⟨"java/lang/Object", "getClass", "()Ljava/lang/Class;"⟩) (by decide +kernel)) (hts (.selects "[Ljava/lang/Object;" ⟨"java/lang/Object", "getClass", "()Ljava/lang/Class;"⟩ ⟨"java/lang/Object", "getClass", "()Ljava/lang/Class;"⟩) (by decide +kernel)) (hts (.instanceMethod ⟨"java/lang/Object", "getClass", "()Ljava/lang/Class;"⟩) (by decide +kernel)) (hts (.native ⟨"java/lang/Object", "getClass", "()Ljava/lang/Class;"⟩) (by decide +kernel)) hMi ⟨_, hP 0 _ rfl, rfl, hcl⟩ (Nat.le_of_ble_eq_true rfl) (Nat.le_of_ble_eq_true rfl) dJ7_copyOf_1904c_3 ?_
  refine va_callr (va_runS (As := [.ref b, .int (nI N), .ref mi]) (rest := []) ⟨hx, hb, hml, hown, hts⟩ (c_copyOf3 l D ty b cap N mi s.heap.size f hcap hN) (cwS 3 hts gJ7_copyOf_1904c_J7_copyOf_6403c rfl rfl rfl (by decide +kernel) ⟨Nat.le_of_ble_eq_true rfl, Nat.le_of_ble_eq_true rfl⟩) ⟨zBl cB_blind, fun U hU hW => ⟨rfl, by rw [hU]; exact hP, va_K.moved hW.alike hK, hMi.moved hW.alike, hAO.moved hW.alike, by rw [hU]; exact hel, by rw [hU], hN9.warm hW⟩⟩ rfl rfl hl.1 rfl (lv_room (Nat.le_of_ble_eq_true rfl)) dJ7_copyOf_1904c_6 ⟨Nat.le_of_ble_eq_true rfl, Nat.le_of_ble_eq_true rfl⟩) hS (fun q _ h => h) (fun q h => h) (fun u q t H1 locs ht hvm hw hB1 hz1 hk1 hS => ?_)
  obtain ⟨hP1, hq⟩ := hB1
  rw [ht] at hP1
  exact W.aret hx hb hr (Or.inr ⟨_, rfl⟩) (Or.inr ⟨_, rfl⟩) (fun t ht hW => ⟨⟨(), q, rfl, trivial, by rw [ht]; exact hP1, hq⟩, hS.F ht⟩) hS.2.2 dJ7_copyOf_1904c_9
