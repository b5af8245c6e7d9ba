section ML
variable {p : Program} {l : Launch} {e : Env} {R : Room} {s : State} {m : MethodId} {args : Array Value} {below : List Frame} {meth : Method} {c : Code} {H : Heap} {locs : List Loc} {cells slots : Nat} {Q : State → Prop}
variable {cc : ByteArray} {pc : Nat} {ls : Array Slot} {rest : List Value} {D : va_G} {A : Nat → Prop} {u : Nat → Nat → Prop} {C : Nat → Nat → va_E} {ma : Nat → Nat → Nat} {tys : List (ClassId × FieldType)} {H0 : Heap}
theorem mastq (hexec : p.tables.exec = Jvm.exec) (hb : c.code = cc) (hK : va_K D vwCl tys s) (hM : mW D A u C ma H) (hS : va_S A H0 H locs) {kk x a : Nat} (hu : u kk x) (ha : ma kk x = a) (t0 : Nat) {E : String} {cA : ClassId} {n v : Nat} {f : Nat → Option Nat} (hC : C kk x = eR cA n f) (ht : tys[t0]? = some (cA, .object E)) (hr : va_Any E s H v) {i : Nat} (hi : i < n) (hn : n < 2 ^ 31) (hdg : decode cc pc = .ok (.aastore, 1))
    (kn : ∀ (H1 : Heap) (locs1 : List Loc), mW D A u (up2 C kk x (eR cA n (va_up f i (some v)))) ma H1 → va_S A H0 H1 locs1 → (∀ q, q ≠ ma kk x → H1[q]? = H[q]?) → W p l e R s m args below meth c H1 locs1 cells slots Q (F0 m (pc + 1) ls rest)) : W p l e R s m args below meth c H locs cells slots Q (F0 m pc ls (.ref v :: .int (nI i) :: .ref a :: rest)) := by
  subst ha
  have hcl : (nI i).toNatClampNeg = i := nI_clamp (by omega)
  obtain ⟨cellV, g1, g3, ⟨kC, hkC⟩, hasg⟩ := hr
  obtain ⟨kA, comp, k1, k2, k3, -⟩ := (hK.2 t0 _ ht).2
  obtain ⟨kE, hkE, -⟩ := Vm.findClass_spec k3
  refine W.aast hexec hb (hM.P hu hC 0 _ rfl) (fun q h => by cases h) (fun h => by cases h) k1 k2 rfl hkE ⟨nI_pos (by omega), by show _ < (arrV _ _ _).slots.size; rw [arrV_size, hcl]; exact hi⟩ g1 (fun q h => by rw [h] at g3; cases g3) hkC (hasg _ k3) rfl rfl hdg fun H1 e z oq => ?_
  have e9 : va_at D vwCl (ma kk x, eR cA n (va_up f i (some v))) H1 := by
    show H1[ma kk x]? = some (vp_cell _ _)
    rw [e, vp_cell_q, vp_cell_q, arrV_store, hcl]
    congr 2
    funext q
    by_cases hq : q = i
    · subst hq
      simp [updV, va_up, va_rf]
    · simp [updV, va_up, hq]
  exact kn H1 _ (hM.set hu e9 (fun q _ hq => oq q hq) (Nat.le_of_eq z.symm)) (hS.put z oq (hM.inA hu)) oq
/-- the length of the empty array -/
theorem mS.len (hexec : p.tables.exec = Jvm.exec) (hb : c.code = cc) {ty : Nat → ClassId} {t0 mi : Nat} (h : mS D ty A t0 mi s) (hS : va_S A s.heap H locs) (hdg : decode cc pc = .ok (.arraylength, 1))
    (kk : W p l e R s m args below meth c H locs cells slots Q (F0 m (pc + 1) ls (.int (nI 0) :: rest))) : W p l e R s m args below meth c H locs cells slots Q (F0 m pc ls (.ref t0 :: rest)) := by
  have h2 : mE t0 s H := h.2.1.kept (hS.2.1 _ h.2.1.lt h.2.2.1)
  obtain ⟨cell, h3, h4, h5⟩ := h2
  exact W.alen (n := nI 0) hexec hb h3 h4 h5 rfl rfl hdg kk
end ML
/-- a state of the model's world -/
abbrev mSt : Type := (Nat → Nat → Prop) × (Nat → Nat → va_E) × (Nat → Nat → Nat)
/-- only the list (kl, x) and its array changed -/
def chg (kl x : Nat) (u : Nat → Nat → Prop) (C : Nat → Nat → va_E) (ma : Nat → Nat → Nat) (S : mSt) : Prop := (∀ k' x', u k' x' → S.1 k' x') ∧ (∀ k' x', ¬ (k' = kl ∧ x' = x) → ¬ (k' = kl + 1 ∧ x' = x) → S.2.1 k' x' = C k' x') ∧ ∀ k' x', ¬ (k' = kl + 1 ∧ x' = x) → S.2.2 k' x' = ma k' x'
/-- the list has room for one more -/
def gr (ty : Nat → ClassId) (kl x n : Nat) (f : Nat → Nat) (S : mSt) : Prop := ∃ (m : Int32) (N : Nat) (h : Nat → Option Nat), S.1 kl x ∧ S.2.1 kl x = eO 0 [.int m, .ref (S.2.2 (kl + 1) x), .int (nI n)] ∧ S.1 (kl + 1) x ∧ S.2.1 (kl + 1) x = eR (ty 2) N h ∧ n < N ∧ 2 ≤ N ∧ N ≤ 60 ∧ ∀ j, j < n → h j = some (f j)
theorem pk_half {n : Nat} (h : n < 2 ^ 31) : nI n >>> (nI 1 &&& 31) = nI (n / 2) := by
  have k := pk_shrN (n := n) h (nI 1 &&& 31) 1 (by decide)
  rw [Nat.pow_one] at k
  exact k
theorem big_n {n : Nat} (h : n ≤ 2147483639) : ¬ (2147483639 : Int32) < nI n := by
  rw [show (2147483639 : Int32) = nI 2147483639 from by decide]
  exact nI_nlt h (by decide)
theorem zmax_r {a b : Nat} (h : b ≤ a) (ha : a < 2 ^ 31) : zmax (nI a) (nI b) = nI a := by
  rw [zmax_def]
  rw [if_neg (nI_nlt h ha)]
/-- an element of a list: an object of the world -/
def elO (u : Nat → Nat → Prop) (C : Nat → Nat → va_E) (ma : Nat → Nat → Nat) (y : Nat) : Prop := ∃ k' x' ci gs r, u k' x' ∧ ma k' x' = y ∧ C k' x' = eO ci gs ∧ vwCl[ci]? = some r ∧ Cond.castable r.1 "java/lang/Object" ∈ zNl
theorem elO.ok {D : va_G} {A : Nat → Prop} {u : Nat → Nat → Prop} {C : Nat → Nat → va_E} {ma : Nat → Nat → Nat} {H : Heap} {y : Nat} (h : elO u C ma y) (hM : mW D A u C ma H) : okE D H y := by
  obtain ⟨k', x', ci, gs, r, h1, h2, h3, h4, h5⟩ := h
  exact ⟨ci, gs, r, h4, h5, by rw [← h2, ← h3]; exact hM.at h1⟩
theorem elO.ne {D : va_G} {A : Nat → Prop} {u : Nat → Nat → Prop} {C : Nat → Nat → va_E} {ma : Nat → Nat → Nat} {H : Heap} {y kk xx n : Nat} {c : ClassId} {f : Nat → Option Nat} (h : elO u C ma y) (hM : mW D A u C ma H) (hu : u kk xx) (hC : C kk xx = eR c n f) : y ≠ ma kk xx := by
  obtain ⟨k', x', ci, gs, r, h1, h2, h3, h4, h5⟩ := h
  intro z
  obtain ⟨rfl, rfl⟩ := hM.2.1 k' x' kk xx h1 hu (h2.trans z)
  rw [h3] at hC
  cases hC
/-- what a call left of the world: all but b is as before, b holds what it held, and q is new -/
theorem mW.copied {D : va_G} {A : Nat → Prop} {u : Nat → Nat → Prop} {C : Nat → Nat → va_E} {ma : Nat → Nat → Nat} {H H1 : Heap} {kk xx b q : Nat} {e e2 : va_E} (hM : mW D A u C ma H) (hu : u kk xx) (ha : ma kk xx = b) (hC : C kk xx = e) (hP : va_P D vwCl [(b, e), (q, e2)] H1) (hinl : ∃ c a, e = .inl (c, a)) (hq : H.size ≤ q) (hz : H.size ≤ H1.size) (hk : ∀ z, z < H.size → ¬ va_A [(b, e)] H.size z → H1[z]? = H[z]?) :
    mW D A (upU u kk xx) (up2 C kk xx e2) (up2 ma kk xx q) H1 := by
  subst ha
  have h1 : mW D A u C ma H1 := hM.ext (fun z hzl _ => by
    by_cases hzb : z = ma kk xx
    · subst hzb
      obtain ⟨c, a, rfl⟩ := hinl
      have g1 : H1[ma kk xx]? = some (vp_cell c a) := hP 0 _ rfl
      have g2 : H[ma kk xx]? = some (vp_cell c a) := hM.P hu hC 0 _ rfl
      rw [g1, g2]
    · exact hk z hzl (fun w => by rcases vA1 w with w | w; exact hzb w; omega)) hz
  exact h1.reg (hP 1 _ rfl) (hM.2.2 _ hq) (fun _ _ hu' => Nat.ne_of_lt (Nat.lt_of_lt_of_le (hM.lt hu') hq))
theorem upL {g : Nat → Option Nat} {f : Nat → Nat} {n a : Nat} (h : ∀ j, j < n → g j = some (f j)) : ∀ j, j < n + 1 → va_up g n (some a) j = some (if j = n then a else f j) := by
  intro j hj
  unfold va_up
  split
  · rfl
  · exact h j (by omega)
set_option maxHeartbeats 4000000 in
set_option maxRecDepth 100000 in
theorem c_newLength (l : Launch) (n : Nat) (h2 : 2 ≤ n) (h3 : n ≤ 60) : Met l yJ8_newLength_cabcc wsJ8_newLength_cabcc ({ frames := 1, cells := 0, slots := 0, locals := 18 }) (va_Pc [.int (nI n), .int (nI 1), .int (nI (n / 2))] (fun _ => True)) (vp_Si (fun v_ => v_ = nI (n + n / 2))) 0 0 (fun _ => False) := by
  refine zMet (cc := cJ8_newLength_cabcc) (maxL := 4) (ret := (some .int)) (by decide) rfl (Nat.le_of_ble_eq_true rfl) ?_
  intro p e s m below meth c hx hb hr hts hown hlocks hml hB ls hl
  have hl : lv_has ls 4 [(0, .int (nI n)), (1, .int (nI 1)), (2, .int (nI (n / 2)))] := hl
  refine lv_iload_n hx hb dJ8_newLength_cabcc_0 rfl (lv_at hl 0 rfl) ?_
  refine lv_iload_n hx hb dJ8_newLength_cabcc_1 rfl (lv_at hl 1 rfl) ?_
  refine lv_iload_n hx hb dJ8_newLength_cabcc_2 rfl (lv_at hl 2 rfl) ?_
  refine va_mmax hx hb (hml.trans hl.1.symm) hown (hts (.methodLink RJ8 194 Lib.Math.max.name) (by decide +kernel)) (hts (.static Lib.Math.max.name) (by decide +kernel)) (hts (.initialized "java/lang/Math") (by decide +kernel)) (hts (.code Lib.Math.max.name Lib.Math.max.code 2 (some .int)) (by decide +kernel)) (Nat.le_of_ble_eq_true rfl) (Nat.le_of_ble_eq_true rfl) (Nat.le_of_ble_eq_true rfl) (Nat.le_of_ble_eq_true rfl) dJ8_newLength_cabcc_3 ?_
  refine zeq (zmax_def (nI 1) (nI (n / 2))).symm ?_
  refine zeq (zmax_n (by omega) (by omega)) ?_
  refine lv_iadd hx hb dJ8_newLength_cabcc_6 ?_
  refine zeq (nI_add n (n / 2)) ?_
  refine lv_istore_n (lv' := [(3, .int (nI (n + (n / 2)))), (0, .int (nI n)), (1, .int (nI 1)), (2, .int (nI (n / 2)))]) hx hb dJ8_newLength_cabcc_7 rfl hl (by decide) rfl (fun ls hl => ?_)
  refine lv_iconst (v := nI 0) hx hb dJ8_newLength_cabcc_8 (by decide) ?_
  refine lv_iload_n hx hb dJ8_newLength_cabcc_9 rfl (lv_at hl 0 rfl) ?_
  refine lv_icmp_ge (tgt := 21) hx hb dJ8_newLength_cabcc_10 (by decide) (fun c_1 => ?_) (fun c_1 => ?_)
  · have c_1 := zn_geT (a := 0) (b := (n + (n / 2))) (by omega) (by omega) c_1
    omega
  · have c_1 := zn_geF (a := 0) (b := (n + (n / 2))) (by omega) (by omega) c_1
    refine lv_iload_n hx hb dJ8_newLength_cabcc_13 rfl (lv_at hl 0 rfl) ?_
    refine lv_ldc (v := 2147483639) hx hb hown (hts (.constant RJ8 200 (2147483639)) (by decide +kernel)) dJ8_newLength_cabcc_14 ?_
    refine lv_icmp_gt (tgt := 21) hx hb dJ8_newLength_cabcc_16 (by decide) (fun c_2 => ?_) (fun c_2 => ?_)
    · exact absurd c_2 (big_n (by omega))
    · refine lv_iload_n hx hb dJ8_newLength_cabcc_19 rfl (lv_at hl 0 rfl) ?_
      exact W.iret (v := nI (n + (n / 2))) hx hb hr (fun t ht hW => ⟨_, rfl, rfl, ht⟩) (fun _ h => nomatch h) dJ8_newLength_cabcc_20
