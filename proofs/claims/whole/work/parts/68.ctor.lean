section MF
variable {p : Program} {l : Launch} {e : Env} {R : Room} {s : State} {m : MethodId} {args : Array Value} {below : List Frame} {meth : Method} {c : Code} {H : Heap} {locs : List Loc} {cells slots : Nat} {Q : State → Prop}
variable {cc : ByteArray} {pc : Nat} {ls : Array Slot} {rest : List Value} {D : va_G} {A : Nat → Prop} {u : Nat → Nat → Prop} {C : Nat → Nat → va_E} {ma : Nat → Nat → Nat} {tys : List (ClassId × FieldType)} {H0 : Heap}
/-- a final field of one of the model's cells is written, in its constructor -/
theorem mputF (hexec : p.tables.exec = Jvm.exec) (hb : c.code = cc) {own ref Cn : String} {T : u_T} {N ci index : Nat} {Ts : List Cond} (hts : ∀ w ∈ Ts, w.before args s = true) (hin : ∀ w ∈ u_ws Cn T N, w ∈ Ts) (ty0 : Nat → FieldType) (hty : ∀ k, k < N → parseFieldDescriptor (T k).2.2.1 = some (ty0 k)) (hnm : ∀ a, a < N → ∀ b, b < N → a ≠ b → (T a).2.1 ≠ (T b).2.1) (hown : s.vm.findClass own = some m.cls) (hK : va_K D vwCl tys s) (hM : mW D A u C ma H) (hS : va_S A H0 H locs) {kk x a : Nat} (hu : u kk x) (ha : ma kk x = a) {fs : List Value} (hC : C kk x = .inr (ci, fs)) (hc : vwCl[ci]? = some (Cn, T, N)) (k : Nat) (hk : k < N) (hlink : (Cond.fieldLink own index ref (T k).2.1 (T k).2.2.1).before args s = true) (hsame : ∀ x, s.fieldFound? (T k).1 (T k).2.1 (T k).2.2.1 = some x → s.fieldFound? ref (T k).2.1 (T k).2.2.1 = some x) (hfin : (T k).2.2.2 = true) (hin2 : meth.name = "<init>") (hdecl : (T k).1 = own) {ty : FieldType} {v : Value} (hd : parseFieldDescriptor (T k).2.2.1 = some ty) (hn : narrow ty v = v) (hfit : fits ty v = true) (hl : k < fs.length)
    (hdg : decode cc pc = .ok (.putfield index, 3)) (kn : ∀ (H1 : Heap) (locs1 : List Loc), mW D A u (up2 C kk x (.inr (ci, fs.set k v))) ma H1 → va_S A H0 H1 locs1 → (∀ q, q ≠ ma kk x → H1[q]? = H[q]?) → W p l e R s m args below meth c H1 locs1 cells slots Q (F0 m (pc + 3) ls rest)) : W p l e R s m args below meth c H locs cells slots Q (F0 m pc ls (v :: .ref a :: rest)) := by
  subst ha
  have hap := va_apart (own := own) hts hin ty0 hty hnm hK hc
  obtain ⟨r, h1, cell, q1, q2, q3, q4⟩ := hM.P hu hC 0 _ rfl
  have hr : r = (Cn, T, N) := Option.some.inj (h1.symm.trans hc)
  subst hr
  obtain ⟨hSl, hfc, kC, hkC, hkind⟩ := hK.1 ci _ hc
  obtain ⟨cf, kf, fi, f, hi, hsl⟩ := hSl k hk
  have hlay := hts _ (hin _ (u_in_lay hk))
  unfold u_lay at hlay
  rw [if_pos hfin] at hlay
  have hst := (u_facts hfc hkC (u_lays hts hin hk) hi).1
  have hcf : m.cls = cf := by
    obtain ⟨_, _, c', _, _, _, -, -, hf', -, -, -, hown2, -⟩ := Cond.laysFinal_spec hlay
    have e1 : c' = cf := by have := hi.symm.trans hf'; simp at this; exact this.1.symm
    rw [hdecl] at hown2
    rw [← e1]; exact Option.some.inj (hown.symm.trans hown2)
  have h6 := u_fits hfc hkC hkind (Or.inr hlay) hi hd hn hfit
  refine W.putFinK hexec hb hown hlink (hsame _ hi) hst hcf hin2 (by rw [q2]; exact h6) q1 q3 (by rw [hsl]; exact k2_hasslot (q4 k hk)) rfl rfl hdg fun H' e1 e2 e3 => ?_
  rw [hsl] at e1 ⊢
  have e9 : va_at D vwCl (ma kk x, .inr (ci, fs.set k v)) H' := ⟨_, hc, t_OB.to (V := updV (vp_V fs) k v) ⟨_, e1, q2, q3, t_set q4 hap hk v⟩ (fun j _ => vp_updV_set hl v j)⟩
  exact kn H' _ (hM.set hu e9 (fun q _ hq => e3 q hq) (Nat.le_of_eq e2.symm)) (hS.put e2 e3 (hM.inA hu)) e3
end MF
theorem up2_2 {α : Type} (C : Nat → Nat → α) (k x : Nat) (e e' : α) : up2 (up2 C k x e) k x e' = up2 C k x e' := by
  funext k' x'; unfold up2; split <;> rfl
/-- what the relation speaks of -/
def mU (g : Nat → Nat → Int32) (n1 n2 nL n4 n5 k x : Nat) : Prop := (k < 9 ∧ x = 0) ∨ (9 ≤ k ∧ k ≤ 14 ∧ x < n1) ∨ (15 ≤ k ∧ k ≤ 20 ∧ x / 6 < n1 ∧ x % 6 < nV g (x / 6)) ∨ ((k = 21 ∨ k = 22) ∧ x / 36 < n1 ∧ x / 6 % 6 < nV g (x / 36)) ∨ (k = 23 ∧ x < nL) ∨ (k = 24 ∧ x < n2) ∨ (k = 25 ∧ x < n4) ∨ ((k = 26 ∨ k = 27) ∧ x < n5)
theorem isL.ext {ty : Nat → ClassId} {t0 : Nat} {u u' : Nat → Nat → Prop} {C C' : Nat → Nat → va_E} {ma ma' : Nat → Nat → Nat} {kl x n : Nat} {f f' : Nat → Nat} (h : isL ty t0 u C ma kl x n f) (h1 : u kl x → u' kl x ∧ C' kl x = C kl x) (h2 : u (kl + 1) x → u' (kl + 1) x ∧ C' (kl + 1) x = C (kl + 1) x ∧ ma' (kl + 1) x = ma (kl + 1) x) (hf : ∀ j, j < n → f' j = f j) : isL ty t0 u' C' ma' kl x n f' := by
  obtain ⟨g1, g2, m, h3 | ⟨h3, h4, h5, cap, k, h6, h7, h8, h9, h10⟩⟩ := h
  · exact ⟨(h1 g1).1, g2, m, Or.inl ⟨h3.1, (h1 g1).2.trans h3.2⟩⟩
  · obtain ⟨q1, q2, q3⟩ := h2 h5
    exact ⟨(h1 g1).1, g2, m, Or.inr ⟨h3, (h1 g1).2.trans (by rw [h4, q3]), q1, cap, k, q2.trans h6, h7, h8, h9, fun j hj => by rw [h10 j hj, hf j hj]⟩⟩
section EXT
variable {ty : Nat → ClassId} {t0 : Nat} {g : Nat → Nat → Int32} {n1 n2 nL n4 n5 : Nat} {th : Int32} {rep bro : Nat → Nat → Int32} {u u' : Nat → Nat → Prop} {C C' : Nat → Nat → va_E} {ma ma' : Nat → Nat → Nat}
/-- the cells that the relation speaks of are as they were -/
theorem mR.ext (h : mR ty t0 g n1 n2 nL n4 n5 th rep bro u C ma) (e : ∀ k x, mU g n1 n2 nL n4 n5 k x → u k x → u' k x ∧ C' k x = C k x ∧ ma' k x = ma k x) : mR ty t0 g n1 n2 nL n4 n5 th rep bro u' C' ma' := by
  have hb := h.I.b1
  have L0 : ∀ {kl n : Nat} {f f' : Nat → Nat}, kl < 8 → isL ty t0 u C ma kl 0 n f → (∀ j, j < n → f' j = f j) → isL ty t0 u' C' ma' kl 0 n f' := fun hk h hf => h.ext (fun q => ⟨(e _ _ (Or.inl ⟨by omega, rfl⟩) q).1, (e _ _ (Or.inl ⟨by omega, rfl⟩) q).2.1⟩) (fun q => e _ _ (Or.inl ⟨by omega, rfl⟩) q) hf
  have U1 : ∀ i, i < n1 → ∀ k, 9 ≤ k → k ≤ 14 → u k i → u' k i ∧ C' k i = C k i ∧ ma' k i = ma k i := fun i hi k h1 h2 hu => e k i (Or.inr (Or.inl ⟨h1, h2, hi⟩)) hu
  have U2 : ∀ i v, i < n1 → v < nV g i → ∀ k, 15 ≤ k → k ≤ 20 → u k (i * 6 + v) → u' k (i * 6 + v) ∧ C' k (i * 6 + v) = C k (i * 6 + v) ∧ ma' k (i * 6 + v) = ma k (i * 6 + v) := fun i v hi hv k h1 h2 hu => by
    have hv7 := (h.I.v7 hi).2
    exact e k _ (Or.inr (Or.inr (Or.inl ⟨h1, h2, by rw [show (i * 6 + v) / 6 = i by omega]; exact hi, by rw [show (i * 6 + v) / 6 = i by omega, show (i * 6 + v) % 6 = v by omega]; exact hv⟩))) hu
  have U3 : ∀ i v f, i < n1 → v < nV g i → f < 6 → ∀ k, k = 21 ∨ k = 22 → u k ((i * 6 + v) * 6 + f) → u' k ((i * 6 + v) * 6 + f) ∧ C' k ((i * 6 + v) * 6 + f) = C k ((i * 6 + v) * 6 + f) ∧ ma' k ((i * 6 + v) * 6 + f) = ma k ((i * 6 + v) * 6 + f) := fun i v f hi hv hf k h1 hu => by
    have hv7 := (h.I.v7 hi).2
    exact e k _ (Or.inr (Or.inr (Or.inr (Or.inl ⟨h1, by rw [show ((i * 6 + v) * 6 + f) / 36 = i by omega]; exact hi, by rw [show ((i * 6 + v) * 6 + f) / 36 = i by omega, show ((i * 6 + v) * 6 + f) / 6 % 6 = v by omega]; exact hv⟩)))) hu
  have O : ∀ k, k < 9 → u k 0 → u' k 0 ∧ C' k 0 = C k 0 ∧ ma' k 0 = ma k 0 := fun k hk hu => e k 0 (Or.inl ⟨hk, rfl⟩) hu
  have K : ∀ j, j < nL → u 23 j → u' 23 j ∧ C' 23 j = C 23 j ∧ ma' 23 j = ma 23 j := fun j hj hu => e 23 j (by unfold mU; omega) hu
  have Q : ∀ j, j < n2 → u 24 j → u' 24 j ∧ C' 24 j = C 24 j ∧ ma' 24 j = ma 24 j := fun j hj hu => e 24 j (by unfold mU; omega) hu
  have CC : ∀ j, j < n4 → u 25 j → u' 25 j ∧ C' 25 j = C 25 j ∧ ma' 25 j = ma 25 j := fun j hj hu => e 25 j (by unfold mU; omega) hu
  have RR : ∀ j, j < n5 → ∀ k, k = 26 ∨ k = 27 → u k j → u' k j ∧ C' k j = C k j ∧ ma' k j = ma k j := fun j hj k hk hu => e k j (by unfold mU; omega) hu
  have hS : ∀ i, i < n1 → ma' 9 i = ma 9 i := fun i hi => (U1 i hi 9 (by decide) (by decide) (h.s9 hi).1).2.2
  have l1 := h.l1.hd.1
  have l3 := h.l3.hd.1
  have l5 := h.l5.hd.1
  have l7 := h.l7.hd.1
  refine ⟨h.I, ⟨(O 0 (by decide) h.o.1).1, ?_⟩, L0 (by decide) h.l1 hS, L0 (by decide) h.l3 (fun j hj => (Q j hj (h.q24 hj).1).2.2), L0 (by decide) h.l5 (fun j hj => (CC j hj (h.c25 hj).1).2.2), L0 (by decide) h.l7 (fun j hj => (RR j hj 26 (Or.inl rfl) (h.r26 hj).1).2.2), fun i hi => ?_, fun i v hi hv => ?_, fun j hj => ⟨(Q j hj (h.q24 hj).1).1, (Q j hj (h.q24 hj).1).2.1.trans (h.q24 hj).2⟩, fun j hj => ⟨(K j hj (h.k23 hj).1).1, (K j hj (h.k23 hj).1).2.1.trans (h.k23 hj).2⟩, fun j hj => ⟨(CC j hj (h.c25 hj).1).1, (CC j hj (h.c25 hj).1).2.1.trans (h.c25 hj).2⟩, fun r hr => ?_⟩
  · rw [(O 0 (by decide) h.o.1).2.1, h.o.2]
    unfold oC
    rw [(O 1 (by decide) l1).2.2, (O 3 (by decide) l3).2.2, (O 5 (by decide) l5).2.2, (O 7 (by decide) l7).2.2]
  · obtain ⟨k1, k2, k3, k4, k5⟩ := h.sets hi
    have q1 := U1 i hi 9 (by decide) (by decide) k1.1
    have q2 := U1 i hi 10 (by decide) (by decide) k2.1
    have q3 := U1 i hi 11 (by decide) (by decide) k3.1
    have q4 := U1 i hi 12 (by decide) (by decide) k4.hd.1
    have q5 := U1 i hi 14 (by decide) (by decide) k5.1
    refine ⟨⟨q1.1, ?_⟩, ⟨q2.1, q2.2.1.trans k2.2⟩, ⟨q3.1, q3.2.1.trans k3.2⟩, k4.ext (fun _ => ⟨q4.1, q4.2.1⟩) (fun q => U1 i hi 13 (by decide) (by decide) q) (fun v hv => (U2 i v hi hv 15 (by decide) (by decide) (h.v15 hi hv).1).2.2), q5.1, q5.2.1.trans k5.2⟩
    rw [q1.2.1, k1.2]
    unfold sC
    rw [q2.2.2, q3.2.2, q4.2.2, q5.2.2]
  · obtain ⟨k1, k2, k3, k4, k5, k6, k7⟩ := h.vers hi hv
    have q1 := U2 i v hi hv 15 (by decide) (by decide) k1.1
    have q2 := U2 i v hi hv 16 (by decide) (by decide) k2.1
    have q3 := U2 i v hi hv 17 (by decide) (by decide) k3.1
    have q4 := U2 i v hi hv 18 (by decide) (by decide) k4.1
    have q5 := U2 i v hi hv 19 (by decide) (by decide) k5.hd.1
    refine ⟨⟨q1.1, ?_⟩, ⟨q2.1, q2.2.1.trans k2.2⟩, ⟨q3.1, q3.2.1.trans k3.2⟩, ⟨q4.1, q4.2.1.trans k4.2⟩, k5.ext (fun _ => ⟨q5.1, q5.2.1⟩) (fun q => U2 i v hi hv 20 (by decide) (by decide) q) (fun f hf => (U3 i v f hi hv hf 21 (Or.inl rfl) (k6 f hf).hd.1).2.2), fun f hf => ?_, k7⟩
    · rw [q1.2.1, k1.2]
      unfold vC
      rw [q2.2.2, q3.2.2, q4.2.2, q5.2.2]
    · have q6 := U3 i v f hi hv hf 21 (Or.inl rfl) (k6 f hf).hd.1
      exact (k6 f hf).ext (fun _ => ⟨q6.1, q6.2.1⟩) (fun q => U3 i v f hi hv hf 22 (Or.inr rfl) q) (fun k hk => (K _ (lkj_mem hk).1 (h.k23 (lkj_mem hk).1).1).2.2)
  · have k1 := h.r26 hr
    have k2 := h.r27 hr
    have q1 := RR r hr 26 (Or.inl rfl) k1.1
    have q2 := RR r hr 27 (Or.inr rfl) k2.1
    refine ⟨⟨q1.1, ?_⟩, q2.1, q2.2.1.trans k2.2⟩
    rw [q1.2.1, k1.2]
    unfold rC
    rw [q2.2.2]
end EXT
