theorem carN_c {g g' : Nat → Nat → Int32} (h15 : g' 15 = g 15) (h16 : g' 16 = g 16) (h17 : g' 17 = g 17) (h : Nat → Int32) (n : Nat) : carN g' h n = carN g h n := by
  induction n with
  | zero => rfl
  | succ n ih => show csS _ _ n = csS _ _ n; rw [ih]; unfold csS; rw [h15, h16, h17]
/-- only rows that gI does not speak of are other -/
theorem gI.cong {g g' : Nat → Nat → Int32} {n1 n2 nL n4 n5 : Nat} (h : gI g n1 n2 nL n4 n5) (e : ∀ k, (k < 9 ∧ k ≠ 3) ∨ k = 12 ∨ k = 13 ∨ (15 ≤ k ∧ k ≤ 17) ∨ (19 ≤ k ∧ k ≤ 21) ∨ k = 30 ∨ k = 31 ∨ k = 37 ∨ k = 38 → g' k = g k) : gI g' n1 n2 nL n4 n5 := by
  have e0 := e 0 (by omega)
  have e1 := e 1 (by omega)
  have e2 := e 2 (by omega)
  have e4 := e 4 (by omega)
  have e5 := e 5 (by omega)
  have e6 := e 6 (by omega)
  have e7 := e 7 (by omega)
  have e8 := e 8 (by omega)
  have e12 := e 12 (by omega)
  have e13 := e 13 (by omega)
  have e15 := e 15 (by omega)
  have e16 := e 16 (by omega)
  have e17 := e 17 (by omega)
  have e19 := e 19 (by omega)
  have e20 := e 20 (by omega)
  have e21 := e 21 (by omega)
  have e30 := e 30 (by omega)
  have e31 := e 31 (by omega)
  have e37 := e 37 (by omega)
  have e38 := e 38 (by omega)
  have ec := carN_c e15 e16 e17
  unfold gI dI lkl nV nF at *
  simp only [e0, e1, e2, e4, e5, e6, e7, e8, e12, e13, e15, e16, e19, e20, e21, e30, e31, e37, e38, ec]
  exact h
section CHG
variable {ty : Nat → ClassId} {t0 : Nat} {g g' : Nat → Nat → Int32} {n1 n2 nL n4 n5 : Nat} {th th' : Int32} {rep bro rep' bro' : Nat → Nat → Int32} {u : Nat → Nat → Prop} {C C' : Nat → Nat → va_E} {ma : Nat → Nat → Nat}
/-- the same cells hold other numbers; the lists are as they were -/
theorem mR.chg (h : mR ty t0 g n1 n2 nL n4 n5 th rep bro u C ma) (hI' : gI g' n1 n2 nL n4 n5)
    (hl : ∀ kl x, (kl = 1 ∨ kl = 2 ∨ kl = 3 ∨ kl = 4 ∨ kl = 5 ∨ kl = 6 ∨ kl = 7 ∨ kl = 8 ∨ kl = 12 ∨ kl = 13 ∨ kl = 19 ∨ kl = 20 ∨ kl = 21 ∨ kl = 22) → C' kl x = C kl x) (e8 : g' 8 = g 8) (e15 : g' 15 = g 15)
    (h0 : C' 0 0 = oC ma th' (g' 0 0)) (h9 : ∀ i, i < n1 → C' 9 i = sC g' ma i) (h10 : ∀ i, i < n1 → C' 10 i = eI (ty 0) 6 (row6 (g' 10) (i * 6))) (h11 : ∀ i, i < n1 → C' 11 i = eI (ty 0) 6 (row6 (g' 11) (i * 6))) (h14 : ∀ i, i < n1 → C' 14 i = eI (ty 0) 6 (prvR (g' 6) i))
    (h15 : ∀ i v, i < n1 → v < nV g i → C' 15 (i * 6 + v) = vC g' ma (i * 6 + v)) (h16 : ∀ i v, i < n1 → v < nV g i → C' 16 (i * 6 + v) = eI (ty 0) 6 (rep' (i * 6 + v))) (h17 : ∀ i v, i < n1 → v < nV g i → C' 17 (i * 6 + v) = eI (ty 0) 6 (bro' (i * 6 + v))) (h18 : ∀ i v, i < n1 → v < nV g i → C' 18 (i * 6 + v) = eI (ty 1) 6 (row6 (g' 20) ((i * 6 + v) * 6)))
    (hown : ∀ i v f, i < n1 → v < nV g i → f < 6 → zmax (rep' (i * 6 + v) f) (bro' (i * 6 + v) f) = g' 19 ((i * 6 + v) * 6 + f) ∧ (g' 20 ((i * 6 + v) * 6 + f) = 0 → bro' (i * 6 + v) f = 0))
    (h24 : ∀ j, j < n2 → C' 24 j = qC g' j) (h23 : ∀ j, j < nL → C' 23 j = kC g' j) (h25 : ∀ c, c < n4 → C' 25 c = cC g' c) (h26 : ∀ r, r < n5 → C' 26 r = rC g' ma r) (h27 : ∀ r, r < n5 → C' 27 r = eI (ty 0) 6 (row6 (g' 38) (r * 6))) : mR ty t0 g' n1 n2 nL n4 n5 th' rep' bro' u C' ma := by
  have eL : ∀ {kl x n : Nat} {f : Nat → Nat}, (kl = 1 ∨ kl = 3 ∨ kl = 5 ∨ kl = 7 ∨ kl = 12 ∨ kl = 19 ∨ kl = 21) → isL ty t0 u C ma kl x n f → isL ty t0 u C' ma kl x n f := fun hk h => h.eqC (fun _ z => z) (fun _ z => z) (hl _ _ (by omega)) (hl _ _ (by omega)) rfl (fun _ _ => rfl)
  have eV : ∀ i, nV g' i = nV g i := fun i => by unfold nV; rw [e8]
  have eK : ∀ p, lkl g' nL p = lkl g nL p := fun p => by unfold lkl; rw [e15]
  have eJ : ∀ p k, lkj g' nL p k = lkj g nL p k := fun p k => by unfold lkj; rw [eK]
  refine ⟨hI', ⟨h.o.1, h0⟩, eL (by decide) h.l1, eL (by decide) h.l3, eL (by decide) h.l5, eL (by decide) h.l7, fun i hi => ?_, fun i v hi hv => ?_, fun j hj => ⟨(h.q24 hj).1, h24 j hj⟩, fun j hj => ⟨(h.k23 hj).1, h23 j hj⟩, fun c hc => ⟨(h.c25 hc).1, h25 c hc⟩, fun r hr => ⟨⟨(h.r26 hr).1, h26 r hr⟩, (h.r27 hr).1, h27 r hr⟩⟩
  · obtain ⟨k1, k2, k3, k4, k5⟩ := h.sets hi
    refine ⟨⟨k1.1, h9 i hi⟩, ⟨k2.1, h10 i hi⟩, ⟨k3.1, h11 i hi⟩, ?_, k5.1, h14 i hi⟩
    rw [eV]; exact eL (by decide) k4
  · rw [eV] at hv
    obtain ⟨k1, k2, k3, k4, k5, k6, k7⟩ := h.vers hi hv
    refine ⟨⟨k1.1, h15 i v hi hv⟩, ⟨k2.1, h16 i v hi hv⟩, ⟨k3.1, h17 i v hi hv⟩, ⟨k4.1, h18 i v hi hv⟩, eL (by decide) k5, fun f hf => ?_, fun f hf => hown i v f hi hv hf⟩
    rw [eK, show (fun k => ma 23 (lkj g' nL (( i * 6 + v) * 6 + f) k)) = (fun k => ma 23 (lkj g nL ((i * 6 + v) * 6 + f) k)) from by funext k; rw [eJ]]
    exact eL (by decide) (k6 f hf)
theorem mR.ownz (h : mR ty t0 g n1 n2 nL n4 n5 th rep bro u C ma) {i v f : Nat} (hi : i < n1) (hv : v < nV g i) (hf : f < 6) : zmax (rep (i * 6 + v) f) (bro (i * 6 + v) f) = g 19 ((i * 6 + v) * 6 + f) ∧ (g 20 ((i * 6 + v) * 6 + f) = 0 → bro (i * 6 + v) f = 0) := (h.vers hi hv).2.2.2.2.2.2 f hf
end CHG
