/-! the calls of the law keep what it carries -/
section ST
variable {g : Nat → Nat → Int32} {n n4 n5 : Nat}
theorem pI_o {k : Nat} (hk : k = 6 ∨ k = 22 ∨ k = 37) (h : pI g n n4 n5) (x : Nat → Int32) : pI (va_up g k x) n n4 n5 := by
  obtain ⟨⟨b1, b2, b3, b4, b5, b6, b7, b8, b9, b10⟩, ⟨a1, a2, a3, a4⟩, hL, ⟨h1, h2⟩, ⟨c1, c2⟩, hK, r1, r2, r3⟩ := h
  rcases hk with rfl | rfl | rfl <;> exact ⟨⟨b1, b2, b3, b4, b5, b6, b7, b8, b9, b10⟩, ⟨a1, a2, a3, a4⟩, hL, ⟨h1, h2⟩, ⟨c1, c2⟩, hK, r1, r2, r3⟩
theorem pI_pass (h : pI g n n4 n5) {d : Nat} (h1 : cn (g 0 0) ≤ d) (h2 : d < 360) : pI (va_up g 0 (upd (g 0) 0 (nI d))) n n4 n5 := by
  obtain ⟨⟨b1, b2, b3, b4, b5, b6, b7, b8, b9, b10⟩, hA, hL, hH, hC, hK, r1, r2, r3⟩ := h
  refine ⟨⟨b1, b2, b3, b4, b5, b6, b7, b8, b9, nb_nI h2 (by decide)⟩, hA, hL, hH, hC, hK, r1, fun r hr => ?_, r3⟩
  show cn (g 35 r) ≤ cn (nI d)
  rw [cn_nI (by omega)]
  exact Nat.le_trans (r2 r hr) h1
/-! a report -/
theorem own_rep (h : pI g n n4 n5) {t xk : Nat} (ht : t < 288) (hx : xk ≤ 100) : (∀ q, q ≠ t → pOw (repG g (n - 1) t (nI xk)) q = pOw g q) ∧ pOw (repG g (n - 1) t (nI xk)) t = max (pOw g t) xk := by
  constructor
  · intro q hq
    show cn (upd (g 19) t (zmax (g 19 t) (nI xk)) q) = cn (g 19 q)
    rw [un hq]
  · show cn (upd (g 19) t (zmax (g 19 t) (nI xk)) t) = max (cn (g 19 t)) xk
    have k := h.own ht
    have e : pOw g t = cn (g 19 t) := rfl
    rw [e] at k
    obtain ⟨a, ea⟩ : ∃ a, cn (g 19 t) = a := ⟨_, rfl⟩
    rw [ea] at k ⊢
    rw [us, k.1, zmax_N (by omega) (by omega), cn_nI (by omega)]
theorem own_rep2 (h : pI g n n4 n5) {t xk : Nat} (ht : t < 288) (hx : xk ≤ 100) {q : Nat} (hq : q < 288) : upd (g 19) t (zmax (g 19 t) (nI xk)) q = nI (pOw (repG g (n - 1) t (nI xk)) q) ∧ pOw (repG g (n - 1) t (nI xk)) q ≤ 100 := by
  obtain ⟨h1, h2⟩ := own_rep h ht hx
  have kq := h.own hq
  have kt := h.own ht
  by_cases e : q = t
  · subst e
    rw [us, h2]
    refine ⟨?_, by omega⟩
    rw [kq.1, zmax_N (by omega) (by omega)]
  · rw [un e, h1 q e]; exact kq
/-- the harm behind a report, as the links bring it -/
theorem hN_rep (h : pI g n n4 n5) {t xk : Nat} (ht : t < 288) (hx : xk ≤ 100) : (∀ q, hmN g n q ≤ hmN (repG g (n - 1) t (nI xk)) n q) ∧ hmN (repG g (n - 1) t (nI xk)) n t = max (hmN g n t) xk := by
  obtain ⟨h1, h2⟩ := own_rep h ht hx
  have k := carX_up (c := pcl g) (p := ppl) (s := psh g) (N := n - 1) (fun j hj => (h.lk j hj).2.2.2) h1 h2 (n - 1) (Nat.le_refl _)
  exact ⟨k.1, k.2.2⟩
theorem pI_rep (h : pI g n n4 n5) {t xk : Nat} (ht : t < 288) (hx : xk ≤ 100) : pI (repG g (n - 1) t (nI xk)) n n4 n5 := by
  have k1 := fun q hq => own_rep2 h ht hx (q := q) hq
  have k2 := h.lk
  obtain ⟨⟨b1, b2, b3, b4, b5, b6, b7, b8, b9, b10⟩, ⟨a1, a2, a3, a4⟩, hL, -, ⟨c1, c2⟩, hK, r1, r2, r3⟩ := h
  refine ⟨⟨b1, b2, b3, b4, b5, b6, b7, b8, b9, b10⟩, ⟨a1, a2, a3, a4⟩, hL, ⟨fun q hq => ?_, fun q hq => ?_⟩, ⟨c1, c2⟩, hK, r1, r2, r3⟩
  · show nb (upd (g 19) t (zmax (g 19 t) (nI xk)) q) 101
    rw [(k1 q hq).1]
    exact nb_nI (by have := (k1 q hq).2; omega) (by decide)
  · exact (carN_X (g := rse g t (nI xk)) (N := n - 1) k2 (h := cpy (rse g t (nI xk) 19) (rse g t (nI xk) 21) 288) (h' := pOw (repG g (n - 1) t (nI xk))) (fun q hq => by
      have e : cpy (rse g t (nI xk) 19) (rse g t (nI xk) 21) 288 q = upd (g 19) t (zmax (g 19 t) (nI xk)) q := if_pos hq
      rw [e]; exact k1 q hq) (n - 1) (Nat.le_refl _) q hq).1
/-- what a report would credit, and that it is no debt -/
theorem gain_X (h : pI g n n4 n5) {t xk : Nat} (ht : t < 288) (hx : xk ≤ 100) : ∃ d, gainN g (n - 1) n5 t (nI xk) = nI d ∧ CR g (hmN (repG g (n - 1) t (nI xk)) n) n5 = CR g (hmN g n) n5 + d := by
  have k1 := fun q hq => own_rep2 h ht hx (q := q) hq
  have hm : CR g (hmN g n) n5 ≤ CR g (hmN (repG g (n - 1) t (nI xk)) n) n5 := CR_mono (hN_rep h ht hx).1
  refine ⟨CR g (hmN (repG g (n - 1) t (nI xk)) n) n5 - CR g (hmN g n) n5, ?_, by omega⟩
  have e1 : sumN (fCr (triG g (n - 1) t (nI xk)) (-1) (-1) 22) n5 = nI (CR g (hmN (repG g (n - 1) t (nI xk)) n) n5) := sumN_nS (h := crX g (hmN (repG g (n - 1) t (nI xk)) n)) fun r hr => by
    unfold fCr
    rw [ofB_a, if_pos rfl]
    refine crN_X (g := triG g (n - 1) t (nI xk)) (h := hmN (repG g (n - 1) t (nI xk)) n) (k := 22) h.c5 (by have := h.b5; omega) (h.rd hr).1 (h.rd hr).2 (fun q hq => ?_)
    exact carN_X (g := g) (N := n - 1) h.lk (h := upd (cpy (g 19) (g 22) 288) t (zmax (cpy (g 19) (g 22) 288 t) (nI xk))) (h' := pOw (repG g (n - 1) t (nI xk))) (fun q hq => by
      have e : upd (cpy (g 19) (g 22) 288) t (zmax (cpy (g 19) (g 22) 288 t) (nI xk)) q = upd (g 19) t (zmax (g 19 t) (nI xk)) q := by
        rw [show cpy (g 19) (g 22) 288 t = g 19 t from if_pos ht]
        by_cases e : q = t
        · rw [e, us, us]
        · rw [un e, un e]; exact if_pos hq
      rw [e]; exact k1 q hq) (n - 1) (Nat.le_refl _) q hq
  have e2 : sumN (fCr g (-1) (-1) 21) n5 = nI (CR g (hmN g n) n5) := h.m6
  unfold gainN
  rw [e1, e2, pk_sub hm]
/-! a contract -/
def conG (g : Nat → Nat → Int32) (n4 : Nat) (a b F ps fr to : Int32) : Nat → Nat → Int32 := va_up (va_up (va_up (va_up (va_up (va_up (va_up g 23 (upd (g 23) n4 a)) 24 (upd (g 24) n4 b)) 25 (upd (g 25) n4 F)) 26 (upd (g 26) n4 ps)) 27 (upd (g 27) n4 fr)) 28 (upd (g 28) n4 to)) 4 (upd (g 4) 0 (nI (n4 + 1)))
theorem fOpen_con {c : Nat} (hc : c ≠ n4) (a b F ps fr to R S M d x : Int32) : fOpen (conG g n4 a b F ps fr to) R S M d x c = fOpen g R S M d x c := by
  have e23 : conG g n4 a b F ps fr to 23 c = g 23 c := un hc
  have e24 : conG g n4 a b F ps fr to 24 c = g 24 c := un hc
  have e25 : conG g n4 a b F ps fr to 25 c = g 25 c := un hc
  have e26 : conG g n4 a b F ps fr to 26 c = g 26 c := un hc
  have e27 : conG g n4 a b F ps fr to 27 c = g 27 c := un hc
  have e28 : conG g n4 a b F ps fr to 28 c = g 28 c := un hc
  unfold fOpen forB onB
  rw [e23, e24, e25, e26, e27, e28]
theorem and_x0 (x : Int32) : x &&& (x ^^^ (-1)) = 0 := and0.mpr fun i hi h => by rw [b_xor, b_m1 i hi, h]; rfl
theorem and_xor {x a b : Int32} (h : x &&& (a ^^^ (-1)) = 0) : x &&& ((a ||| b) ^^^ (-1)) = 0 := and0.mpr fun i hi k => by
  have k1 := and0.mp h i hi k
  rw [b_xor, b_m1 i hi] at k1
  rw [b_xor, b_or, b_m1 i hi]
  cases e : bt a i
  · rw [e] at k1; cases k1
  · simp
theorem pI_con (h : pI g n n4 n5) (hn4 : n4 < 16) (a : Int32) {i z : Nat} (hi : i < n) (hz : z < 2 ^ nF g i) (ps fr to : Int32) : pI (conG g n4 a (nI i) (nI z) ps fr to) n (n4 + 1) n5 := by
  obtain ⟨⟨b1, b2, b3, b4, b5, b6, b7, b8, b9, b10⟩, ⟨a1, a2, a3, a4⟩, hL, ⟨h1, h2⟩, ⟨c1, c2⟩, hK, r1, r2, r3⟩ := h
  refine ⟨⟨b1, b2, b3, b4, b5, b6, ⟨rfl, hn4⟩, b8, b9, b10⟩, ⟨a1, a2, a3, a4⟩, hL, ⟨h1, h2⟩, ⟨c1, c2⟩, fun c hc => ?_, fun r hr => ?_, r2, r3⟩
  · by_cases e : c = n4
    · subst e
      exact ⟨i, z, hi, us, us, hz⟩
    · obtain ⟨i1, z1, k1, k2, k3, k4⟩ := hK c (by omega)
      exact ⟨i1, z1, k1, (un e).trans k2, (un e).trans k3, k4⟩
  · obtain ⟨k1, k2, k3, k4, k5, k6⟩ := r1 r hr
    refine ⟨k1, k2, k3, k4, k5, ?_⟩
    show g 32 r &&& (orN (fOpen (conG g n4 a (nI i) (nI z) ps fr to) (nI (cn (g 29 r))) (nI (cn (g 30 r))) (nI 1 <<< (nI (cn (g 34 r)) &&& 31)) (nI (cn (g 35 r))) (-1)) (n4 + 1) ^^^ (-1)) = 0
    rw [orN_s, orN_c (h := fOpen g (nI (cn (g 29 r))) (nI (cn (g 30 r))) (nI 1 <<< (nI (cn (g 34 r)) &&& 31)) (nI (cn (g 35 r))) (-1)) (fun c hc => fOpen_con (by omega) _ _ _ _ _ _ _ _ _ _ _)]
    exact and_xor k6
/-! what is covered is a set of the set's fields -/
theorem or_nI {x y : Int32} {k : Nat} (hk : k < 7) (hx : ∃ a, a < 2 ^ k ∧ x = nI a) (hy : ∃ a, a < 2 ^ k ∧ y = nI a) : ∃ a, a < 2 ^ k ∧ x ||| y = nI a := by
  have hp := p2_64 hk
  have hp0 : 0 < 2 ^ k := Nat.two_pow_pos _
  have hm : (nI (2 ^ k - 1)).toBitVec.toNat = 2 ^ k - 1 := pk_tn (by omega)
  have K : ∀ w : Int32, (∃ a, a < 2 ^ k ∧ w = nI a) → w &&& nI (2 ^ k - 1) = w := fun w hw => by
    obtain ⟨a, ha, rfl⟩ := hw
    rw [pk_andN (by omega) k hm, Nat.mod_eq_of_lt ha]
  have e : (x ||| y) &&& nI (2 ^ k - 1) = x ||| y := by
    refine b_ext fun i _ => ?_
    have ex := congrArg (fun w => bt w i) (K x hx)
    have ey := congrArg (fun w => bt w i) (K y hy)
    simp only [b_and] at ex ey
    rw [b_and, b_or]
    cases e1 : bt x i <;> cases e2 : bt y i <;> simp_all
  obtain ⟨j, hj, ej⟩ := pk_andE (x ||| y) k hm
  exact ⟨j, hj, e.symm.trans ej⟩
theorem cov_nI (h : pI g n n4 n5) {i : Nat} (hi : i < n) (R M d x : Int32) : ∀ k, k ≤ n4 → ∃ z, z < 2 ^ nF g i ∧ orN (fOpen g R (nI i) M d x) k = nI z := by
  have hf := h.f hi
  intro k
  induction k with
  | zero => exact fun _ => ⟨0, Nat.two_pow_pos _, nI_0.symm⟩
  | succ k ih =>
    intro hk
    obtain ⟨z, hz, ez⟩ := ih (by omega)
    refine or_nI hf.2.2 ⟨z, hz, ez⟩ ?_
    unfold fOpen
    by_cases hc : (!decide (nI k = x) && forB g k R (nI i) M d) = true
    · rw [if_pos hc]
      obtain ⟨i1, z1, k1, k2, k3, k4⟩ := h.2.2.2.2.2.1 k (by omega)
      have hb := h.n5b
      rw [Bool.and_eq_true] at hc
      have hc2 := hc.2
      unfold forB at hc2
      rw [Bool.and_eq_true, Bool.and_eq_true, decide_eq_true_eq, decide_eq_true_eq, k2] at hc2
      have : i1 = i := (nI_eq (by omega) (by omega)).mp hc2.2.1
      subst this
      exact ⟨z1, k4, k3⟩
    · rw [if_neg hc]
      exact ⟨0, Nat.two_pow_pos _, nI_0.symm⟩
/-! a read -/
theorem tier_b (u : Int32) : nb (tierN u) 5 ∧ 2 ≤ cn (tierN u) := by
  unfold tierN
  split
  · split
    · exact ⟨nb_nI (by decide) (by decide), by decide⟩
    · exact ⟨nb_nI (by decide) (by decide), by decide⟩
  · exact ⟨nb_nI (by decide) (by decide), by decide⟩
theorem readG_38 (g : Nat → Nat → Int32) (n5 R i : Nat) (F rw0 : Int32) (P : Nat) : readG g n5 R i F rw0 P 38 = chgW (g 38) (n5 * 6) (fun f => g 10 (i * 6 + f)) F rw0 (tierN (sumN (fUn g (nI R) (g 0 0)) n5)) (nF g i) := vs
theorem chg_b {r p t : Nat} (hr : r ≤ 5049) (hp : p < 100) (ht : t < 5) : nb (nI r * nI p * nI t / nI 400) 5000 := by
  have h1 : r * p ≤ 5049 * 99 := Nat.mul_le_mul hr (by omega)
  have h2 : r * p * t ≤ 5049 * 99 * 4 := Nat.mul_le_mul h1 (by omega)
  rw [pk_mul, pk_mul, pk_div (by omega) (by decide) (by decide)]
  exact nb_nI (by omega) (by decide)
theorem pI_read (h : pI g n n4 n5) (hn5 : n5 < 40) {R i P r : Nat} (hR : R < 6) (hi : i < n) (hP : P < 4) (F : Int32) (hr : r ≤ 5049) (hcv : F &&& (orN (fOpen g (nI R) (nI i) (nI 1 <<< (nI P &&& 31)) (g 0 0) (-1)) n4 ^^^ (-1)) = 0) : pI (readG g n5 R i F (nI r) P) n n4 (n5 + 1) := by
  have hv := h.v hi
  have hf := h.f hi
  have hb := h.n5b
  have hpr := fun f hf => h.pr (f := f) hi hf
  have ht := tier_b (sumN (fUn g (nI R) (g 0 0)) n5)
  have e29 : ∀ j, readG g n5 R i F (nI r) P 29 j = upd (g 29) n5 (nI R) j := fun j => rfl
  have e30 : ∀ j, readG g n5 R i F (nI r) P 30 j = upd (g 30) n5 (nI i) j := fun j => rfl
  have e31 : ∀ j, readG g n5 R i F (nI r) P 31 j = upd (g 31) n5 (nI (nV g i - 1)) j := fun j => rfl
  have e32 : ∀ j, readG g n5 R i F (nI r) P 32 j = upd (g 32) n5 F j := fun j => rfl
  have e34 : ∀ j, readG g n5 R i F (nI r) P 34 j = upd (g 34) n5 (nI P) j := fun j => rfl
  have e35 : ∀ j, readG g n5 R i F (nI r) P 35 j = upd (g 35) n5 (g 0 0) j := fun j => rfl
  have e36 : ∀ j, readG g n5 R i F (nI r) P 36 j = upd (g 36) n5 (tierN (sumN (fUn g (nI R) (g 0 0)) n5)) j := fun j => rfl
  have eop : ∀ a b M d x : Int32, fOpen (readG g n5 R i F (nI r) P) a b M d x = fOpen g a b M d x := fun _ _ _ _ _ => rfl
  obtain ⟨⟨b1, b2, b3, b4, b5, b6, b7, b8, b9, b10⟩, ⟨a1, a2, a3, a4⟩, hL, ⟨h1, h2⟩, ⟨c1, c2⟩, hK, r1, r2, r3⟩ := h
  refine ⟨⟨b1, b2, b3, b4, b5, b6, b7, ⟨rfl, hn5⟩, fun j hj => ?_, b10⟩, ⟨a1, a2, a3, a4⟩, hL, ⟨h1, h2⟩, ⟨fun q hq => ?_, fun q hq => ?_⟩, hK, fun j hj => ?_, fun j hj => ?_, fun j hj => ?_⟩
  · rw [e30, e31]
    by_cases e : j = n5
    · rw [e, us, us, hv]
      exact ⟨nb_nI (by omega) (by decide), nb_nI (by decide) (by decide)⟩
    · rw [un e, un e]; exact b9 j (by omega)
  · rw [readG_38]
    unfold chgW
    by_cases hc : n5 * 6 ≤ q ∧ q < n5 * 6 + nF g i ∧ hasB F (q - n5 * 6) = true
    · rw [if_pos hc]
      have k1 := hpr (q - n5 * 6) (by omega)
      show nb (nI r * g 10 (i * 6 + (q - n5 * 6)) * tierN (sumN (fUn g (nI R) (g 0 0)) n5) / nI 400) 5000
      rw [k1.1, ht.1.1]
      exact chg_b hr k1.2 ht.1.2
    · rw [if_neg hc]; exact c1 q hq
  · rw [readG_38]
    unfold chgW
    rw [if_neg (fun z => by have := z.2.1; omega)]
    exact c2 q (by omega)
  · unfold rI rCv
    rw [e29, e30, e32, e34, e35, e36, eop]
    by_cases e : j = n5
    · rw [e, us, us, us, us, us, us, cn_nI (show R < 2 ^ 31 by omega), cn_nI (show i < 2 ^ 31 by omega), cn_nI (show P < 2 ^ 31 by omega), ← b10.1]
      exact ⟨nb_nI hR (by decide), hi, nb_nI hP (by decide), b10, ht, hcv⟩
    · rw [un e, un e, un e, un e, un e, un e]
      exact r1 j (by omega)
  · rw [e35]
    by_cases e : j = n5
    · rw [e, us]; exact Nat.le_refl _
    · rw [un e]; exact r2 j (by omega)
  · rw [e35, e35]
    by_cases e : j + 1 = n5
    · rw [e, us, un (by omega)]; exact r2 j (by omega)
    · rw [un (by omega), un e]; exact r3 j (by omega)
/-- the credits of the reads before a new one are what they were -/
theorem CR_read (h : pI g n n4 n5) {R i P r : Nat} (F : Int32) : CR g (hmN g n) n5 ≤ CR (readG g n5 R i F (nI r) P) (hmN (readG g n5 R i F (nI r) P) n) (n5 + 1) := by
  have e30 : ∀ j, readG g n5 R i F (nI r) P 30 j = upd (g 30) n5 (nI i) j := fun j => rfl
  have e31 : ∀ j, readG g n5 R i F (nI r) P 31 j = upd (g 31) n5 (nI (nV g i - 1)) j := fun j => rfl
  have eh : hmN (readG g n5 R i F (nI r) P) n = hmN g n := rfl
  have e : CR g (hmN g n) n5 = CR (readG g n5 R i F (nI r) P) (hmN g n) n5 := nS_c fun j hj => nS_c fun f hf => by
    unfold crA cA
    rw [e30, e31, un (show j ≠ n5 by omega), un (show j ≠ n5 by omega), readG_38]
    unfold chgW
    rw [if_neg (fun z => by have := z.1; omega)]
  rw [eh, e]
  exact Nat.le_add_right _ _
/-- what is quoted is what is charged -/
theorem sumN_z {f : Nat → Int32} {k m : Nat} (hk : k ≤ m) (hz : ∀ j, k ≤ j → j < m → f j = 0) : sumN f m = sumN f k := by
  induction m with
  | zero => rw [show k = 0 by omega]
  | succ m ih =>
    by_cases e : k = m + 1
    · rw [e]
    · rw [sumN_s, ih (by omega) (fun j h1 h2 => hz j h1 (by omega)), hz m (by omega) (by omega), Int32.add_zero]
theorem quote_X (h : pI g n n4 n5) {R i P : Nat} (hi : i < n) (F rw0 : Int32) : sumN (qtF g i F rw0 (tierN (sumN (fUn g (nI R) (g 0 0)) n5))) (nF g i) = chN (readG g n5 R i F rw0 P) n5 := by
  have hf := h.f hi
  have e : ∀ f, f < 6 → chF (readG g n5 R i F rw0 P) n5 f = if f < nF g i then qtF g i F rw0 (tierN (sumN (fUn g (nI R) (g 0 0)) n5)) f else 0 := fun f h6 => by
    unfold chF
    rw [readG_38]
    unfold chgW qtF
    rw [show n5 * 6 + f - n5 * 6 = f by omega]
    by_cases hlt : f < nF g i
    · rw [if_pos hlt]
      by_cases hb : hasB F f = true
      · rw [if_pos ⟨by omega, by omega, hb⟩, if_pos hb]
      · rw [if_neg (fun z => hb z.2.2), if_neg hb]; exact h.c0 (by omega)
    · rw [if_neg hlt, if_neg (fun z => by have := z.2.1; omega)]; exact h.c0 (by omega)
  unfold chN
  rw [sumN_z (f := chF (readG g n5 R i F rw0 P) n5) (k := nF g i) (m := 6) (by omega) (fun j h1 h2 => by rw [e j h2, if_neg (by omega)])]
  exact sumN_c fun f hf6 => by rw [e f (by omega), if_pos hf6]
end ST
