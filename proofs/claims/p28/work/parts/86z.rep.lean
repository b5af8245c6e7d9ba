/-! which rows the credits and the harm speak of -/
theorem CR_c {g g' : Nat → Nat → Int32} (h38 : g' 38 = g 38) (h30 : g' 30 = g 30) (h31 : g' 31 = g 31) (h : Nat → Nat) (k : Nat) : CR g' h k = CR g h k := nS_c fun r _ => nS_c fun f _ => by
  unfold crA cA
  rw [h38, h30, h31]
theorem hmN_c {g g' : Nat → Nat → Int32} (h7 : g' 7 = g 7) (h17 : g' 17 = g 17) (h19 : g' 19 = g 19) (n : Nat) : hmN g' n = hmN g n := by
  have e1 : pcl g' = pcl g := funext fun j => by unfold pcl nF; rw [h7]
  have e2 : psh g' = psh g := funext fun j => by unfold psh; rw [h17]
  have e3 : pOw g' = pOw g := funext fun j => by unfold pOw; rw [h19]
  unfold hmN
  rw [e1, e2, e3]
section RT
variable {g : Nat → Nat → Int32} {n nL t : Nat} {x : Int32}
theorem tri_row {k : Nat} (h : k ≠ 22) : triG g nL t x k = g k := vn h
theorem rep_row {k : Nat} (h : k ≠ 21 ∧ k ≠ 19 ∧ k ≠ 22) : repG g nL t x k = g k := (vn h.1).trans ((vn h.2.1).trans (vn h.2.2))
theorem rep_19 : repG g nL t x 19 = upd (g 19) t (zmax (g 19 t) x) := by
  have e : triG g nL t x 19 = g 19 := tri_row (by decide)
  have e2 : repG g nL t x 19 = upd (triG g nL t x 19) t (zmax (triG g nL t x 19 t) x) := (vn (by decide)).trans vs
  rw [e2, e]
theorem tri_CR (h : Nat → Nat) (k : Nat) : CR (triG g nL t x) h k = CR g h k := CR_c (tri_row (by decide)) (tri_row (by decide)) (tri_row (by decide)) h k
theorem tri_hm : hmN (triG g nL t x) n = hmN g n := hmN_c (tri_row (by decide)) (tri_row (by decide)) (tri_row (by decide)) n
theorem rep_CR (h : Nat → Nat) (k : Nat) : CR (repG g nL t x) h k = CR g h k := CR_c (rep_row (by decide)) (rep_row (by decide)) (rep_row (by decide)) h k
theorem rep_tri {nL2 : Nat} {x2 : Int32} {t2 : Nat} : hmN (repG (triG g nL2 t2 x2) nL t x) n = hmN (repG g nL t x) n := by
  refine hmN_c ?_ ?_ ?_ n
  · rw [rep_row (by decide), rep_row (by decide), tri_row (by decide)]
  · rw [rep_row (by decide), rep_row (by decide), tri_row (by decide)]
  · rw [rep_19, rep_19, tri_row (by decide)]
end RT
