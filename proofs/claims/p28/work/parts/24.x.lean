theorem vs {α : Type} {f : Nat → α} {k : Nat} {v : α} : va_up f k v k = v := if_pos rfl
theorem vn {α : Type} {f : Nat → α} {k j : Nat} {v : α} (h : j ≠ k) : va_up f k v j = f j := if_neg h
theorem tri_eq {g a b c : Nat → Nat → Int32} {nL p : Nat} {x : Int32} (ea : a = va_up g 22 (cpy (g 19) (g 22) 288)) (eb : b = va_up a 22 (upd (a 22) p (zmax (a 22 p) x))) (ec : c = va_up b 22 (carN b (b 22) nL)) : c = triG g nL p x := by
  have h1 : a 22 = cpy (g 19) (g 22) 288 := by rw [ea]; exact vs
  have h2 : b 22 = upd (cpy (g 19) (g 22) 288) p (zmax (cpy (g 19) (g 22) 288 p) x) := by rw [eb, h1]; exact vs
  have h3 : ∀ h, carN b h nL = carN g h nL := fun h => by rw [eb, carN_vu (by decide) (by decide) (by decide), ea, carN_vu (by decide) (by decide) (by decide)]
  rw [ec, h3, h2, eb, vu_2, ea, vu_2]
  rfl
theorem ofB_vu {g : Nat → Nat → Int32} {k : Nat} {x : Nat → Int32} (h1 : k ≠ 29) (h2 : k ≠ 30) (r : Nat) (R S : Int32) : ofB (va_up g k x) r R S = ofB g r R S := by
  unfold ofB; rw [vn h1.symm, vn h2.symm]
theorem crN_vu {g : Nat → Nat → Int32} {k c : Nat} {x : Nat → Int32} (h1 : k ≠ 38) (h2 : k ≠ 30) (h3 : k ≠ 31) (h4 : k ≠ c) (r : Nat) : crN (va_up g k x) c r = crN g c r := by
  unfold crN
  have e : crF (va_up g k x) c r = crF g c r := by
    funext f; unfold crF; rw [vn h1.symm, vn h2.symm, vn h3.symm, vn h4.symm]
  rw [e]
theorem fCr_vu {g : Nat → Nat → Int32} {k c : Nat} {x : Nat → Int32} (h0 : k ≠ 29) (h1 : k ≠ 38) (h2 : k ≠ 30) (h3 : k ≠ 31) (h4 : k ≠ c) (R S : Int32) : fCr (va_up g k x) R S c = fCr g R S c := by
  funext r; unfold fCr; rw [ofB_vu h0 h2, crN_vu h1 h2 h3 h4]
theorem gain_eq (g : Nat → Nat → Int32) (nL n5 p : Nat) (x : Int32) : sumN (fCr (triG g nL p x) (-1) (-1) 22) n5 - sumN (fCr (triG g nL p x) (-1) (-1) 21) n5 = gainN g nL n5 p x := by
  unfold gainN
  rw [show fCr (triG g nL p x) (-1) (-1) 21 = fCr g (-1) (-1) 21 from fCr_vu (by decide) (by decide) (by decide) (by decide) (by decide) _ _]
theorem set_eq {g a b c : Nat → Nat → Int32} {nL p : Nat} {x : Int32} (h : ∀ k, k = 15 ∨ k = 16 ∨ k = 17 ∨ k = 19 ∨ k = 21 → a k = g k) (eb : b = va_up a 19 (upd (a 19) p (zmax (a 19 p) x))) (ec : c = va_up b 21 (setlN b nL)) : c = va_up (rse a p x) 21 (setlN (rse g p x) nL) := by
  have e : setlN b nL = setlN (rse g p x) nL := by
    refine setlN_c ?_ ?_ ?_ ?_ ?_ nL
    · rw [eb, vn (by decide), h 15 (by omega)]; exact (vn (by decide)).symm
    · rw [eb, vn (by decide), h 16 (by omega)]; exact (vn (by decide)).symm
    · rw [eb, vn (by decide), h 17 (by omega)]; exact (vn (by decide)).symm
    · rw [eb, vs, h 19 (by omega)]; exact vs.symm
    · rw [eb, vn (by decide), h 21 (by omega)]; exact (vn (by decide)).symm
  rw [ec, e, eb]
  rfl
theorem tri_r {g : Nat → Nat → Int32} {nL p : Nat} {x : Int32} (k : Nat) (h : k = 15 ∨ k = 16 ∨ k = 17 ∨ k = 19 ∨ k = 21) : triG g nL p x k = g k := vn (by omega)
theorem bI_nar (b : Bool) : narrow .boolean (.int (bI b)) = .int (bI b) := by cases b <;> rfl
