/-! a bill, previews, what is needed -/
section BL
variable {g : Nat → Nat → Int32} {n n4 n5 : Nat}
theorem sumN_add (f h : Nat → Int32) (k : Nat) : sumN f k + sumN h k = sumN (fun j => f j + h j) k := by
  induction k with
  | zero => exact Int32.add_zero 0
  | succ k ih =>
    rw [sumN_s, sumN_s, sumN_s, ← ih]
    generalize sumN f k = a
    generalize sumN h k = b
    generalize f k = c
    generalize h k = d
    rw [Int32.add_assoc, Int32.add_assoc, ← Int32.add_assoc c b d, Int32.add_comm c b, Int32.add_assoc b c d]
theorem sumN_0 {f : Nat → Int32} {k : Nat} (e : ∀ j, j < k → f j = 0) : sumN f k = 0 := by
  induction k with
  | zero => rfl
  | succ k ih => rw [sumN_s, ih (fun j hj => e j (by omega)), e k (by omega), Int32.add_zero]
theorem sub_self9 (x : Int32) : x - x = 0 := by rw [Int32.sub_eq_add_neg, Int32.add_right_neg]
theorem add_sub9 (x y : Int32) : y + (x - y) = x := by
  rw [Int32.sub_eq_add_neg, Int32.add_comm x, ← Int32.add_assoc, Int32.add_right_neg, Int32.zero_add]
/-- behind a bill nothing is due -/
theorem due_0 (R : Int32) : sumN (fDue (va_up g 37 (bilN g R n5)) R 21) n5 = 0 := sumN_0 fun r hr => by
  show (if ofB g r R (-1) then chN g r - crN g 21 r - bilN g R n5 r else 0) = 0
  by_cases h : ofB g r R (-1) = true
  · rw [if_pos h]
    unfold bilN
    rw [if_pos ⟨hr, h⟩, sub_self9]
  · rw [if_neg h]
theorem bil_1 (R : Int32) : sumN (fBil (va_up g 37 (bilN g R n5)) R) n5 = sumN (fBil g R) n5 + sumN (fDue g R 21) n5 := by
  rw [sumN_add]
  refine sumN_c fun r hr => ?_
  show (if ofB g r R (-1) then bilN g R n5 r else 0) = fBil g R r + fDue g R 21 r
  unfold fBil fDue
  by_cases h : ofB g r R (-1) = true
  · rw [if_pos h, if_pos h, if_pos h]
    unfold bilN
    rw [if_pos ⟨hr, h⟩, add_sub9]
  · rw [if_neg h, if_neg h, if_neg h, Int32.add_zero]
/-- what was billed in all is what was billed to each -/
theorem sumN_sw (f : Nat → Nat → Int32) (a b : Nat) : sumN (fun i => sumN (fun j => f i j) b) a = sumN (fun j => sumN (fun i => f i j) a) b := by
  induction a with
  | zero => exact (sumN_0 fun j _ => rfl).symm
  | succ a ih =>
    rw [sumN_s, ih, sumN_add]
    exact sumN_c fun j _ => rfl
theorem sumN_one {f : Nat → Int32} {k a : Nat} (ha : a < k) (e : ∀ j, j < k → j ≠ a → f j = 0) : sumN f k = f a := by
  induction k with
  | zero => omega
  | succ k ih =>
    rw [sumN_s]
    by_cases h : a = k
    · subst h
      rw [sumN_0 (fun j hj => e j (by omega) (by omega)), Int32.zero_add]
    · rw [ih (by omega) (fun j hj hn => e j (by omega) hn), e k (by omega) (by omega), Int32.add_zero]
theorem ofB_R {r a R : Nat} (h : g 29 r = nI a) (ha : a < 6) (hR : R < 6) : ofB g r (nI R) (-1) = decide (a = R) := by
  unfold ofB
  rw [h, decide_eq_true (show (-1 : Int32) = -1 from rfl), decide_eq_false (nI_ne_m1 (show R < 2 ^ 31 by omega)), Bool.true_or, Bool.and_true, Bool.false_or]
  exact decide_eq_decide.mpr (nI_eq (by omega) (by omega))
theorem bil_sum (h : pI g n n4 n5) : manyN g n n5 7 = sumN (fun R => sumN (fBil g (nI R)) n5) 6 := by
  show sumN (fBil g (-1)) n5 = _
  rw [sumN_sw (fun R r => fBil g (nI R) r) 6 n5]
  refine sumN_c fun r hr => ?_
  have k := (h.r hr).1
  rw [sumN_one (f := fun R => fBil g (nI R) r) k.2 (fun R hR hn => by
    show fBil g (nI R) r = 0
    unfold fBil
    rw [ofB_R k.1 k.2 hR, decide_eq_false (fun e => hn e.symm)]; rfl)]
  show fBil g (-1) r = fBil g (nI (cn (g 29 r))) r
  unfold fBil
  rw [ofB_a, ofB_R k.1 k.2 k.2, decide_eq_true rfl]
/-- how many of k -/
def bN (b : Bool) : Nat := if b then 1 else 0
theorem need_N (g : Nat → Nat → Int32) (n4 c n5 : Nat) : ∃ k, k ≤ n5 ∧ sumN (fNeed g n4 c) n5 = nI k := by
  refine ⟨nS (fun r => bN (needB g n4 r c)) n5, ?_, sumN_nS fun r hr => ?_⟩
  · have := nS_b (f := fun r => bN (needB g n4 r c)) (n := n5) (b := 1) (fun r _ => by show bN _ ≤ 1; unfold bN; split <;> omega)
    omega
  · unfold fNeed bN
    cases needB g n4 r c <;> rfl
/-! previews -/
theorem shl1 {k : Nat} (h : k < 7) : nI 1 <<< (nI k &&& 31) = nI (2 ^ k) := by
  obtain rfl | rfl | rfl | rfl | rfl | rfl | rfl : k = 0 ∨ k = 1 ∨ k = 2 ∨ k = 3 ∨ k = 4 ∨ k = 5 ∨ k = 6 := by omega
  all_goals decide
theorem bc_1 {k : Nat} (h : k < 7) : bc (nI (2 ^ k)) = nI 1 := by
  obtain rfl | rfl | rfl | rfl | rfl | rfl | rfl : k = 0 ∨ k = 1 ∨ k = 2 ∨ k = 3 ∨ k = 4 ∨ k = 5 ∨ k = 6 := by omega
  all_goals decide +kernel
theorem p2_in {f k : Nat} (hf : f < k) (hk : k < 7) : 1 ≤ 2 ^ f ∧ 2 ^ f ≤ 2 ^ k - 1 ∧ 2 ^ f ≤ 32 := by
  have h1 : 2 ^ (f + 1) ≤ 2 ^ k := Nat.pow_le_pow_right (by decide) (by omega)
  have h2 : 2 ^ f ≤ 2 ^ 5 := Nat.pow_le_pow_right (by decide) (by omega)
  have h3 : 0 < 2 ^ f := Nat.two_pow_pos _
  rw [Nat.pow_succ] at h1
  omega
theorem prev_pos (h : pI g n n4 n5) {R i f : Nat} (hi : i < n) (hf : f < nF g i) (hm : mayB g i (g 6 (R * 8 + i) ||| nI (2 ^ f)) (openT g n4 (nI R) (nI i)) = true) : ¬ prevN g n4 R i = 0 := by
  have hf7 := (h.f hi).2.2
  have hp := p2_in hf hf7
  have hq := p2_64 hf7
  unfold prevN
  rw [h.v hi, if_neg (by decide)]
  have e : sumN (fPrev g i (g 6 (R * 8 + i)) (openT g n4 (nI R) (nI i))) (2 ^ nF g i - 1) = nI (nS (fun k => bN (!decide (nI 2 < bc (nI (k + 1))) && mayB g i (g 6 (R * 8 + i) ||| nI (k + 1)) (openT g n4 (nI R) (nI i)))) (2 ^ nF g i - 1)) := sumN_nS fun k _ => by
    unfold fPrev bN
    cases (!decide (nI 2 < bc (nI (k + 1))) && mayB g i (g 6 (R * 8 + i) ||| nI (k + 1)) (openT g n4 (nI R) (nI i))) <;> rfl
  rw [e]
  have h1 := nS_at (f := fun k => bN (!decide (nI 2 < bc (nI (k + 1))) && mayB g i (g 6 (R * 8 + i) ||| nI (k + 1)) (openT g n4 (nI R) (nI i)))) (n := 2 ^ nF g i - 1) (k := 2 ^ f - 1) (by omega)
  have h2 := nS_b (f := fun k => bN (!decide (nI 2 < bc (nI (k + 1))) && mayB g i (g 6 (R * 8 + i) ||| nI (k + 1)) (openT g n4 (nI R) (nI i)))) (n := 2 ^ nF g i - 1) (b := 1) (fun k _ => by show bN _ ≤ 1; unfold bN; split <;> omega)
  have h3 : bN (!decide (nI 2 < bc (nI (2 ^ f - 1 + 1))) && mayB g i (g 6 (R * 8 + i) ||| nI (2 ^ f - 1 + 1)) (openT g n4 (nI R) (nI i))) = 1 := by
    rw [show 2 ^ f - 1 + 1 = 2 ^ f by omega, bc_1 (by omega), hm]; decide
  have h4 : 1 ≤ nS (fun k => bN (!decide (nI 2 < bc (nI (k + 1))) && mayB g i (g 6 (R * 8 + i) ||| nI (k + 1)) (openT g n4 (nI R) (nI i)))) (2 ^ nF g i - 1) := Nat.le_trans (Nat.le_of_eq h3.symm) h1
  exact nI_ne0 h4 (by omega)
theorem or_or9 (a b : Int32) : a ||| b ||| b = a ||| b := b_ext fun i _ => by rw [b_or, b_or, Bool.or_assoc, Bool.or_self]
theorem or_and9 (a b : Int32) : (a ||| b) &&& b = b := b_ext fun i _ => by rw [b_and, b_or]; cases bt a i <;> cases bt b i <;> rfl
theorem prev_seen {a : Int32} {f : Nat} (hf : f < 7) : ¬ (a ||| nI (2 ^ f)) &&& nI (2 ^ f) = 0 := by
  rw [or_and9]
  have h2 : 2 ^ f ≤ 2 ^ 6 := Nat.pow_le_pow_right (by decide) (by omega)
  exact nI_ne0 (Nat.two_pow_pos _) (by omega)
theorem prev_half {i : Nat} {a op : Int32} (hf : nF g i < 7) (hm : mayB g i a op = true) : ¬ nI (nF g i + 1) < nI 2 * bc a := by
  unfold mayB at hm
  rw [Bool.and_eq_true, decide_eq_true_eq] at hm
  have h1 := hm.1
  obtain ⟨b, hb, eb⟩ : ∃ b, b < 64 ∧ bc a = nI b := pk_andE (bc5 (bc4 (bc3 (bc2 (bc1 a))))) 6 (m := nI 63) (by decide)
  rw [eb] at h1 ⊢
  have h2 := (nI_leI (show b < 2 ^ 31 by omega) (show (nF g i + 1) / 2 < 2 ^ 31 by omega)).mp h1
  rw [pk_mul]
  exact nI_nlt (by omega) (by omega)
theorem prev_pos1 (h : pI g n n4 n5) {R i f : Nat} (hi : i < n) (hf : f < nF g i) (hm : mayB g i (g 6 (R * 8 + i) ||| nI (2 ^ f)) (openT g n4 (nI R) (nI i)) = true) : ¬ prevN (va_up g 6 (upd (g 6) (R * 8 + i) (g 6 (R * 8 + i) ||| nI (2 ^ f)))) n4 R i = 0 := by
  refine prev_pos (f := f) (pI_o (Or.inl rfl) h _) hi hf ?_
  show mayB g i (upd (g 6) (R * 8 + i) (g 6 (R * 8 + i) ||| nI (2 ^ f)) (R * 8 + i) ||| nI (2 ^ f)) (openT g n4 (nI R) (nI i)) = true
  rw [us, or_or9]; exact hm
theorem zmin_N {a b : Nat} (ha : a < 2 ^ 31) (hb : b < 2 ^ 31) : zmin (nI a) (nI b) = nI (min a b) := by
  unfold zmin
  by_cases h : b < a
  · rw [if_pos (nI_lt h ha), Nat.min_eq_right (Nat.le_of_lt h)]
  · rw [if_neg (nI_nlt (Nat.le_of_not_lt h) hb), Nat.min_eq_left (Nat.le_of_not_lt h)]
end BL
