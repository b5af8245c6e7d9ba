theorem cov_op2 {g : Nat → Nat → Int32} {c c0 : Nat} {R S P d : Int32} (h : c < 16) (h0 : c0 < 16) (hne : c ≠ c0) : fOpen g R S (nI 1 <<< (P &&& 31)) d (nI c0) c = covN g c R S P d := by
  unfold fOpen covN
  rw [decide_eq_false (fun e => hne ((nI_eq (show c < 2 ^ 31 by omega) (by omega)).mp e)), Bool.not_false, Bool.true_and]
theorem cov_op0 {g : Nat → Nat → Int32} {c c0 : Nat} {R S M d : Int32} (e : c = c0) : fOpen g R S M d (nI c0) c = 0 := by
  unfold fOpen
  rw [e, decide_eq_true rfl, Bool.not_true, Bool.false_and]; rfl
theorem and_z (x y : Int32) : x &&& 0 &&& y = 0 := b_ext fun i _ => by rw [b_and, b_and, b_0, Bool.and_false, Bool.false_and]
/-- a read that needs the contract, as the model asks it -/
def fNd (g : Nat → Nat → Int32) (n4 c0 r : Nat) : Int32 := if !decide (g 32 r &&& covN g c0 (g 29 r) (g 30 r) (g 34 r) (g 35 r) &&& (orN (fOpen g (g 29 r) (g 30 r) (nI 1 <<< (g 34 r &&& 31)) (g 35 r) (nI c0)) n4 ^^^ (-1)) = 0) then 1 else 0
theorem fNd_e (g : Nat → Nat → Int32) (n4 c0 : Nat) : fNd g n4 c0 = fNeed g n4 c0 := by
  funext r
  unfold fNd fNeed needB covN
  cases hF : forB g c0 (g 29 r) (g 30 r) (nI 1 <<< (g 34 r &&& 31)) (g 35 r)
  · simp only [Bool.false_eq_true, if_false, Bool.false_and, and_z, decide_true, Bool.not_true]
  · simp only [if_true, Bool.true_and]
/-- a preview that is possible, as the model asks it -/
def fPv (g : Nat → Nat → Int32) (n4 R i k : Nat) : Int32 := if !decide (nI 2 < bc (nI (k + 1))) && (!decide (nV g i = 0) && mayB g i (g 6 (R * 8 + i) ||| nI (k + 1)) (openT g n4 (nI R) (nI i))) then 1 else 0
theorem sumN_0 (n : Nat) : sumN (fun _ => 0) n = 0 := by
  induction n with
  | zero => rfl
  | succ n ih => rw [sumN_s, ih]; rfl
theorem fPv_e (g : Nat → Nat → Int32) (n4 R i : Nat) : sumN (fPv g n4 R i) (2 ^ nF g i - 1) = prevN g n4 R i := by
  unfold prevN
  by_cases h : nV g i = 0
  · rw [if_pos h]
    have e : fPv g n4 R i = fun _ => 0 := by
      funext k; unfold fPv
      rw [decide_eq_true h, Bool.not_true, Bool.false_and, Bool.and_false]; rfl
    rw [e, sumN_0]; rfl
  · rw [if_neg h]
    refine sumN_c fun k _ => ?_
    unfold fPv fPrev
    rw [decide_eq_false h, Bool.not_false, Bool.true_and]
theorem ofB_s {g : Nat → Nat → Int32} {r i : Nat} (hi : i < 8) : ofB g r (-1) (nI i) = decide (g 30 r = nI i) := by
  unfold ofB
  rw [decide_eq_true rfl, decide_eq_false (nI_ne_m1 (show i < 2 ^ 31 by omega))]
  simp only [Bool.true_or, Bool.true_and, Bool.false_or]
theorem ofB_r {g : Nat → Nat → Int32} {r R : Nat} (hR : R < 6) : ofB g r (nI R) (-1) = decide (g 29 r = nI R) := by
  unfold ofB
  rw [decide_eq_true (show (-1 : Int32) = -1 from rfl), decide_eq_false (nI_ne_m1 (show R < 2 ^ 31 by omega))]
  simp only [Bool.true_or, Bool.and_true, Bool.false_or]
theorem ofB_a {g : Nat → Nat → Int32} {r : Nat} : ofB g r (-1) (-1) = true := by
  unfold ofB; rw [decide_eq_true rfl]; rfl
