def bt (x : Int32) (i : Nat) : Bool := x.toBitVec.getLsbD i
theorem b_ext {x y : Int32} (h : ∀ i, i < 32 → bt x i = bt y i) : x = y := Int32.toBitVec_inj.mp (BitVec.eq_of_getLsbD_eq (fun i hi => h i hi))
theorem b_or (x y : Int32) (i : Nat) : bt (x ||| y) i = (bt x i || bt y i) := by unfold bt; rw [Int32.toBitVec_or, BitVec.getLsbD_or]
theorem b_and (x y : Int32) (i : Nat) : bt (x &&& y) i = (bt x i && bt y i) := by unfold bt; rw [Int32.toBitVec_and, BitVec.getLsbD_and]
theorem b_xor (x y : Int32) (i : Nat) : bt (x ^^^ y) i = (bt x i ^^ bt y i) := by unfold bt; rw [Int32.toBitVec_xor, BitVec.getLsbD_xor]
theorem b_big {x : Int32} {i : Nat} (h : 32 ≤ i) : bt x i = false := BitVec.getLsbD_of_ge _ _ h
theorem b_m1 : ∀ i, i < 32 → bt (-1) i = true := by decide +kernel
theorem b_0 (i : Nat) : bt 0 i = false := BitVec.getLsbD_zero
theorem s_l : ∀ n, n < 32 → ((nI n &&& 31).toBitVec.smod 32).toNat = n := by decide +kernel
theorem s_u : ∀ n, n < 32 → (((nI n).toUInt32 &&& Int32.toUInt32 31).toBitVec % 32).toNat = n := by decide +kernel
theorem b_shl (n : Nat) (hn : n < 32) (x : Int32) {i : Nat} (hi : i < 32) : bt (x <<< (nI n &&& 31)) i = (decide (n ≤ i) && bt x (i - n)) := by
  unfold bt
  rw [Int32.toBitVec_shiftLeft]
  show (x.toBitVec <<< ((nI n &&& 31).toBitVec.smod 32).toNat).getLsbD i = _
  rw [s_l n hn, BitVec.getLsbD_shiftLeft]
  rcases Nat.lt_or_ge i n with h | h
  · simp [h, Nat.not_le.mpr h]
  · simp [hi, h, Nat.not_lt.mpr h]
theorem b_sshr (n : Nat) (hn : n < 32) (x : Int32) {i : Nat} (hi : i < 32) : bt (x >>> (nI n &&& 31)) i = if n + i < 32 then bt x (n + i) else bt x 31 := by
  unfold bt
  rw [Int32.toBitVec_shiftRight]
  show (x.toBitVec.sshiftRight ((nI n &&& 31).toBitVec.smod 32).toNat).getLsbD i = _
  rw [s_l n hn, BitVec.getLsbD_sshiftRight, BitVec.msb_eq_getLsbD_last]
  simp [hi]
theorem b_1 : ∀ i, i < 32 → bt (nI 1) i = decide (i = 0) := by decide +kernel
theorem b_15 : ∀ i, i < 32 → bt (nI 15) i = decide (i < 4) := by decide +kernel
theorem s_31 : ∀ l, l < 32 → nI l &&& 31 = nI l := by decide +kernel
theorem and0 {x y : Int32} : x &&& y = 0 ↔ ∀ i, i < 32 → bt x i = true → bt y i = false := by
  constructor
  · intro h i hi hx
    have k := b_and x y i
    rw [h, b_0, hx, Bool.true_and] at k
    exact k.symm
  · intro h
    refine b_ext fun i hi => ?_
    rw [b_and, b_0]
    cases hx : bt x i
    · rfl
    · rw [h i hi hx]; rfl
theorem sh1 {l i : Nat} (hl : l < 32) (hi : i < 32) : bt (nI 1 <<< nI l) i = decide (i = l) := by
  have k := b_shl l hl (nI 1) hi
  rw [s_31 l hl] at k
  rw [k]
  by_cases e : l ≤ i
  · rw [b_1 _ (by omega), decide_eq_true e, Bool.true_and]
    by_cases q : i = l
    · subst q; simp
    · rw [decide_eq_false q, decide_eq_false (by omega)]
  · rw [decide_eq_false e, Bool.false_and, decide_eq_false (by omega)]
/-- one bit, asked in two ways -/
theorem bitE {p : Int32} {l : Nat} (hl : l < 32) : (p &&& (nI 1 <<< nI l) = 0 ↔ bt p l = false) ∧ ((p >>> nI l) &&& nI 1 = nI 1 ↔ bt p l = true) := by
  constructor
  · rw [and0]
    constructor
    · intro h
      cases hb : bt p l
      · rfl
      · have k := h l hl hb
        rw [sh1 hl hl, decide_eq_true rfl] at k; cases k
    · intro h i hi hp
      rw [sh1 hl hi]
      by_cases e : i = l
      · rw [e, h] at hp; cases hp
      · exact decide_eq_false e
  · have e : ∀ i, i < 32 → bt ((p >>> nI l) &&& nI 1) i = (decide (i = 0) && bt p l) := by
      intro i hi
      rw [b_and, b_1 i hi]
      by_cases q : i = 0
      · subst q
        have k := b_sshr l hl p (i := 0) (by decide)
        rw [s_31 l hl, Nat.add_zero, if_pos hl] at k
        rw [k, decide_eq_true rfl, Bool.and_true, Bool.true_and]
      · rw [decide_eq_false q, Bool.and_false, Bool.false_and]
    constructor
    · intro h
      have k := e 0 (by decide)
      rw [h, b_1 0 (by decide), decide_eq_true rfl, Bool.true_and] at k
      exact k.symm
    · intro h
      refine b_ext fun i hi => ?_
      rw [e i hi, h, Bool.and_true, b_1 i hi]
theorem m31 (P : Int32) : ∃ l, l < 32 ∧ P &&& 31 = nI l := pk_andE P 5 (by decide)
theorem bitP {p P : Int32} : (p >>> (P &&& 31)) &&& nI 1 = nI 1 ↔ ¬ p &&& (nI 1 <<< (P &&& 31)) = 0 := by
  obtain ⟨l, hl, e⟩ := m31 P
  rw [e, (bitE hl).1, (bitE hl).2]
  cases bt p l <;> simp
theorem bitN {p P : Int32} (h : ¬ (p >>> (P &&& 31)) &&& nI 1 = nI 1) : p &&& (nI 1 <<< (P &&& 31)) = 0 := Decidable.not_not.mp fun k => h (bitP.mpr k)
theorem bit15 {p : Int32} : p &&& nI 15 = 0 ↔ bt p 0 = false ∧ bt p 1 = false ∧ bt p 2 = false ∧ bt p 3 = false := by
  rw [and0]
  constructor
  · intro h
    have key : ∀ i, i < 4 → bt p i = false := fun i hi => by
      cases hb : bt p i
      · rfl
      · have k := h i (by omega) hb
        rw [b_15 i (by omega), decide_eq_true hi] at k; cases k
    exact ⟨key 0 (by decide), key 1 (by decide), key 2 (by decide), key 3 (by decide)⟩
  · rintro ⟨h0, h1, h2, h3⟩ i hi hp
    rw [b_15 i hi]
    refine decide_eq_false fun q => ?_
    rcases (show i = 0 ∨ i = 1 ∨ i = 2 ∨ i = 3 by omega) with e | e | e | e <;> rw [e] at hp
    · rw [h0] at hp; cases hp
    · rw [h1] at hp; cases hp
    · rw [h2] at hp; cases hp
    · rw [h3] at hp; cases hp
theorem or_0 (x : Int32) : x ||| 0 = x := b_ext fun i _ => by rw [b_or, b_0, Bool.or_false]
theorem or_00 (x : Int32) : 0 ||| x = x := b_ext fun i _ => by rw [b_or, b_0, Bool.false_or]
theorem or_s (x : Int32) : x ||| x = x := b_ext fun i _ => by rw [b_or, Bool.or_self]
theorem or_a (x y z : Int32) : x ||| y ||| z = x ||| (y ||| z) := b_ext fun i _ => by rw [b_or, b_or, b_or, b_or, Bool.or_assoc]
theorem or_c (x y : Int32) : x ||| y = y ||| x := b_ext fun i _ => by rw [b_or, b_or, Bool.or_comm]
/-- what the contract c covers -/
def covN (g : Nat → Nat → Int32) (c : Nat) (R S P d : Int32) : Int32 := if forB g c R S (nI 1 <<< (P &&& 31)) d then g 25 c else 0
theorem cov_op {g : Nat → Nat → Int32} {c : Nat} {R S P d : Int32} (h : c < 16) : fOpen g R S (nI 1 <<< (P &&& 31)) d (-1) c = covN g c R S P d := by
  unfold fOpen covN
  rw [decide_eq_false (nI_ne_m1 (show c < 2 ^ 31 by omega)), Bool.not_false, Bool.true_and]
/-- what is covered for a purpose -/
def covP (g : Nat → Nat → Int32) (n4 : Nat) (R S d P : Int32) : Int32 := orN (fOpen g R S (nI 1 <<< (P &&& 31)) d (-1)) n4
theorem orN_or (f h : Nat → Int32) (n : Nat) : orN (fun c => f c ||| h c) n = orN f n ||| orN h n := by
  induction n with
  | zero => exact (or_0 0).symm
  | succ n ih =>
    rw [orN_s, orN_s, orN_s, ih]
    refine b_ext fun i _ => ?_
    simp only [b_or]
    cases bt (orN f n) i <;> cases bt (f n) i <;> cases bt (orN h n) i <;> cases bt (h n) i <;> rfl
theorem orN_c {f h : Nat → Int32} {n : Nat} (e : ∀ c, c < n → f c = h c) : orN f n = orN h n := by
  induction n with
  | zero => rfl
  | succ n ih => rw [orN_s, orN_s, ih (fun c hc => e c (by omega)), e n (by omega)]
theorem sumN_c {f h : Nat → Int32} {n : Nat} (e : ∀ c, c < n → f c = h c) : sumN f n = sumN h n := by
  induction n with
  | zero => rfl
  | succ n ih => rw [sumN_s, sumN_s, ih (fun c hc => e c (by omega)), e n (by omega)]
theorem decN {p : Prop} [Decidable p] {b : Bool} (h : p ↔ b = false) : decide p = !b := by
  cases b
  · exact decide_eq_true (h.mpr rfl)
  · exact decide_eq_false (fun k => nomatch h.mp k)
/-- each for some purpose -/
theorem open4 (g : Nat → Nat → Int32) (n4 : Nat) (R S d : Int32) : orN (fun P => covP g n4 R S d (nI P)) 4 = orN (fOpen g R S (nI 15) d (-1)) n4 := by
  show (((0 ||| covP g n4 R S d (nI 0)) ||| covP g n4 R S d (nI 1)) ||| covP g n4 R S d (nI 2)) ||| covP g n4 R S d (nI 3) = _
  unfold covP
  rw [or_00, ← orN_or, ← orN_or, ← orN_or]
  refine orN_c fun c _ => ?_
  have e0 : nI 0 &&& 31 = nI 0 := s_31 0 (by decide)
  have e1 : nI 1 &&& 31 = nI 1 := s_31 1 (by decide)
  have e2 : nI 2 &&& 31 = nI 2 := s_31 2 (by decide)
  have e3 : nI 3 &&& 31 = nI 3 := s_31 3 (by decide)
  rw [e0, e1, e2, e3]
  have dd : ∀ l, l < 32 → decide (g 26 c &&& (nI 1 <<< nI l) = 0) = !bt (g 26 c) l := fun l hl => decN (bitE (p := g 26 c) hl).1
  have d15 : decide (g 26 c &&& nI 15 = 0) = !(bt (g 26 c) 0 || bt (g 26 c) 1 || bt (g 26 c) 2 || bt (g 26 c) 3) := decN (by rw [bit15 (p := g 26 c)]; simp only [Bool.or_eq_false_iff, and_assoc])
  unfold fOpen forB
  rw [dd 0 (by decide), dd 1 (by decide), dd 2 (by decide), dd 3 (by decide), d15]
  cases decide (nI c = -1) <;> cases decide (g 23 c = R) <;> cases decide (g 24 c = S) <;> cases onB g c d <;> cases bt (g 26 c) 0 <;> cases bt (g 26 c) 1 <;> cases bt (g 26 c) 2 <;> cases bt (g 26 c) 3 <;> simp [or_0, or_00, or_s]
