/-! what the desk's calls answer, in terms of its numbers g -/
def sumN (f : Nat → Int32) : Nat → Int32
  | 0 => 0
  | n + 1 => sumN f n + f n
theorem sumN_s (f : Nat → Int32) (n : Nat) : sumN f (n + 1) = sumN f n + f n := rfl
def orN (f : Nat → Int32) : Nat → Int32
  | 0 => 0
  | n + 1 => orN f n ||| f n
theorem orN_s (f : Nat → Int32) (n : Nat) : orN f (n + 1) = orN f n ||| f n := rfl
def cn (x : Int32) : Nat := x.toNatClampNeg
/-- a number below b -/
def nb (x : Int32) (b : Nat) : Prop := x = nI (cn x) ∧ cn x < b
theorem nb_nI {k b : Nat} (h : k < b) (hb : b < 2 ^ 31) : nb (nI k) b := by
  have e : cn (nI k) = k := nI_clamp (by omega)
  exact ⟨by rw [e], by rw [e]; exact h⟩
theorem cn_nI {k : Nat} (h : k < 2 ^ 31) : cn (nI k) = k := nI_clamp h
def bc1 (x : Int32) : Int32 := x - ((x.toUInt32 >>> ((nI 1).toUInt32 &&& Int32.toUInt32 31)).toInt32 &&& 1431655765)
def bc2 (x : Int32) : Int32 := (x &&& 858993459) + ((x.toUInt32 >>> ((nI 2).toUInt32 &&& Int32.toUInt32 31)).toInt32 &&& 858993459)
def bc3 (x : Int32) : Int32 := (x + (x.toUInt32 >>> ((nI 4).toUInt32 &&& Int32.toUInt32 31)).toInt32) &&& 252645135
def bc4 (x : Int32) : Int32 := x + (x.toUInt32 >>> ((nI 8).toUInt32 &&& Int32.toUInt32 31)).toInt32
def bc5 (x : Int32) : Int32 := x + (x.toUInt32 >>> ((nI 16).toUInt32 &&& Int32.toUInt32 31)).toInt32
/-- how many bits -/
def bc (x : Int32) : Int32 := bc5 (bc4 (bc3 (bc2 (bc1 x)))) &&& nI 63
def tierN (u : Int32) : Int32 := if u < nI 20000 then (if u < nI 5000 then nI 4 else nI 3) else nI 2
def hasB (F : Int32) (f : Nat) : Bool := !decide (F >>> (nI f &&& 31) &&& nI 1 = 0)
def onB (g : Nat → Nat → Int32) (c : Nat) (d : Int32) : Bool := !decide (d < g 27 c) && !decide (g 28 c < d)
def forB (g : Nat → Nat → Int32) (c : Nat) (R S M d : Int32) : Bool := decide (g 23 c = R) && (decide (g 24 c = S) && (!decide (g 26 c &&& M = 0) && onB g c d))
def fOpen (g : Nat → Nat → Int32) (R S M d x : Int32) (c : Nat) : Int32 := if !decide (nI c = x) && forB g c R S M d then g 25 c else 0
def fOn (g : Nat → Nat → Int32) (R d : Int32) (c : Nat) : Int32 := if decide (g 23 c = R) && onB g c d then 1 else 0
def fUn (g : Nat → Nat → Int32) (R d : Int32) (r : Nat) : Int32 := if decide (g 29 r = R) && decide (g 35 r / nI 30 = d / nI 30) then g 33 r * bc (g 32 r) else 0
def ofB (g : Nat → Nat → Int32) (r : Nat) (R S : Int32) : Bool := (decide (R = -1) || decide (g 29 r = R)) && (decide (S = -1) || decide (g 30 r = S))
def chF (g : Nat → Nat → Int32) (r f : Nat) : Int32 := g 38 (r * 6 + f)
def chN (g : Nat → Nat → Int32) (r : Nat) : Int32 := sumN (chF g r) 6
def crF (g : Nat → Nat → Int32) (k r f : Nat) : Int32 := g 38 (r * 6 + f) * g k ((cn (g 30 r) * 6 + cn (g 31 r)) * 6 + f) / nI 100
def crN (g : Nat → Nat → Int32) (k r : Nat) : Int32 := sumN (crF g k r) 6
def fCnt (g : Nat → Nat → Int32) (R S : Int32) (r : Nat) : Int32 := if ofB g r R S then 1 else 0
def fCh (g : Nat → Nat → Int32) (R S : Int32) (r : Nat) : Int32 := if ofB g r R S then chN g r else 0
def fCr (g : Nat → Nat → Int32) (R S : Int32) (k r : Nat) : Int32 := if ofB g r R S then crN g k r else 0
def fBil (g : Nat → Nat → Int32) (R : Int32) (r : Nat) : Int32 := if ofB g r R (-1) then g 37 r else 0
def fDue (g : Nat → Nat → Int32) (R : Int32) (k r : Nat) : Int32 := if ofB g r R (-1) then chN g r - crN g k r - g 37 r else 0
/-- each read's set and version -/
def rdOk (g : Nat → Nat → Int32) (n : Nat) : Prop := g 5 0 = nI n ∧ n ≤ 40 ∧ ∀ r, r < n → nb (g 30 r) 8 ∧ nb (g 31 r) 6
def nF (g : Nat → Nat → Int32) (i : Nat) : Nat := cn (g 7 i)
def nV (g : Nat → Nat → Int32) (i : Nat) : Nat := cn (g 8 i)
def allF (g : Nat → Nat → Int32) (i : Nat) : Int32 := (nI 1 <<< (nI (nF g i) &&& 31)) - nI 1
def rowsL (g : Nat → Nat → Int32) (i : Nat) : Int32 := if nV g i = 0 then nI 0 else g 9 (i * 6 + (nV g i - 1))
def plc (i v f : Nat) : Nat := (i * 6 + v) * 6 + f
def hfF (g : Nat → Nat → Int32) (i f : Nat) : Int32 := if g 21 ((i * 6 + (nV g i - 1)) * 6 + f) ≤ 0 then 0 else 1
def harmedN (g : Nat → Nat → Int32) (i : Nat) : Int32 := if nV g i = 0 then nI 0 else sumN (hfF g i) (nF g i)
def openT (g : Nat → Nat → Int32) (n4 : Nat) (R S : Int32) : Int32 := orN (fOpen g R S (nI 15) (g 0 0) (-1)) n4
def mayB (g : Nat → Nat → Int32) (i : Nat) (seen op : Int32) : Bool := decide (bc seen ≤ nI ((nF g i + 1) / 2)) && (decide (op = allF g i) || !decide (seen ||| op = allF g i))
def needB (g : Nat → Nat → Int32) (n4 r c0 : Nat) : Bool := forB g c0 (g 29 r) (g 30 r) (nI 1 <<< (g 34 r &&& 31)) (g 35 r) && !decide (g 32 r &&& g 25 c0 &&& (orN (fOpen g (g 29 r) (g 30 r) (nI 1 <<< (g 34 r &&& 31)) (g 35 r) (nI c0)) n4 ^^^ (-1)) = 0)
def fNeed (g : Nat → Nat → Int32) (n4 c0 r : Nat) : Int32 := if needB g n4 r c0 then 1 else 0
def qtF (g : Nat → Nat → Int32) (i : Nat) (F rows t : Int32) (f : Nat) : Int32 := if hasB F f then rows * g 10 (i * 6 + f) * t / nI 400 else 0
def fPrev (g : Nat → Nat → Int32) (i : Nat) (b op : Int32) (k : Nat) : Int32 := if !decide (nI 2 < bc (nI (k + 1))) && mayB g i (b ||| nI (k + 1)) op then 1 else 0
def prevN (g : Nat → Nat → Int32) (n4 R i : Nat) : Int32 := if nV g i = 0 then nI 0 else sumN (fPrev g i (g 6 (R * 8 + i)) (openT g n4 (nI R) (nI i))) (2 ^ nF g i - 1)
def manyN (g : Nat → Nat → Int32) (n1 n5 w : Nat) : Int32 := match w with
  | 0 => g 1 0
  | 1 => sumN (g 8) n1
  | 2 => g 2 0
  | 3 => g 4 0
  | 4 => g 5 0
  | 5 => sumN (fCh g (-1) (-1)) n5
  | 6 => sumN (fCr g (-1) (-1) 21) n5
  | 7 => sumN (fBil g (-1)) n5
  | _ => g 0 0
def ofSetN (g : Nat → Nat → Int32) (n5 i w : Nat) : Int32 := match w with
  | 0 => g 7 i
  | 1 => g 8 i
  | 2 => rowsL g i
  | 3 => harmedN g i
  | 4 => sumN (fCnt g (-1) (nI i)) n5
  | 5 => sumN (fCh g (-1) (nI i)) n5
  | _ => sumN (fCr g (-1) (nI i) 21) n5
def ofReadN (g : Nat → Nat → Int32) (r w : Nat) : Int32 := match w with
  | 0 => g 29 r
  | 1 => g 30 r
  | 2 => g 31 r
  | 3 => g 32 r
  | 4 => g 33 r
  | 5 => g 35 r
  | 6 => g 33 r * bc (g 32 r)
  | 7 => g 36 r
  | 8 => chN g r
  | 9 => crN g 21 r
  | 10 => g 37 r
  | _ => g 34 r
def ofReaderN (g : Nat → Nat → Int32) (n4 n5 R w : Nat) : Int32 := match w with
  | 0 => sumN (fUn g (nI R) (g 0 0)) n5
  | 1 => sumN (fCnt g (nI R) (-1)) n5
  | 2 => sumN (fCh g (nI R) (-1)) n5
  | 3 => sumN (fCr g (nI R) (-1) 21) n5
  | 4 => sumN (fBil g (nI R)) n5
  | 5 => sumN (fDue g (nI R) 21) n5
  | _ => sumN (fOn g (nI R) (g 0 0)) n4
/-- what always holds of the desk's numbers -/
def dI (g : Nat → Nat → Int32) (n1 n2 nL n4 n5 : Nat) : Prop :=
  (g 1 0 = nI n1 ∧ n1 ≤ 8) ∧ (∀ i, i < n1 → nb (g 7 i) 7 ∧ nb (g 8 i) 7 ∧ 0 < nF g i) ∧
  (g 2 0 = nI n2 ∧ n2 ≤ 20) ∧ (∀ j, j < n2 → nb (g 12 j) 48 ∧ nb (g 13 j) 48 ∧ cn (g 12 j) / 6 < n1 ∧ cn (g 13 j) / 6 < cn (g 12 j) / 6) ∧
  (g 2 1 = nI nL ∧ nL ≤ 120) ∧ (∀ j, j < nL → nb (g 15 j) 288 ∧ nb (g 16 j) 288) ∧
  (g 4 0 = nI n4 ∧ n4 ≤ 16) ∧ (g 5 0 = nI n5 ∧ n5 ≤ 40) ∧ (∀ r, r < n5 → nb (g 30 r) 8 ∧ nb (g 31 r) 6) ∧ nb (g 0 0) 360
theorem p2_64 {k : Nat} (h : k < 7) : 2 ^ k - 1 < 64 := by
  obtain rfl | rfl | rfl | rfl | rfl | rfl | rfl : k = 0 ∨ k = 1 ∨ k = 2 ∨ k = 3 ∨ k = 4 ∨ k = 5 ∨ k = 6 := by omega
  all_goals decide
theorem allF_nat {g : Nat → Nat → Int32} {i : Nat} (h : nF g i < 7) : allF g i = nI (2 ^ nF g i - 1) := by
  unfold allF
  generalize nF g i = k at h
  obtain rfl | rfl | rfl | rfl | rfl | rfl | rfl : k = 0 ∨ k = 1 ∨ k = 2 ∨ k = 3 ∨ k = 4 ∨ k = 5 ∨ k = 6 := by omega
  all_goals decide
/-! what the desk's calls write -/
def rng (f : Nat → Int32) (a n : Nat) (v : Int32) : Nat → Int32 := fun j => if a ≤ j ∧ j < a + n then v else f j
theorem rng_0 (f : Nat → Int32) (a : Nat) (v : Int32) : rng f a 0 v = f := by
  funext j; unfold rng; rw [if_neg (by omega)]
theorem rng_s (f : Nat → Int32) (a n : Nat) (v : Int32) : upd (rng f a n v) (a + n) v = rng f a (n + 1) v := by
  funext j; unfold upd rng
  by_cases h : j = a + n
  · rw [if_pos h, if_pos (by omega)]
  · rw [if_neg h]
    by_cases h2 : a ≤ j ∧ j < a + n
    · rw [if_pos h2, if_pos (by omega)]
    · rw [if_neg h2, if_neg (by omega)]
def cpy (f h : Nat → Int32) (n : Nat) : Nat → Int32 := fun j => if j < n then f j else h j
theorem cpy_0 (f h : Nat → Int32) : cpy f h 0 = h := by funext j; unfold cpy; rw [if_neg (by omega)]
theorem cpy_s (f h : Nat → Int32) (n : Nat) : upd (cpy f h n) n (f n) = cpy f h (n + 1) := by
  funext j; unfold upd cpy
  by_cases e : j = n
  · subst e; rw [if_pos rfl, if_pos (by omega)]
  · rw [if_neg e]
    by_cases h2 : j < n
    · rw [if_pos h2, if_pos (by omega)]
    · rw [if_neg h2, if_neg (by omega)]
theorem vu_self {f : Nat → Nat → Int32} (k : Nat) : va_up f k (f k) = f := by
  funext j; unfold va_up; by_cases h : j = k
  · rw [if_pos h, h]
  · rw [if_neg h]
theorem vu_2 {α : Type} (f : Nat → α) (k : Nat) (x y : α) : va_up (va_up f k x) k y = va_up f k y := by
  funext j; unfold va_up; by_cases h : j = k
  · rw [if_pos h, if_pos h]
  · rw [if_neg h, if_neg h, if_neg h]
theorem vu_c {α : Type} (f : Nat → α) {a b : Nat} (h : a ≠ b) (x y : α) : va_up (va_up f a x) b y = va_up (va_up f b y) a x := by
  funext j; unfold va_up; by_cases e1 : j = a <;> by_cases e2 : j = b
  · omega
  · rw [if_neg e2, if_pos e1, if_pos e1]
  · rw [if_pos e2, if_neg e1, if_pos e2]
  · rw [if_neg e2, if_neg e1, if_neg e1, if_neg e2]
theorem vu_4 {α : Type} (f : Nat → α) {a b : Nat} (h : a ≠ b) (x y x' y' : α) : va_up (va_up (va_up (va_up f a x) b y) a x') b y' = va_up (va_up f a x') b y' := by
  rw [vu_c (va_up f a x) h.symm y x', vu_2, vu_2]
theorem upd_2 (f : Nat → Int32) (k : Nat) (x y : Int32) : upd (upd f k x) k y = upd f k y := by
  funext j; unfold upd; by_cases h : j = k
  · rw [if_pos h, if_pos h]
  · rw [if_neg h, if_neg h, if_neg h]
def csS (g : Nat → Nat → Int32) (h : Nat → Int32) (i : Nat) : Nat → Int32 := upd h (cn (g 15 i)) (zmax (h (cn (g 15 i))) (h (cn (g 16 i)) * g 17 i / nI 100))
/-- along the links, in their order -/
def carN (g : Nat → Nat → Int32) (h : Nat → Int32) : Nat → (Nat → Int32)
  | 0 => h
  | n + 1 => csS g (carN g h n) n
def setlN (g : Nat → Nat → Int32) (nL : Nat) : Nat → Int32 := carN g (cpy (g 19) (g 21) 288) nL
def tryN (g : Nat → Nat → Int32) (nL p : Nat) (x : Int32) : Nat → Int32 := carN g (upd (cpy (g 19) (g 22) 288) p (zmax (cpy (g 19) (g 22) 288 p) x)) nL
def rch0 (s : Nat) (h : Nat → Int32) (n : Nat) : Nat → Int32 := fun j => if j < n then bI (decide (j = s)) else h j
theorem rch0_0 (s : Nat) (h : Nat → Int32) : rch0 s h 0 = h := by funext j; unfold rch0; rw [if_neg (by omega)]
theorem rch0_s (s : Nat) (h : Nat → Int32) (n : Nat) : upd (rch0 s h n) n (bI (decide (n = s))) = rch0 s h (n + 1) := by
  funext j; unfold upd rch0
  by_cases e : j = n
  · subst e; rw [if_pos rfl, if_pos (by omega)]
  · rw [if_neg e]
    by_cases h2 : j < n
    · rw [if_pos h2, if_pos (by omega)]
    · rw [if_neg h2, if_neg (by omega)]
/-- one link, walked back -/
def rchS (g : Nat → Nat → Int32) (h : Nat → Int32) (i : Nat) : Nat → Int32 := if h (cn (g 15 i)) = 0 then h else upd h (cn (g 16 i)) (nI 1)
/-- the links from nL on down, k of them -/
def rchN (g : Nat → Nat → Int32) (h : Nat → Int32) (nL : Nat) : Nat → (Nat → Int32)
  | 0 => h
  | k + 1 => rchS g (rchN g h nL k) (nL - 1 - k)
def addLnk (G : Nat → Nat → Int32) (c p sh : Int32) : Nat → Nat → Int32 :=
  if cn (G 2 1) < 120 then va_up (va_up (va_up (va_up G 15 (upd (G 15) (cn (G 2 1)) c)) 16 (upd (G 16) (cn (G 2 1)) p)) 17 (upd (G 17) (cn (G 2 1)) sh)) 2 (upd (G 2) 1 (nI (cn (G 2 1) + 1))) else G
def lkS (i v : Nat) (G : Nat → Nat → Int32) (j : Nat) : Nat → Nat → Int32 :=
  if cn (G 12 j) / 6 = i ∧ 0 < nV G (cn (G 13 j) / 6) then addLnk G (nI (plc i v (cn (G 12 j) % 6))) (nI (plc (cn (G 13 j) / 6) (nV G (cn (G 13 j) / 6) - 1) (cn (G 13 j) % 6))) (G 14 j) else G
/-- the links that a version brings -/
def lkN (i v : Nat) (g : Nat → Nat → Int32) : Nat → (Nat → Nat → Int32)
  | 0 => g
  | j + 1 => lkS i v (lkN i v g j) j
def bilN (g : Nat → Nat → Int32) (R : Int32) (n : Nat) : Nat → Int32 := fun r => if r < n ∧ ofB g r R (-1) = true then chN g r - crN g 21 r else g 37 r
def setG (g : Nat → Nat → Int32) (n1 k : Nat) : Nat → Nat → Int32 := va_up (va_up (va_up (va_up g 7 (upd (g 7) n1 (nI k))) 10 (rng (g 10) (n1 * 6) k (nI 10))) 11 (rng (g 11) (n1 * 6) k (nI 1000))) 1 (upd (g 1) 0 (nI (n1 + 1)))
theorem carN_vu {g : Nat → Nat → Int32} {k : Nat} (h15 : k ≠ 15) (h16 : k ≠ 16) (h17 : k ≠ 17) (x h : Nat → Int32) (n : Nat) : carN (va_up g k x) h n = carN g h n := by
  have e1 : va_up g k x 15 = g 15 := if_neg (fun e => h15 e.symm)
  have e2 : va_up g k x 16 = g 16 := if_neg (fun e => h16 e.symm)
  have e3 : va_up g k x 17 = g 17 := if_neg (fun e => h17 e.symm)
  induction n with
  | zero => rfl
  | succ n ih => show csS _ _ n = csS _ _ n; rw [ih]; unfold csS; rw [e1, e2, e3]
theorem addLnk_r {G : Nat → Nat → Int32} {c p sh : Int32} {k : Nat} (h : k ≠ 15 ∧ k ≠ 16 ∧ k ≠ 17 ∧ k ≠ 2) : addLnk G c p sh k = G k := by
  unfold addLnk
  split
  · unfold va_up; rw [if_neg h.2.2.2, if_neg h.2.2.1, if_neg h.2.1, if_neg h.1]
  · rfl
theorem addLnk_0 {G : Nat → Nat → Int32} {c p sh : Int32} : addLnk G c p sh 2 0 = G 2 0 := by
  unfold addLnk
  split
  · rfl
  · rfl
theorem addLnk_n {G : Nat → Nat → Int32} {c p sh : Int32} (h : nb (G 2 1) 121) : nb (addLnk G c p sh 2 1) 121 := by
  unfold addLnk
  split
  · rename_i h1
    show nb (nI (cn (G 2 1) + 1)) 121
    exact nb_nI (by omega) (by decide)
  · exact h
theorem lkS_r {i v j : Nat} {G : Nat → Nat → Int32} {k : Nat} (h : k ≠ 15 ∧ k ≠ 16 ∧ k ≠ 17 ∧ k ≠ 2) : lkS i v G j k = G k := by
  unfold lkS; split
  · exact addLnk_r h
  · rfl
theorem lkN_r {i v n : Nat} {g : Nat → Nat → Int32} {k : Nat} (h : k ≠ 15 ∧ k ≠ 16 ∧ k ≠ 17 ∧ k ≠ 2) : lkN i v g n k = g k := by
  induction n with
  | zero => rfl
  | succ n ih => exact (lkS_r h).trans ih
theorem lkN_0 {i v n : Nat} {g : Nat → Nat → Int32} : lkN i v g n 2 0 = g 2 0 := by
  induction n with
  | zero => rfl
  | succ n ih =>
    show lkS i v (lkN i v g n) n 2 0 = _
    unfold lkS; split
    · exact addLnk_0.trans ih
    · exact ih
theorem lkN_n {i v n : Nat} {g : Nat → Nat → Int32} (h : nb (g 2 1) 121) : nb (lkN i v g n 2 1) 121 := by
  induction n with
  | zero => exact h
  | succ n ih =>
    show nb (lkS i v (lkN i v g n) n 2 1) 121
    unfold lkS; split
    · exact addLnk_n ih
    · exact ih
theorem bilN_0 (g : Nat → Nat → Int32) (x : Int32) : bilN g x 0 = g 37 := by
  funext r; unfold bilN; rw [if_neg (by omega)]
theorem bilN_y {g : Nat → Nat → Int32} {x : Int32} {n : Nat} (h : ofB g n x (-1) = true) : upd (bilN g x n) n (chN g n - crN g 21 n) = bilN g x (n + 1) := by
  funext r; unfold upd bilN
  by_cases e : r = n
  · subst e; rw [if_pos rfl, if_pos ⟨by omega, h⟩]
  · rw [if_neg e]
    by_cases h2 : r < n ∧ ofB g r x (-1) = true
    · rw [if_pos h2, if_pos ⟨by omega, h2.2⟩]
    · rw [if_neg h2, if_neg (fun q => h2 ⟨by omega, q.2⟩)]
theorem bilN_n {g : Nat → Nat → Int32} {x : Int32} {n : Nat} (h : ofB g n x (-1) = false) : bilN g x n = bilN g x (n + 1) := by
  funext r; unfold bilN
  by_cases h2 : r < n ∧ ofB g r x (-1) = true
  · rw [if_pos h2, if_pos ⟨by omega, h2.2⟩]
  · rw [if_neg h2, if_neg (fun q => by
      by_cases e : r = n
      · subst e; rw [h] at q; cases q.2
      · exact h2 ⟨by omega, q.2⟩)]
