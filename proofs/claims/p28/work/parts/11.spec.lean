/-! what the desk's calls answer, in terms of its numbers g -/
def sumN (f : Nat → Int32) : Nat → Int32
  | 0 => 0
  | n + 1 => sumN f n + f n
theorem sumN_s (f : Nat → Int32) (n : Nat) : sumN f (n + 1) = sumN f n + f n := rfl
def orN (f : Nat → Int32) : Nat → Int32
  | 0 => 0
  | n + 1 => orN f n ||| f n
theorem orN_s (f : Nat → Int32) (n : Nat) : orN f (n + 1) = orN f n ||| f n := rfl
def cn (x : Int32) : Nat := x.toNatClampNeg
/-- a number below b -/
def nb (x : Int32) (b : Nat) : Prop := x = nI (cn x) ∧ cn x < b
theorem nb_nI {k b : Nat} (h : k < b) (hb : b < 2 ^ 31) : nb (nI k) b := by
  have e : cn (nI k) = k := nI_clamp (by omega)
  exact ⟨by rw [e], by rw [e]; exact h⟩
theorem cn_nI {k : Nat} (h : k < 2 ^ 31) : cn (nI k) = k := nI_clamp h
def bc1 (x : Int32) : Int32 := x - ((x.toUInt32 >>> ((nI 1).toUInt32 &&& Int32.toUInt32 31)).toInt32 &&& 1431655765)
def bc2 (x : Int32) : Int32 := (x &&& 858993459) + ((x.toUInt32 >>> ((nI 2).toUInt32 &&& Int32.toUInt32 31)).toInt32 &&& 858993459)
def bc3 (x : Int32) : Int32 := (x + (x.toUInt32 >>> ((nI 4).toUInt32 &&& Int32.toUInt32 31)).toInt32) &&& 252645135
def bc4 (x : Int32) : Int32 := x + (x.toUInt32 >>> ((nI 8).toUInt32 &&& Int32.toUInt32 31)).toInt32
def bc5 (x : Int32) : Int32 := x + (x.toUInt32 >>> ((nI 16).toUInt32 &&& Int32.toUInt32 31)).toInt32
/-- how many bits -/
def bc (x : Int32) : Int32 := bc5 (bc4 (bc3 (bc2 (bc1 x)))) &&& nI 63
def tierN (u : Int32) : Int32 := if u < nI 20000 then (if u < nI 5000 then nI 4 else nI 3) else nI 2
def hasB (F : Int32) (f : Nat) : Bool := !decide (F >>> (nI f &&& 31) &&& nI 1 = 0)
def onB (g : Nat → Nat → Int32) (c : Nat) (d : Int32) : Bool := !decide (d < g 27 c) && !decide (g 28 c < d)
def forB (g : Nat → Nat → Int32) (c : Nat) (R S M d : Int32) : Bool := decide (g 23 c = R) && (decide (g 24 c = S) && (!decide (g 26 c &&& M = 0) && onB g c d))
def fOpen (g : Nat → Nat → Int32) (R S M d x : Int32) (c : Nat) : Int32 := if !decide (nI c = x) && forB g c R S M d then g 25 c else 0
def fOn (g : Nat → Nat → Int32) (R d : Int32) (c : Nat) : Int32 := if decide (g 23 c = R) && onB g c d then 1 else 0
def fUn (g : Nat → Nat → Int32) (R d : Int32) (r : Nat) : Int32 := if decide (g 29 r = R) && decide (g 35 r / nI 30 = d / nI 30) then g 33 r * bc (g 32 r) else 0
def ofB (g : Nat → Nat → Int32) (r : Nat) (R S : Int32) : Bool := (decide (R = -1) || decide (g 29 r = R)) && (decide (S = -1) || decide (g 30 r = S))
def chF (g : Nat → Nat → Int32) (r f : Nat) : Int32 := g 38 (r * 6 + f)
def chN (g : Nat → Nat → Int32) (r : Nat) : Int32 := sumN (chF g r) 6
def crF (g : Nat → Nat → Int32) (k r f : Nat) : Int32 := g 38 (r * 6 + f) * g k ((cn (g 30 r) * 6 + cn (g 31 r)) * 6 + f) / nI 100
def crN (g : Nat → Nat → Int32) (k r : Nat) : Int32 := sumN (crF g k r) 6
def fCnt (g : Nat → Nat → Int32) (R S : Int32) (r : Nat) : Int32 := if ofB g r R S then 1 else 0
def fCh (g : Nat → Nat → Int32) (R S : Int32) (r : Nat) : Int32 := if ofB g r R S then chN g r else 0
def fCr (g : Nat → Nat → Int32) (R S : Int32) (k r : Nat) : Int32 := if ofB g r R S then crN g k r else 0
def fBil (g : Nat → Nat → Int32) (R : Int32) (r : Nat) : Int32 := if ofB g r R (-1) then g 37 r else 0
def fDue (g : Nat → Nat → Int32) (R : Int32) (k r : Nat) : Int32 := if ofB g r R (-1) then chN g r - crN g k r - g 37 r else 0
/-- each read's set and version -/
def rdOk (g : Nat → Nat → Int32) (n : Nat) : Prop := g 5 0 = nI n ∧ n ≤ 40 ∧ ∀ r, r < n → nb (g 30 r) 8 ∧ nb (g 31 r) 6
def nF (g : Nat → Nat → Int32) (i : Nat) : Nat := cn (g 7 i)
def nV (g : Nat → Nat → Int32) (i : Nat) : Nat := cn (g 8 i)
def allF (g : Nat → Nat → Int32) (i : Nat) : Int32 := (nI 1 <<< (nI (nF g i) &&& 31)) - nI 1
def rowsL (g : Nat → Nat → Int32) (i : Nat) : Int32 := if nV g i = 0 then nI 0 else g 9 (i * 6 + (nV g i - 1))
def plc (i v f : Nat) : Nat := (i * 6 + v) * 6 + f
def hfF (g : Nat → Nat → Int32) (i f : Nat) : Int32 := if g 21 ((i * 6 + (nV g i - 1)) * 6 + f) ≤ 0 then 0 else 1
def harmedN (g : Nat → Nat → Int32) (i : Nat) : Int32 := if nV g i = 0 then nI 0 else sumN (hfF g i) (nF g i)
def openT (g : Nat → Nat → Int32) (n4 : Nat) (R S : Int32) : Int32 := orN (fOpen g R S (nI 15) (g 0 0) (-1)) n4
def mayB (g : Nat → Nat → Int32) (i : Nat) (seen op : Int32) : Bool := decide (bc seen ≤ nI ((nF g i + 1) / 2)) && (decide (op = allF g i) || !decide (seen ||| op = allF g i))
def needB (g : Nat → Nat → Int32) (n4 r c0 : Nat) : Bool := forB g c0 (g 29 r) (g 30 r) (nI 1 <<< (g 34 r &&& 31)) (g 35 r) && !decide (g 32 r &&& g 25 c0 &&& (orN (fOpen g (g 29 r) (g 30 r) (nI 1 <<< (g 34 r &&& 31)) (g 35 r) (nI c0)) n4 ^^^ (-1)) = 0)
def fNeed (g : Nat → Nat → Int32) (n4 c0 r : Nat) : Int32 := if needB g n4 r c0 then 1 else 0
def qtF (g : Nat → Nat → Int32) (i : Nat) (F rows t : Int32) (f : Nat) : Int32 := if hasB F f then rows * g 10 (i * 6 + f) * t / nI 400 else 0
def fPrev (g : Nat → Nat → Int32) (i : Nat) (b op : Int32) (k : Nat) : Int32 := if !decide (nI 2 < bc (nI (k + 1))) && mayB g i (b ||| nI (k + 1)) op then 1 else 0
def prevN (g : Nat → Nat → Int32) (n4 R i : Nat) : Int32 := if nV g i = 0 then nI 0 else sumN (fPrev g i (g 6 (R * 8 + i)) (openT g n4 (nI R) (nI i))) (2 ^ nF g i - 1)
def manyN (g : Nat → Nat → Int32) (n1 n5 w : Nat) : Int32 := match w with
  | 0 => g 1 0
  | 1 => sumN (g 8) n1
  | 2 => g 2 0
  | 3 => g 4 0
  | 4 => g 5 0
  | 5 => sumN (fCh g (-1) (-1)) n5
  | 6 => sumN (fCr g (-1) (-1) 21) n5
  | 7 => sumN (fBil g (-1)) n5
  | _ => g 0 0
def ofSetN (g : Nat → Nat → Int32) (n5 i w : Nat) : Int32 := match w with
  | 0 => g 7 i
  | 1 => g 8 i
  | 2 => rowsL g i
  | 3 => harmedN g i
  | 4 => sumN (fCnt g (-1) (nI i)) n5
  | 5 => sumN (fCh g (-1) (nI i)) n5
  | _ => sumN (fCr g (-1) (nI i) 21) n5
def ofReadN (g : Nat → Nat → Int32) (r w : Nat) : Int32 := match w with
  | 0 => g 29 r
  | 1 => g 30 r
  | 2 => g 31 r
  | 3 => g 32 r
  | 4 => g 33 r
  | 5 => g 35 r
  | 6 => g 33 r * bc (g 32 r)
  | 7 => g 36 r
  | 8 => chN g r
  | 9 => crN g 21 r
  | 10 => g 37 r
  | _ => g 34 r
def ofReaderN (g : Nat → Nat → Int32) (n4 n5 R w : Nat) : Int32 := match w with
  | 0 => sumN (fUn g (nI R) (g 0 0)) n5
  | 1 => sumN (fCnt g (nI R) (-1)) n5
  | 2 => sumN (fCh g (nI R) (-1)) n5
  | 3 => sumN (fCr g (nI R) (-1) 21) n5
  | 4 => sumN (fBil g (nI R)) n5
  | 5 => sumN (fDue g (nI R) 21) n5
  | _ => sumN (fOn g (nI R) (g 0 0)) n4
/-- what always holds of the desk's numbers -/
def dI (g : Nat → Nat → Int32) (n1 n2 nL n4 n5 : Nat) : Prop :=
  (g 1 0 = nI n1 ∧ n1 ≤ 8) ∧ (∀ i, i < n1 → nb (g 7 i) 7 ∧ nb (g 8 i) 7 ∧ 0 < nF g i) ∧
  (g 2 0 = nI n2 ∧ n2 ≤ 20) ∧ (∀ j, j < n2 → nb (g 12 j) 48 ∧ nb (g 13 j) 48 ∧ cn (g 12 j) / 6 < n1 ∧ cn (g 13 j) / 6 < cn (g 12 j) / 6) ∧
  (g 2 1 = nI nL ∧ nL ≤ 120) ∧ (∀ j, j < nL → nb (g 15 j) 288 ∧ nb (g 16 j) 288) ∧
  (g 4 0 = nI n4 ∧ n4 ≤ 16) ∧ (g 5 0 = nI n5 ∧ n5 ≤ 40) ∧ (∀ r, r < n5 → nb (g 30 r) 8 ∧ nb (g 31 r) 6) ∧ nb (g 0 0) 360
theorem p2_64 {k : Nat} (h : k < 7) : 2 ^ k - 1 < 64 := by
  obtain rfl | rfl | rfl | rfl | rfl | rfl | rfl : k = 0 ∨ k = 1 ∨ k = 2 ∨ k = 3 ∨ k = 4 ∨ k = 5 ∨ k = 6 := by omega
  all_goals decide
theorem allF_nat {g : Nat → Nat → Int32} {i : Nat} (h : nF g i < 7) : allF g i = nI (2 ^ nF g i - 1) := by
  unfold allF
  generalize nF g i = k at h
  obtain rfl | rfl | rfl | rfl | rfl | rfl | rfl : k = 0 ∨ k = 1 ∨ k = 2 ∨ k = 3 ∨ k = 4 ∨ k = 5 ∨ k = 6 := by omega
  all_goals decide
