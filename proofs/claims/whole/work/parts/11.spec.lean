/-! what the desk's calls answer, in terms of its numbers g -/
def sumN (f : Nat → Int32) : Nat → Int32
  | 0 => 0
  | n + 1 => sumN f n + f n
theorem sumN_s (f : Nat → Int32) (n : Nat) : sumN f (n + 1) = sumN f n + f n := rfl
def orN (f : Nat → Int32) : Nat → Int32
  | 0 => 0
  | n + 1 => orN f n ||| f n
theorem orN_s (f : Nat → Int32) (n : Nat) : orN f (n + 1) = orN f n ||| f n := rfl
def cn (x : Int32) : Nat := x.toNatClampNeg
/-- a number below b -/
def nb (x : Int32) (b : Nat) : Prop := x = nI (cn x) ∧ cn x < b
theorem nb_nI {k b : Nat} (h : k < b) (hb : b < 2 ^ 31) : nb (nI k) b := by
  have e : cn (nI k) = k := nI_clamp (by omega)
  exact ⟨by rw [e], by rw [e]; exact h⟩
theorem cn_nI {k : Nat} (h : k < 2 ^ 31) : cn (nI k) = k := nI_clamp h
def bc1 (x : Int32) : Int32 := x - ((x.toUInt32 >>> ((nI 1).toUInt32 &&& Int32.toUInt32 31)).toInt32 &&& 1431655765)
def bc2 (x : Int32) : Int32 := (x &&& 858993459) + ((x.toUInt32 >>> ((nI 2).toUInt32 &&& Int32.toUInt32 31)).toInt32 &&& 858993459)
def bc3 (x : Int32) : Int32 := (x + (x.toUInt32 >>> ((nI 4).toUInt32 &&& Int32.toUInt32 31)).toInt32) &&& 252645135
def bc4 (x : Int32) : Int32 := x + (x.toUInt32 >>> ((nI 8).toUInt32 &&& Int32.toUInt32 31)).toInt32
def bc5 (x : Int32) : Int32 := x + (x.toUInt32 >>> ((nI 16).toUInt32 &&& Int32.toUInt32 31)).toInt32
/-- how many bits -/
def bc (x : Int32) : Int32 := bc5 (bc4 (bc3 (bc2 (bc1 x)))) &&& nI 63
def tierN (u : Int32) : Int32 := if u < nI 20000 then (if u < nI 5000 then nI 4 else nI 3) else nI 2
def hasB (F : Int32) (f : Nat) : Bool := !decide (F >>> (nI f &&& 31) &&& nI 1 = 0)
def onB (g : Nat → Nat → Int32) (c : Nat) (d : Int32) : Bool := !decide (d < g 27 c) && !decide (g 28 c < d)
def forB (g : Nat → Nat → Int32) (c : Nat) (R S M d : Int32) : Bool := decide (g 23 c = R) && (decide (g 24 c = S) && (!decide (g 26 c &&& M = 0) && onB g c d))
def fOpen (g : Nat → Nat → Int32) (R S M d x : Int32) (c : Nat) : Int32 := if !decide (nI c = x) && forB g c R S M d then g 25 c else 0
def fOn (g : Nat → Nat → Int32) (R d : Int32) (c : Nat) : Int32 := if decide (g 23 c = R) && onB g c d then 1 else 0
def fUn (g : Nat → Nat → Int32) (R d : Int32) (r : Nat) : Int32 := if decide (g 29 r = R) && decide (g 35 r / nI 30 = d / nI 30) then g 33 r * bc (g 32 r) else 0
def ofB (g : Nat → Nat → Int32) (r : Nat) (R S : Int32) : Bool := (decide (R = -1) || decide (g 29 r = R)) && (decide (S = -1) || decide (g 30 r = S))
def chF (g : Nat → Nat → Int32) (r f : Nat) : Int32 := g 38 (r * 6 + f)
def chN (g : Nat → Nat → Int32) (r : Nat) : Int32 := sumN (chF g r) 6
def crF (g : Nat → Nat → Int32) (k r f : Nat) : Int32 := g 38 (r * 6 + f) * g k ((cn (g 30 r) * 6 + cn (g 31 r)) * 6 + f) / nI 100
def crN (g : Nat → Nat → Int32) (k r : Nat) : Int32 := sumN (crF g k r) 6
def fCnt (g : Nat → Nat → Int32) (R S : Int32) (r : Nat) : Int32 := if ofB g r R S then 1 else 0
def fCh (g : Nat → Nat → Int32) (R S : Int32) (r : Nat) : Int32 := if ofB g r R S then chN g r else 0
def fCr (g : Nat → Nat → Int32) (R S : Int32) (k r : Nat) : Int32 := if ofB g r R S then crN g k r else 0
def fBil (g : Nat → Nat → Int32) (R : Int32) (r : Nat) : Int32 := if ofB g r R (-1) then g 37 r else 0
def fDue (g : Nat → Nat → Int32) (R : Int32) (k r : Nat) : Int32 := if ofB g r R (-1) then chN g r - crN g k r - g 37 r else 0
/-- each read's set and version -/
def rdOk (g : Nat → Nat → Int32) (n : Nat) : Prop := g 5 0 = nI n ∧ n ≤ 40 ∧ ∀ r, r < n → nb (g 30 r) 8 ∧ nb (g 31 r) 6
