/-! what the desk's calls write -/
def rng (f : Nat → Int32) (a n : Nat) (v : Int32) : Nat → Int32 := fun j => if a ≤ j ∧ j < a + n then v else f j
theorem rng_0 (f : Nat → Int32) (a : Nat) (v : Int32) : rng f a 0 v = f := by
  funext j; unfold rng; rw [if_neg (by omega)]
theorem rng_s (f : Nat → Int32) (a n : Nat) (v : Int32) : upd (rng f a n v) (a + n) v = rng f a (n + 1) v := by
  funext j; unfold upd rng
  by_cases h : j = a + n
  · rw [if_pos h, if_pos (by omega)]
  · rw [if_neg h]
    by_cases h2 : a ≤ j ∧ j < a + n
    · rw [if_pos h2, if_pos (by omega)]
    · rw [if_neg h2, if_neg (by omega)]
def cpy (f h : Nat → Int32) (n : Nat) : Nat → Int32 := fun j => if j < n then f j else h j
theorem cpy_0 (f h : Nat → Int32) : cpy f h 0 = h := by funext j; unfold cpy; rw [if_neg (by omega)]
theorem cpy_s (f h : Nat → Int32) (n : Nat) : upd (cpy f h n) n (f n) = cpy f h (n + 1) := by
  funext j; unfold upd cpy
  by_cases e : j = n
  · subst e; rw [if_pos rfl, if_pos (by omega)]
  · rw [if_neg e]
    by_cases h2 : j < n
    · rw [if_pos h2, if_pos (by omega)]
    · rw [if_neg h2, if_neg (by omega)]
theorem vu_self {f : Nat → Nat → Int32} (k : Nat) : va_up f k (f k) = f := by
  funext j; unfold va_up; by_cases h : j = k
  · rw [if_pos h, h]
  · rw [if_neg h]
theorem vu_2 {α : Type} (f : Nat → α) (k : Nat) (x y : α) : va_up (va_up f k x) k y = va_up f k y := by
  funext j; unfold va_up; by_cases h : j = k
  · rw [if_pos h, if_pos h]
  · rw [if_neg h, if_neg h, if_neg h]
theorem vu_c {α : Type} (f : Nat → α) {a b : Nat} (h : a ≠ b) (x y : α) : va_up (va_up f a x) b y = va_up (va_up f b y) a x := by
  funext j; unfold va_up; by_cases e1 : j = a <;> by_cases e2 : j = b
  · omega
  · rw [if_neg e2, if_pos e1, if_pos e1]
  · rw [if_pos e2, if_neg e1, if_pos e2]
  · rw [if_neg e2, if_neg e1, if_neg e1, if_neg e2]
theorem vu_4 {α : Type} (f : Nat → α) {a b : Nat} (h : a ≠ b) (x y x' y' : α) : va_up (va_up (va_up (va_up f a x) b y) a x') b y' = va_up (va_up f a x') b y' := by
  rw [vu_c (va_up f a x) h.symm y x', vu_2, vu_2]
theorem upd_2 (f : Nat → Int32) (k : Nat) (x y : Int32) : upd (upd f k x) k y = upd f k y := by
  funext j; unfold upd; by_cases h : j = k
  · rw [if_pos h, if_pos h]
  · rw [if_neg h, if_neg h, if_neg h]
def csS (g : Nat → Nat → Int32) (h : Nat → Int32) (i : Nat) : Nat → Int32 := upd h (cn (g 15 i)) (zmax (h (cn (g 15 i))) (h (cn (g 16 i)) * g 17 i / nI 100))
/-- along the links, in their order -/
def carN (g : Nat → Nat → Int32) (h : Nat → Int32) : Nat → (Nat → Int32)
  | 0 => h
  | n + 1 => csS g (carN g h n) n
def setlN (g : Nat → Nat → Int32) (nL : Nat) : Nat → Int32 := carN g (cpy (g 19) (g 21) 288) nL
def tryN (g : Nat → Nat → Int32) (nL p : Nat) (x : Int32) : Nat → Int32 := carN g (upd (cpy (g 19) (g 22) 288) p (zmax (cpy (g 19) (g 22) 288 p) x)) nL
def rch0 (s : Nat) (h : Nat → Int32) (n : Nat) : Nat → Int32 := fun j => if j < n then bI (decide (j = s)) else h j
theorem rch0_0 (s : Nat) (h : Nat → Int32) : rch0 s h 0 = h := by funext j; unfold rch0; rw [if_neg (by omega)]
theorem rch0_s (s : Nat) (h : Nat → Int32) (n : Nat) : upd (rch0 s h n) n (bI (decide (n = s))) = rch0 s h (n + 1) := by
  funext j; unfold upd rch0
  by_cases e : j = n
  · subst e; rw [if_pos rfl, if_pos (by omega)]
  · rw [if_neg e]
    by_cases h2 : j < n
    · rw [if_pos h2, if_pos (by omega)]
    · rw [if_neg h2, if_neg (by omega)]
/-- one link, walked back -/
def rchS (g : Nat → Nat → Int32) (h : Nat → Int32) (i : Nat) : Nat → Int32 := if h (cn (g 15 i)) = 0 then h else upd h (cn (g 16 i)) (nI 1)
/-- the links from nL on down, k of them -/
def rchN (g : Nat → Nat → Int32) (h : Nat → Int32) (nL : Nat) : Nat → (Nat → Int32)
  | 0 => h
  | k + 1 => rchS g (rchN g h nL k) (nL - 1 - k)
def addLnk (G : Nat → Nat → Int32) (c p sh : Int32) : Nat → Nat → Int32 :=
  if cn (G 2 1) < 120 then va_up (va_up (va_up (va_up G 15 (upd (G 15) (cn (G 2 1)) c)) 16 (upd (G 16) (cn (G 2 1)) p)) 17 (upd (G 17) (cn (G 2 1)) sh)) 2 (upd (G 2) 1 (nI (cn (G 2 1) + 1))) else G
def lkS (i v : Nat) (G : Nat → Nat → Int32) (j : Nat) : Nat → Nat → Int32 :=
  if cn (G 12 j) / 6 = i ∧ 0 < nV G (cn (G 13 j) / 6) then addLnk G (nI (plc i v (cn (G 12 j) % 6))) (nI (plc (cn (G 13 j) / 6) (nV G (cn (G 13 j) / 6) - 1) (cn (G 13 j) % 6))) (G 14 j) else G
/-- the links that a version brings -/
def lkN (i v : Nat) (g : Nat → Nat → Int32) : Nat → (Nat → Nat → Int32)
  | 0 => g
  | j + 1 => lkS i v (lkN i v g j) j
def bilN (g : Nat → Nat → Int32) (R : Int32) (n : Nat) : Nat → Int32 := fun r => if r < n ∧ ofB g r R (-1) = true then chN g r - crN g 21 r else g 37 r
def setG (g : Nat → Nat → Int32) (n1 k : Nat) : Nat → Nat → Int32 := va_up (va_up (va_up (va_up g 7 (upd (g 7) n1 (nI k))) 10 (rng (g 10) (n1 * 6) k (nI 10))) 11 (rng (g 11) (n1 * 6) k (nI 1000))) 1 (upd (g 1) 0 (nI (n1 + 1)))
theorem carN_vu {g : Nat → Nat → Int32} {k : Nat} (h15 : k ≠ 15) (h16 : k ≠ 16) (h17 : k ≠ 17) (x h : Nat → Int32) (n : Nat) : carN (va_up g k x) h n = carN g h n := by
  have e1 : va_up g k x 15 = g 15 := if_neg (fun e => h15 e.symm)
  have e2 : va_up g k x 16 = g 16 := if_neg (fun e => h16 e.symm)
  have e3 : va_up g k x 17 = g 17 := if_neg (fun e => h17 e.symm)
  induction n with
  | zero => rfl
  | succ n ih => show csS _ _ n = csS _ _ n; rw [ih]; unfold csS; rw [e1, e2, e3]
theorem addLnk_r {G : Nat → Nat → Int32} {c p sh : Int32} {k : Nat} (h : k ≠ 15 ∧ k ≠ 16 ∧ k ≠ 17 ∧ k ≠ 2) : addLnk G c p sh k = G k := by
  unfold addLnk
  split
  · unfold va_up; rw [if_neg h.2.2.2, if_neg h.2.2.1, if_neg h.2.1, if_neg h.1]
  · rfl
theorem addLnk_0 {G : Nat → Nat → Int32} {c p sh : Int32} : addLnk G c p sh 2 0 = G 2 0 := by
  unfold addLnk
  split
  · rfl
  · rfl
theorem addLnk_n {G : Nat → Nat → Int32} {c p sh : Int32} (h : nb (G 2 1) 121) : nb (addLnk G c p sh 2 1) 121 := by
  unfold addLnk
  split
  · rename_i h1
    show nb (nI (cn (G 2 1) + 1)) 121
    exact nb_nI (by omega) (by decide)
  · exact h
theorem lkS_r {i v j : Nat} {G : Nat → Nat → Int32} {k : Nat} (h : k ≠ 15 ∧ k ≠ 16 ∧ k ≠ 17 ∧ k ≠ 2) : lkS i v G j k = G k := by
  unfold lkS; split
  · exact addLnk_r h
  · rfl
theorem lkN_r {i v n : Nat} {g : Nat → Nat → Int32} {k : Nat} (h : k ≠ 15 ∧ k ≠ 16 ∧ k ≠ 17 ∧ k ≠ 2) : lkN i v g n k = g k := by
  induction n with
  | zero => rfl
  | succ n ih => exact (lkS_r h).trans ih
theorem lkN_0 {i v n : Nat} {g : Nat → Nat → Int32} : lkN i v g n 2 0 = g 2 0 := by
  induction n with
  | zero => rfl
  | succ n ih =>
    show lkS i v (lkN i v g n) n 2 0 = _
    unfold lkS; split
    · exact addLnk_0.trans ih
    · exact ih
theorem lkN_n {i v n : Nat} {g : Nat → Nat → Int32} (h : nb (g 2 1) 121) : nb (lkN i v g n 2 1) 121 := by
  induction n with
  | zero => exact h
  | succ n ih =>
    show nb (lkS i v (lkN i v g n) n 2 1) 121
    unfold lkS; split
    · exact addLnk_n ih
    · exact ih
theorem bilN_0 (g : Nat → Nat → Int32) (x : Int32) : bilN g x 0 = g 37 := by
  funext r; unfold bilN; rw [if_neg (by omega)]
theorem bilN_y {g : Nat → Nat → Int32} {x : Int32} {n : Nat} (h : ofB g n x (-1) = true) : upd (bilN g x n) n (chN g n - crN g 21 n) = bilN g x (n + 1) := by
  funext r; unfold upd bilN
  by_cases e : r = n
  · subst e; rw [if_pos rfl, if_pos ⟨by omega, h⟩]
  · rw [if_neg e]
    by_cases h2 : r < n ∧ ofB g r x (-1) = true
    · rw [if_pos h2, if_pos ⟨by omega, h2.2⟩]
    · rw [if_neg h2, if_neg (fun q => h2 ⟨by omega, q.2⟩)]
theorem bilN_n {g : Nat → Nat → Int32} {x : Int32} {n : Nat} (h : ofB g n x (-1) = false) : bilN g x n = bilN g x (n + 1) := by
  funext r; unfold bilN
  by_cases h2 : r < n ∧ ofB g r x (-1) = true
  · rw [if_pos h2, if_pos ⟨by omega, h2.2⟩]
  · rw [if_neg h2, if_neg (fun q => by
      by_cases e : r = n
      · subst e; rw [h] at q; cases q.2
      · exact h2 ⟨by omega, q.2⟩)]
theorem rchN_n {g : Nat → Nat → Int32} {h : Nat → Int32} {nL k : Nat} (hc : rchN g h nL k (cn (g 15 (nL - 1 - k))) = 0) : rchN g h nL (k + 1) = rchN g h nL k := by
  show rchS g (rchN g h nL k) (nL - 1 - k) = _
  unfold rchS; rw [if_pos hc]
theorem rchN_y {g : Nat → Nat → Int32} {h : Nat → Int32} {nL k : Nat} (hc : ¬ rchN g h nL k (cn (g 15 (nL - 1 - k))) = 0) : rchN g h nL (k + 1) = upd (rchN g h nL k) (cn (g 16 (nL - 1 - k))) (nI 1) := by
  show rchS g (rchN g h nL k) (nL - 1 - k) = _
  unfold rchS; rw [if_neg hc]
/-- the links are in their bounds -/
def lkOk (g : Nat → Nat → Int32) : Prop := nb (g 2 1) 121 ∧ ∀ j, j < cn (g 2 1) → nb (g 15 j) 288 ∧ nb (g 16 j) 288
theorem addLnk_ok {G : Nat → Nat → Int32} {a b : Nat} {sh : Int32} (h : lkOk G) (ha : a < 288) (hb : b < 288) : lkOk (addLnk G (nI a) (nI b) sh) := by
  unfold addLnk
  split
  · rename_i h1
    refine ⟨nb_nI (by omega) (by decide), fun j hj => ?_⟩
    have hj2 : j < cn (G 2 1) + 1 := by
      have e : cn (nI (cn (G 2 1) + 1)) = cn (G 2 1) + 1 := cn_nI (by omega)
      have hj3 : j < cn (nI (cn (G 2 1) + 1)) := hj
      omega
    show nb (upd (G 15) (cn (G 2 1)) (nI a) j) 288 ∧ nb (upd (G 16) (cn (G 2 1)) (nI b) j) 288
    unfold upd
    by_cases e : j = cn (G 2 1)
    · rw [if_pos e, if_pos e]; exact ⟨nb_nI ha (by decide), nb_nI hb (by decide)⟩
    · rw [if_neg e, if_neg e]; exact h.2 j (by omega)
  · exact h
theorem lkN_ok {i v n : Nat} {g : Nat → Nat → Int32} (h : lkOk g) (hi : i < 8) (hv : v < 6) (h12 : ∀ j, j < n → nb (g 12 j) 48 ∧ nb (g 13 j) 48) (h8 : ∀ j, j < n → nb (g 8 (cn (g 13 j) / 6)) 7) : lkOk (lkN i v g n) := by
  induction n with
  | zero => exact h
  | succ n ih =>
    have ih := ih (fun j hj => h12 j (by omega)) (fun j hj => h8 j (by omega))
    show lkOk (lkS i v (lkN i v g n) n)
    unfold lkS
    rw [lkN_r (k := 12) ⟨by decide, by decide, by decide, by decide⟩, lkN_r (k := 13) ⟨by decide, by decide, by decide, by decide⟩]
    unfold nV
    rw [lkN_r (k := 8) ⟨by decide, by decide, by decide, by decide⟩]
    have q1 := (h12 n (by omega)).1.2
    have q2 := (h12 n (by omega)).2.2
    have q3 := (h8 n (by omega)).2
    split
    · exact addLnk_ok ih (by unfold plc; omega) (by unfold plc; omega)
    · exact ih
theorem ver8 {g : Nat → Nat → Int32} {i k : Nat} (h6 : nV g i < 6) (hk : nb (g 8 k) 7) : nb (upd (g 8) i (nI (nV g i + 1)) k) 7 := by
  unfold upd
  by_cases e : k = i
  · rw [if_pos e]; exact nb_nI (by omega) (by decide)
  · rw [if_neg e]; exact hk
def fSrc (g : Nat → Nat → Int32) (a j : Nat) : Int32 := if decide (g 12 j = nI a) then 1 else 0
def srcG (g : Nat → Nat → Int32) (n2 a b : Nat) (sh : Int32) : Nat → Nat → Int32 := va_up (va_up (va_up (va_up g 12 (upd (g 12) n2 (nI a))) 13 (upd (g 13) n2 (nI b))) 14 (upd (g 14) n2 sh)) 2 (upd (g 2) 0 (nI (n2 + 1)))
def vr1 (g : Nat → Nat → Int32) (i : Nat) (x : Int32) : Nat → Nat → Int32 := va_up (va_up g 9 (upd (g 9) (i * 6 + nV g i) x)) 8 (upd (g 8) i (nI (nV g i + 1)))
def vr2 (g : Nat → Nat → Int32) (n2 i : Nat) (x : Int32) : Nat → Nat → Int32 := lkN i (nV g i) (vr1 g i x) n2
def verG (g : Nat → Nat → Int32) (n2 i : Nat) (x : Int32) : Nat → Nat → Int32 := va_up (vr2 g n2 i x) 21 (setlN (vr2 g n2 i x) (cn (vr2 g n2 i x 2 1)))
def rse (g : Nat → Nat → Int32) (p : Nat) (x : Int32) : Nat → Nat → Int32 := va_up g 19 (upd (g 19) p (zmax (g 19 p) x))
def ovr (m r : Int32) : Int32 := if m - r ≤ 0 then nI 0 else (m - r) / nI 10
def misG (g : Nat → Nat → Int32) (nL p : Nat) (x : Int32) : Nat → Nat → Int32 := va_up (rse (va_up g 20 (upd (g 20) p (nI 1))) p x) 21 (setlN (rse g p x) nL)
def triG (g : Nat → Nat → Int32) (nL p : Nat) (x : Int32) : Nat → Nat → Int32 := va_up g 22 (tryN g nL p x)
def gainN (g : Nat → Nat → Int32) (nL n5 p : Nat) (x : Int32) : Int32 := sumN (fCr (triG g nL p x) (-1) (-1) 22) n5 - sumN (fCr g (-1) (-1) 21) n5
def repG (g : Nat → Nat → Int32) (nL p : Nat) (x : Int32) : Nat → Nat → Int32 := va_up (rse (triG g nL p x) p x) 21 (setlN (rse g p x) nL)
theorem setlN_c {g g' : Nat → Nat → Int32} (h15 : g' 15 = g 15) (h16 : g' 16 = g 16) (h17 : g' 17 = g 17) (h19 : g' 19 = g 19) (h21 : g' 21 = g 21) (n : Nat) : setlN g' n = setlN g n := by
  unfold setlN; rw [h19, h21]
  generalize cpy (g 19) (g 21) 288 = h
  induction n with
  | zero => rfl
  | succ n ih => show csS _ _ n = csS _ _ n; rw [ih]; unfold csS; rw [h15, h16, h17]
def chgW (f : Nat → Int32) (a : Nat) (pr : Nat → Int32) (F rw0 t : Int32) (k : Nat) : Nat → Int32 := fun j => if a ≤ j ∧ j < a + k ∧ hasB F (j - a) = true then rw0 * pr (j - a) * t / nI 400 else f j
theorem chgW_0 (f : Nat → Int32) (a : Nat) (pr : Nat → Int32) (F rw0 t : Int32) : chgW f a pr F rw0 t 0 = f := by
  funext j; unfold chgW; rw [if_neg (by omega)]
theorem chgW_n {f : Nat → Int32} {a : Nat} {pr : Nat → Int32} {F rw0 t : Int32} {k : Nat} (h : hasB F k = false) : chgW f a pr F rw0 t (k + 1) = chgW f a pr F rw0 t k := by
  funext j; unfold chgW
  by_cases e : j = a + k
  · rw [if_neg (by rintro ⟨h1, h2, h3⟩; rw [show j - a = k by omega, h] at h3; cases h3), if_neg (by omega)]
  · by_cases h2 : a ≤ j ∧ j < a + k ∧ hasB F (j - a) = true
    · rw [if_pos h2, if_pos ⟨h2.1, by omega, h2.2.2⟩]
    · rw [if_neg h2, if_neg (fun q => h2 ⟨q.1, by omega, q.2.2⟩)]
theorem chgW_y {f : Nat → Int32} {a : Nat} {pr : Nat → Int32} {F rw0 t : Int32} {k : Nat} (h : hasB F k = true) : upd (chgW f a pr F rw0 t k) (a + k) (rw0 * pr k * t / nI 400) = chgW f a pr F rw0 t (k + 1) := by
  funext j; unfold upd chgW
  by_cases e : j = a + k
  · rw [if_pos e, if_pos ⟨by omega, by omega, by rw [show j - a = k by omega]; exact h⟩, show j - a = k by omega]
  · rw [if_neg e]
    by_cases h2 : a ≤ j ∧ j < a + k ∧ hasB F (j - a) = true
    · rw [if_pos h2, if_pos ⟨h2.1, by omega, h2.2.2⟩]
    · rw [if_neg h2, if_neg (fun q => h2 ⟨q.1, by omega, q.2.2⟩)]
def addR (g : Nat → Nat → Int32) (n5 : Nat) (a1 a2 a3 a4 a5 a6 a7 : Int32) : Nat → Nat → Int32 := va_up (va_up (va_up (va_up (va_up (va_up (va_up (va_up (va_up g 36 (upd (g 36) n5 (tierN (sumN (fUn g a1 a7) n5)))) 29 (upd (g 29) n5 a1)) 30 (upd (g 30) n5 a2)) 31 (upd (g 31) n5 a3)) 32 (upd (g 32) n5 a4)) 33 (upd (g 33) n5 a5)) 34 (upd (g 34) n5 a6)) 35 (upd (g 35) n5 a7)) 5 (upd (g 5) 0 (nI (n5 + 1)))
/-- a read of F, rw0 rows, behind the row of reads -/
def readG (g : Nat → Nat → Int32) (n5 R i : Nat) (F rw0 : Int32) (P : Nat) : Nat → Nat → Int32 :=
  va_up (addR g n5 (nI R) (nI i) (nI (nV g i - 1)) F rw0 (nI P) (g 0 0)) 38 (chgW (g 38) (n5 * 6) (fun f => g 10 (i * 6 + f)) F rw0 (tierN (sumN (fUn g (nI R) (g 0 0)) n5)) (nF g i))
theorem rows0 {x : Int32} (h1 : ¬ x < nI 1) (h2 : ¬ nI 0 < x) : False := by
  have a := Int32.not_lt.mp h1
  have b := Int32.not_lt.mp h2
  rw [Int32.le_iff_toInt_le] at a b
  rw [nI_toInt (by decide)] at a b
  omega
