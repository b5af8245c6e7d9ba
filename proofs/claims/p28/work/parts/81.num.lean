/-! the desk's numbers as naturals: sums, charges, credits, harm -/
theorem us {f : Nat → Int32} {k : Nat} {x : Int32} : upd f k x k = x := if_pos rfl
theorem un {f : Nat → Int32} {k j : Nat} {x : Int32} (h : j ≠ k) : upd f k x j = f j := if_neg h
def nS (f : Nat → Nat) : Nat → Nat
  | 0 => 0
  | n + 1 => nS f n + f n
theorem nS_s (f : Nat → Nat) (n : Nat) : nS f (n + 1) = nS f n + f n := rfl
theorem sumN_nS {f : Nat → Int32} {h : Nat → Nat} {n : Nat} (e : ∀ k, k < n → f k = nI (h k)) : sumN f n = nI (nS h n) := by
  induction n with
  | zero => exact nI_0.symm
  | succ n ih => rw [sumN_s, ih (fun k hk => e k (by omega)), e n (by omega), nI_add]; rfl
theorem nS_le {f h : Nat → Nat} {n : Nat} (e : ∀ k, k < n → f k ≤ h k) : nS f n ≤ nS h n := by
  induction n with
  | zero => exact Nat.le_refl _
  | succ n ih => exact Nat.add_le_add (ih (fun k hk => e k (by omega))) (e n (by omega))
theorem nS_b {f : Nat → Nat} {n b : Nat} (e : ∀ k, k < n → f k ≤ b) : nS f n ≤ n * b := by
  induction n with
  | zero => exact Nat.zero_le _
  | succ n ih =>
    have h1 := ih (fun k hk => e k (by omega))
    have h2 := e n (by omega)
    rw [nS_s, Nat.succ_mul]; omega
theorem nS_c {f h : Nat → Nat} {n : Nat} (e : ∀ k, k < n → f k = h k) : nS f n = nS h n := by
  induction n with
  | zero => rfl
  | succ n ih => rw [nS_s, nS_s, ih (fun k hk => e k (by omega)), e n (by omega)]
theorem nS_at {f : Nat → Nat} {n k : Nat} (hk : k < n) : f k ≤ nS f n := by
  induction n with
  | zero => omega
  | succ n ih =>
    rw [nS_s]
    by_cases e : k = n
    · rw [e]; omega
    · have := ih (by omega); omega
/-- charges and credits -/
def cA (g : Nat → Nat → Int32) (r f : Nat) : Nat := cn (g 38 (r * 6 + f))
def chX (g : Nat → Nat → Int32) (r : Nat) : Nat := nS (cA g r) 6
def crA (g : Nat → Nat → Int32) (h : Nat → Nat) (r f : Nat) : Nat := cA g r f * h ((cn (g 30 r) * 6 + cn (g 31 r)) * 6 + f) / 100
def crX (g : Nat → Nat → Int32) (h : Nat → Nat) (r : Nat) : Nat := nS (crA g h r) 6
def CR (g : Nat → Nat → Int32) (h : Nat → Nat) (n5 : Nat) : Nat := nS (crX g h) n5
def c5 (g : Nat → Nat → Int32) : Prop := ∀ q, q < 240 → nb (g 38 q) 5000
theorem chN_X {g : Nat → Nat → Int32} (h : c5 g) {r : Nat} (hr : r < 40) : chN g r = nI (chX g r) := sumN_nS (f := chF g r) (h := cA g r) fun f hf => (h (r * 6 + f) (by omega)).1
theorem chX_b {g : Nat → Nat → Int32} (h : c5 g) {r : Nat} (hr : r < 40) : chX g r ≤ 6 * 5000 := nS_b fun f hf => Nat.le_of_lt (h (r * 6 + f) (by omega)).2
theorem div100 {a h : Nat} (hh : h ≤ 100) : a * h / 100 ≤ a := Nat.div_le_of_le_mul (by rw [Nat.mul_comm 100 a]; exact Nat.mul_le_mul_left a hh)
theorem crN_X {g : Nat → Nat → Int32} {h : Nat → Nat} {k r : Nat} (hc : c5 g) (hr : r < 40) (h30 : nb (g 30 r) 8) (h31 : nb (g 31 r) 6) (hh : ∀ p, p < 288 → g k p = nI (h p) ∧ h p ≤ 100) : crN g k r = nI (crX g h r) := by
  refine sumN_nS (f := crF g k r) (h := crA g h r) fun f hf => ?_
  have b1 := hc (r * 6 + f) (by omega)
  have b0 := h30.2
  have b00 := h31.2
  have b2 := hh ((cn (g 30 r) * 6 + cn (g 31 r)) * 6 + f) (by omega)
  show g 38 (r * 6 + f) * g k ((cn (g 30 r) * 6 + cn (g 31 r)) * 6 + f) / nI 100 = nI (cn (g 38 (r * 6 + f)) * h ((cn (g 30 r) * 6 + cn (g 31 r)) * 6 + f) / 100)
  have b3 : cn (g 38 (r * 6 + f)) * h ((cn (g 30 r) * 6 + cn (g 31 r)) * 6 + f) ≤ 5000 * 100 := Nat.mul_le_mul (Nat.le_of_lt b1.2) b2.2
  obtain ⟨a, ea⟩ : ∃ a, cn (g 38 (r * 6 + f)) = a := ⟨_, rfl⟩
  unfold nb at b1
  rw [ea] at b1 b3 ⊢
  rw [b1.1, b2.1, pk_mul, pk_div (by omega) (by decide) (by decide)]
theorem crX_le {g : Nat → Nat → Int32} {h : Nat → Nat} {r : Nat} (h30 : nb (g 30 r) 8) (h31 : nb (g 31 r) 6) (hh : ∀ p, p < 288 → h p ≤ 100) : crX g h r ≤ chX g r := nS_le fun f hf => div100 (hh _ (by have := h30.2; have := h31.2; omega))
theorem crX_mono {g : Nat → Nat → Int32} {h h2 : Nat → Nat} {r : Nat} (hh : ∀ p, h p ≤ h2 p) : crX g h r ≤ crX g h2 r := nS_le fun f hf => Nat.div_le_div_right (Nat.mul_le_mul_left _ (hh _))
theorem CR_mono {g : Nat → Nat → Int32} {h h2 : Nat → Nat} {n5 : Nat} (hh : ∀ p, h p ≤ h2 p) : CR g h n5 ≤ CR g h2 n5 := nS_le fun r _ => crX_mono hh
/-! harm, along the links -/
def carX (c p s : Nat → Nat) (h : Nat → Nat) : Nat → Nat → Nat
  | 0 => h
  | n + 1 => fun q => if q = c n then max (carX c p s h n q) (carX c p s h n (p n) * s n / 100) else carX c p s h n q
theorem zmax_N {a b : Nat} (ha : a < 2 ^ 31) (hb : b < 2 ^ 31) : zmax (nI a) (nI b) = nI (max a b) := by
  unfold zmax
  by_cases h : a < b
  · rw [if_pos (nI_lt h hb), Nat.max_eq_right (Nat.le_of_lt h)]
  · rw [if_neg (nI_nlt (Nat.le_of_not_lt h) ha), Nat.max_eq_left (Nat.le_of_not_lt h)]
def lkX (g : Nat → Nat → Int32) (c p s : Nat → Nat) (N : Nat) : Prop := ∀ j, j < N → (g 15 j = nI (c j) ∧ c j < 288) ∧ (g 16 j = nI (p j) ∧ p j < 288) ∧ (g 17 j = nI (s j) ∧ s j ≤ 100) ∧ p j / 36 < c j / 36
theorem carN_X {g : Nat → Nat → Int32} {c p s : Nat → Nat} {N : Nat} (hl : lkX g c p s N) {h : Nat → Int32} {h' : Nat → Nat} (e : ∀ q, q < 288 → h q = nI (h' q) ∧ h' q ≤ 100) : ∀ n, n ≤ N → ∀ q, q < 288 → carN g h n q = nI (carX c p s h' n q) ∧ carX c p s h' n q ≤ 100 := by
  intro n
  induction n with
  | zero => intro _ q hq; exact e q hq
  | succ n ih =>
    intro hn q hq
    have ih := ih (by omega)
    obtain ⟨⟨a1, a2⟩, ⟨b1, b2⟩, ⟨s1, s2⟩, -⟩ := hl n (by omega)
    have ip := ih (p n) b2
    have iq := ih q hq
    have m1 : carX c p s h' n (p n) * s n ≤ 100 * 100 := Nat.mul_le_mul ip.2 s2
    have e1 : carN g h (n + 1) q = upd (carN g h n) (c n) (zmax (carN g h n (c n)) (carN g h n (p n) * g 17 n / nI 100)) q := by
      show upd (carN g h n) (cn (g 15 n)) (zmax (carN g h n (cn (g 15 n))) (carN g h n (cn (g 16 n)) * g 17 n / nI 100)) q = _
      rw [a1, b1, cn_nI (show c n < 2 ^ 31 by omega), cn_nI (show p n < 2 ^ 31 by omega)]
    have e2 : carX c p s h' (n + 1) q = if q = c n then max (carX c p s h' n q) (carX c p s h' n (p n) * s n / 100) else carX c p s h' n q := rfl
    rw [e1, e2]
    by_cases eq : q = c n
    · rw [if_pos eq, ← eq, us, iq.1, ip.1, s1, pk_mul, pk_div (by omega) (by decide) (by decide), zmax_N (by omega) (by omega)]
      exact ⟨rfl, by omega⟩
    · rw [if_neg eq, un eq]; exact iq
/-- one of the places raised to x at least -/
theorem carX_up {c p s : Nat → Nat} {N : Nat} (hcp : ∀ j, j < N → p j / 36 < c j / 36) {h h2 : Nat → Nat} {t x : Nat} (h1 : ∀ q, q ≠ t → h2 q = h q) (ht : h2 t = max (h t) x) : ∀ n, n ≤ N → (∀ q, carX c p s h n q ≤ carX c p s h2 n q) ∧ (∀ q, q ≠ t → q / 36 ≤ t / 36 → carX c p s h2 n q = carX c p s h n q) ∧ carX c p s h2 n t = max (carX c p s h n t) x := by
  intro n
  induction n with
  | zero =>
    intro _
    refine ⟨fun q => ?_, fun q hq _ => h1 q hq, ht⟩
    show h q ≤ h2 q
    by_cases e : q = t
    · rw [e, ht]; omega
    · rw [h1 q e]; exact Nat.le_refl _
  | succ n ih =>
    intro hn
    obtain ⟨i1, i2, i3⟩ := ih (by omega)
    have hc := hcp n (by omega)
    have E : ∀ k q, carX c p s k (n + 1) q = if q = c n then max (carX c p s k n q) (carX c p s k n (p n) * s n / 100) else carX c p s k n q := fun _ _ => rfl
    have M : carX c p s h n (p n) * s n / 100 ≤ carX c p s h2 n (p n) * s n / 100 := Nat.div_le_div_right (Nat.mul_le_mul_right _ (i1 _))
    refine ⟨fun q => ?_, fun q hq hq2 => ?_, ?_⟩
    · rw [E, E]
      have := i1 q
      by_cases e : q = c n
      · rw [if_pos e, if_pos e]; omega
      · rw [if_neg e, if_neg e]; exact this
    · rw [E, E]
      by_cases e : q = c n
      · have hp : p n / 36 < t / 36 := by rw [← e] at hc; omega
        rw [if_pos e, if_pos e, i2 q hq hq2, i2 (p n) (fun z => by rw [z] at hp; omega) (by omega)]
      · rw [if_neg e, if_neg e]; exact i2 q hq hq2
    · rw [E, E]
      by_cases e : t = c n
      · have hp : p n / 36 < t / 36 := by rw [← e] at hc; exact hc
        rw [if_pos e, if_pos e, i3, i2 (p n) (fun z => by rw [z] at hp; omega) (by omega)]; omega
      · rw [if_neg e, if_neg e]; exact i3
/-! what the law carries of the desk's numbers, once its sets, sources and versions are there -/
def pcl (g : Nat → Nat → Int32) (j : Nat) : Nat := (j + 1) * 36 + (nF g (j + 1) - 1)
def ppl (j : Nat) : Nat := j * 36
def psh (g : Nat → Nat → Int32) (j : Nat) : Nat := cn (g 17 j)
def pOw (g : Nat → Nat → Int32) (q : Nat) : Nat := cn (g 19 q)
def hmN (g : Nat → Nat → Int32) (n : Nat) : Nat → Nat := carX (pcl g) ppl (psh g) (pOw g) (n - 1)
def pA (g : Nat → Nat → Int32) (n : Nat) : Prop := (2 ≤ n ∧ n ≤ 5) ∧ (∀ i, i < n → nV g i = 1) ∧ (∀ i, i < n → ∃ r, g 9 (i * 6) = nI r ∧ 1 ≤ r ∧ r ≤ 5049) ∧ ∀ i f, i < n → f < nF g i → nb (g 10 (i * 6 + f)) 100
def pL (g : Nat → Nat → Int32) (n : Nat) : Prop := ∀ j, j < n - 1 → g 15 j = nI (pcl g j) ∧ g 16 j = nI (ppl j) ∧ nb (g 17 j) 101
def pH (g : Nat → Nat → Int32) (n : Nat) : Prop := (∀ p, p < 288 → nb (g 19 p) 101) ∧ ∀ p, p < 288 → g 21 p = nI (hmN g n p)
def pC (g : Nat → Nat → Int32) (n5 : Nat) : Prop := c5 g ∧ ∀ q, n5 * 6 ≤ q → g 38 q = 0
def pK (g : Nat → Nat → Int32) (n n4 : Nat) : Prop := ∀ c, c < n4 → ∃ i z, i < n ∧ g 24 c = nI i ∧ g 25 c = nI z ∧ z < 2 ^ nF g i
def rCv (g : Nat → Nat → Int32) (n4 r : Nat) : Prop := g 32 r &&& (orN (fOpen g (nI (cn (g 29 r))) (nI (cn (g 30 r))) (nI 1 <<< (nI (cn (g 34 r)) &&& 31)) (nI (cn (g 35 r))) (-1)) n4 ^^^ (-1)) = 0
def rI (g : Nat → Nat → Int32) (n n4 r : Nat) : Prop := nb (g 29 r) 6 ∧ cn (g 30 r) < n ∧ nb (g 34 r) 4 ∧ nb (g 35 r) 360 ∧ (nb (g 36 r) 5 ∧ 2 ≤ cn (g 36 r)) ∧ rCv g n4 r
def pR (g : Nat → Nat → Int32) (n n4 n5 : Nat) : Prop := (∀ r, r < n5 → rI g n n4 r) ∧ (∀ r, r < n5 → cn (g 35 r) ≤ cn (g 0 0)) ∧ ∀ r, r + 1 < n5 → cn (g 35 r) ≤ cn (g 35 (r + 1))
def pI (g : Nat → Nat → Int32) (n n4 n5 : Nat) : Prop := dI g n (n - 1) (n - 1) n4 n5 ∧ pA g n ∧ pL g n ∧ pH g n ∧ pC g n5 ∧ pK g n n4 ∧ pR g n n4 n5
section PI
variable {g : Nat → Nat → Int32} {n n4 n5 : Nat}
theorem pI.d (h : pI g n n4 n5) : dI g n (n - 1) (n - 1) n4 n5 := h.1
theorem pI.n2 (h : pI g n n4 n5) : 2 ≤ n := h.2.1.1.1
theorem pI.n5b (h : pI g n n4 n5) : n ≤ 5 := h.2.1.1.2
theorem pI.b4 (h : pI g n n4 n5) : n4 ≤ 16 := h.1.2.2.2.2.2.2.1.2
theorem pI.b5 (h : pI g n n4 n5) : n5 ≤ 40 := h.1.2.2.2.2.2.2.2.1.2
theorem pI.e4 (h : pI g n n4 n5) : g 4 0 = nI n4 := h.1.2.2.2.2.2.2.1.1
theorem pI.e5 (h : pI g n n4 n5) : g 5 0 = nI n5 := h.1.2.2.2.2.2.2.2.1.1
theorem pI.day (h : pI g n n4 n5) : g 0 0 = nI (cn (g 0 0)) ∧ cn (g 0 0) < 360 := h.1.2.2.2.2.2.2.2.2.2
theorem pI.f (h : pI g n n4 n5) {i : Nat} (hi : i < n) : g 7 i = nI (nF g i) ∧ 0 < nF g i ∧ nF g i < 7 := by
  have k := h.1.2.1 i hi
  exact ⟨k.1.1, k.2.2, k.1.2⟩
theorem pI.v (h : pI g n n4 n5) {i : Nat} (hi : i < n) : nV g i = 1 := h.2.1.2.1 i hi
theorem pI.v8 (h : pI g n n4 n5) {i : Nat} (hi : i < n) : g 8 i = nI 1 := by
  have k := (h.1.2.1 i hi).2.1.1
  have e : cn (g 8 i) = 1 := h.v hi
  rw [e] at k
  exact k
theorem pI.rw (h : pI g n n4 n5) {i : Nat} (hi : i < n) : ∃ r, rowsL g i = nI r ∧ 1 ≤ r ∧ r ≤ 5049 := by
  obtain ⟨r, h1, h2⟩ := h.2.1.2.2.1 i hi
  refine ⟨r, ?_, h2⟩
  unfold rowsL
  rw [h.v hi, if_neg (by decide)]
  exact h1
theorem pI.pr (h : pI g n n4 n5) {i f : Nat} (hi : i < n) (hf : f < nF g i) : nb (g 10 (i * 6 + f)) 100 := h.2.1.2.2.2 i f hi hf
theorem pI.lk (h : pI g n n4 n5) : lkX g (pcl g) ppl (psh g) (n - 1) := fun j hj => by
  obtain ⟨h1, h2, h3⟩ := h.2.2.1 j hj
  have h4 := h.n5b
  have h5 := h.f (show j + 1 < n by omega)
  have e1 : pcl g j = (j + 1) * 36 + (nF g (j + 1) - 1) := rfl
  have e2 : ppl j = j * 36 := rfl
  exact ⟨⟨h1, by omega⟩, ⟨h2, by omega⟩, ⟨h3.1, Nat.le_of_lt_succ h3.2⟩, by omega⟩
theorem pI.own (h : pI g n n4 n5) {q : Nat} (hq : q < 288) : g 19 q = nI (pOw g q) ∧ pOw g q ≤ 100 := ⟨(h.2.2.2.1.1 q hq).1, Nat.le_of_lt_succ (h.2.2.2.1.1 q hq).2⟩
theorem pI.hm (h : pI g n n4 n5) {q : Nat} (hq : q < 288) : g 21 q = nI (hmN g n q) ∧ hmN g n q ≤ 100 := ⟨h.2.2.2.1.2 q hq, (carN_X h.lk (fun _ hq => h.own hq) (n - 1) (Nat.le_refl _) q hq).2⟩
theorem pI.c5 (h : pI g n n4 n5) : c5 g := h.2.2.2.2.1.1
theorem pI.c0 (h : pI g n n4 n5) {q : Nat} (hq : n5 * 6 ≤ q) : g 38 q = 0 := h.2.2.2.2.1.2 q hq
theorem pI.rd (h : pI g n n4 n5) {r : Nat} (hr : r < n5) : nb (g 30 r) 8 ∧ nb (g 31 r) 6 := h.1.2.2.2.2.2.2.2.2.1 r hr
theorem pI.r (h : pI g n n4 n5) {r : Nat} (hr : r < n5) : rI g n n4 r := h.2.2.2.2.2.2.1 r hr
theorem pI.dd (h : pI g n n4 n5) {r : Nat} (hr : r < n5) : cn (g 35 r) ≤ cn (g 0 0) := h.2.2.2.2.2.2.2.1 r hr
theorem pI.dm (h : pI g n n4 n5) {r : Nat} (hr : r + 1 < n5) : cn (g 35 r) ≤ cn (g 35 (r + 1)) := h.2.2.2.2.2.2.2.2 r hr
theorem pI.ch (h : pI g n n4 n5) {r : Nat} (hr : r < n5) : chN g r = nI (chX g r) := chN_X h.c5 (by have := h.b5; omega)
theorem pI.cr (h : pI g n n4 n5) {r : Nat} (hr : r < n5) : crN g 21 r = nI (crX g (hmN g n) r) := crN_X h.c5 (by have := h.b5; omega) (h.rd hr).1 (h.rd hr).2 (fun _ hp => h.hm hp)
theorem pI.crle (h : pI g n n4 n5) {r : Nat} (hr : r < n5) : crX g (hmN g n) r ≤ chX g r ∧ chX g r ≤ 30000 := ⟨crX_le (h.rd hr).1 (h.rd hr).2 (fun _ hp => (h.hm hp).2), chX_b h.c5 (by have := h.b5; omega)⟩
theorem ofB_a (g : Nat → Nat → Int32) (r : Nat) : ofB g r (-1) (-1) = true := by
  unfold ofB
  rw [decide_eq_true (show (-1 : Int32) = -1 from rfl)]; rfl
theorem pI.m5 (h : pI g n n4 n5) : manyN g n n5 5 = nI (nS (chX g) n5) := sumN_nS (f := fCh g (-1) (-1)) fun r hr => by
  unfold fCh
  rw [ofB_a, if_pos rfl]; exact h.ch hr
theorem pI.m6 (h : pI g n n4 n5) : manyN g n n5 6 = nI (CR g (hmN g n) n5) := sumN_nS (f := fCr g (-1) (-1) 21) fun r hr => by
  unfold fCr
  rw [ofB_a, if_pos rfl]; exact h.cr hr
theorem pI.chb (h : pI g n n4 n5) : ∀ k, k ≤ n5 → nS (chX g) k ≤ 1200000 := fun k hk => by
  have h1 : nS (chX g) k ≤ k * 30000 := nS_b fun r hr => (h.crle (by omega)).2
  have h2 := h.b5
  omega
theorem pI.crb (h : pI g n n4 n5) : ∀ k, k ≤ n5 → CR g (hmN g n) k ≤ nS (chX g) k := fun k hk => nS_le fun r hr => (h.crle (by omega)).1
theorem pI.CRb (h : pI g n n4 n5) : CR g (hmN g n) n5 ≤ 1200000 := Nat.le_trans (h.crb n5 (Nat.le_refl _)) (h.chb n5 (Nat.le_refl _))
end PI
