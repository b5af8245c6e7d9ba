/-! what the model's world is, in terms of the desk's numbers g -/
theorem us {f : Nat → Int32} {k : Nat} {x : Int32} : upd f k x k = x := if_pos rfl
theorem un {f : Nat → Int32} {k j : Nat} {x : Int32} (h : j ≠ k) : upd f k x j = f j := if_neg h
/-- six of a row -/
def row6 (h : Nat → Int32) (b : Nat) : Nat → Int32 := fun f => if f < 6 then h (b + f) else 0
theorem row6_at {h : Nat → Int32} {b f : Nat} (hf : f < 6) : row6 h b f = h (b + f) := if_pos hf
theorem row6_e {h h' : Nat → Int32} {b : Nat} (e : ∀ f, f < 6 → h (b + f) = h' (b + f)) : row6 h b = row6 h' b := by
  funext f; unfold row6; split
  · rename_i q; exact e f q
  · rfl
theorem row6_u {h : Nat → Int32} {b f : Nat} {x : Int32} (hf : f < 6) : upd (row6 h b) f x = row6 (upd h (b + f) x) b := by
  funext j; unfold upd row6
  by_cases e : j = f
  · subst e; rw [if_pos rfl, if_pos hf]; exact us.symm
  · rw [if_neg e]
    by_cases q : j < 6
    · rw [if_pos q, if_pos q]; exact (un (f := h) (by omega)).symm
    · rw [if_neg q, if_neg q]
theorem row6_o {h : Nat → Int32} {b j : Nat} {x : Int32} (hj : j < b ∨ b + 6 ≤ j) : row6 (upd h j x) b = row6 h b := row6_e fun f hf => un (by omega)
/-- what the readers saw of the set i -/
def prvR (h : Nat → Int32) (i : Nat) : Nat → Int32 := fun r => if r < 6 then h (r * 8 + i) else 0
theorem prvR_at {h : Nat → Int32} {i r : Nat} (hr : r < 6) : prvR h i r = h (r * 8 + i) := if_pos hr
theorem prvR_e {h h' : Nat → Int32} {i : Nat} (e : ∀ r, r < 6 → h (r * 8 + i) = h' (r * 8 + i)) : prvR h i = prvR h' i := by
  funext f; unfold prvR; split
  · rename_i q; exact e f q
  · rfl
theorem prvR_u {h : Nat → Int32} {i r : Nat} {x : Int32} (hr : r < 6) : upd (prvR h i) r x = prvR (upd h (r * 8 + i) x) i := by
  funext j; unfold upd prvR
  by_cases e : j = r
  · subst e; rw [if_pos rfl, if_pos hr]; exact us.symm
  · rw [if_neg e]
    by_cases q : j < 6
    · rw [if_pos q, if_pos q]; exact (un (f := h) (by omega)).symm
    · rw [if_neg q, if_neg q]
theorem prvR_o {h : Nat → Int32} {i j r : Nat} {x : Int32} (hi : i < 8) (hj : j < 8) (hn : i ≠ j) : prvR (upd h (r * 8 + j) x) i = prvR h i := prvR_e fun f hf => un (by omega)
/-- the links of the place p, in their order -/
def lkl (g : Nat → Nat → Int32) (nL p : Nat) : List Nat := (List.range nL).filter (fun j => decide (g 15 j = nI p))
theorem lkl_s (g : Nat → Nat → Int32) (n p : Nat) : lkl g (n + 1) p = lkl g n p ++ (if g 15 n = nI p then [n] else []) := by
  unfold lkl; rw [List.range_succ, List.filter_append]
  congr 1
  by_cases h : g 15 n = nI p
  · rw [if_pos h, List.filter_cons_of_pos (by simpa using h), List.filter_nil]
  · rw [if_neg h, List.filter_cons_of_neg (by simpa using h), List.filter_nil]
theorem lkl_mem {g : Nat → Nat → Int32} {n p j : Nat} : j ∈ lkl g n p ↔ j < n ∧ g 15 j = nI p := by
  unfold lkl; rw [List.mem_filter, List.mem_range, decide_eq_true_eq]
/-- the k-th link of the place p -/
def lkj (g : Nat → Nat → Int32) (nL p k : Nat) : Nat := (lkl g nL p).getD k 0
theorem lkj_mem {g : Nat → Nat → Int32} {n p k : Nat} (h : k < (lkl g n p).length) : lkj g n p k < n ∧ g 15 (lkj g n p k) = nI p := by
  rw [← lkl_mem]; unfold lkj
  rw [List.getD_eq_getElem?_getD, List.getElem?_eq_getElem h]
  exact List.getElem_mem h
/-- what always holds of the desk's numbers, all of it -/
def gI (g : Nat → Nat → Int32) (n1 n2 nL n4 n5 : Nat) : Prop :=
  dI g n1 n2 nL n4 n5 ∧
  (∀ j, j < nL → cn (g 16 j) / 36 < cn (g 15 j) / 36 ∧ cn (g 15 j) / 36 < n1 ∧ cn (g 15 j) / 6 % 6 < nV g (cn (g 15 j) / 36) ∧ cn (g 16 j) / 6 % 6 < nV g (cn (g 16 j) / 36)) ∧
  (∀ j k, j < nL → k < nL → g 15 k = g 16 j → k < j) ∧
  (∀ p, p < 288 → g 21 p = carN g (g 19) nL p) ∧
  (∀ p, p < 288 → ¬ (p / 36 < n1 ∧ p / 6 % 6 < nV g (p / 36)) → g 19 p = 0 ∧ g 20 p = 0) ∧
  (∀ p, p < 288 → (lkl g nL p).length ≤ 20) ∧
  (∀ r i, r < 6 → n1 ≤ i → i < 8 → g 6 (r * 8 + i) = 0) ∧
  (∀ i, n1 ≤ i → i < 8 → g 8 i = 0) ∧
  (∀ p, n5 * 6 ≤ p → g 38 p = 0) ∧ (∀ r, n5 ≤ r → g 37 r = 0)
section GI
variable {g : Nat → Nat → Int32} {n1 n2 nL n4 n5 : Nat}
theorem gI.d (h : gI g n1 n2 nL n4 n5) : dI g n1 n2 nL n4 n5 := h.1
theorem gI.b1 (h : gI g n1 n2 nL n4 n5) : n1 ≤ 8 := h.1.1.2
theorem gI.b2 (h : gI g n1 n2 nL n4 n5) : n2 ≤ 20 := h.1.2.2.1.2
theorem gI.bL (h : gI g n1 n2 nL n4 n5) : nL ≤ 120 := h.1.2.2.2.2.1.2
theorem gI.b4 (h : gI g n1 n2 nL n4 n5) : n4 ≤ 16 := h.1.2.2.2.2.2.2.1.2
theorem gI.b5 (h : gI g n1 n2 nL n4 n5) : n5 ≤ 40 := h.1.2.2.2.2.2.2.2.1.2
theorem gI.f7 (h : gI g n1 n2 nL n4 n5) {i : Nat} (hi : i < n1) : g 7 i = nI (nF g i) ∧ 0 < nF g i ∧ nF g i < 7 := by
  have k := h.1.2.1 i hi
  exact ⟨k.1.1, k.2.2, k.1.2⟩
theorem gI.v7 (h : gI g n1 n2 nL n4 n5) {i : Nat} (hi : i < n1) : g 8 i = nI (nV g i) ∧ nV g i < 7 := by
  have k := h.1.2.1 i hi
  exact ⟨k.2.1.1, k.2.1.2⟩
theorem gI.day (h : gI g n1 n2 nL n4 n5) : g 0 0 = nI (cn (g 0 0)) ∧ cn (g 0 0) < 360 := h.1.2.2.2.2.2.2.2.2.2
theorem gI.rd (h : gI g n1 n2 nL n4 n5) {r : Nat} (hr : r < n5) : (g 30 r = nI (cn (g 30 r)) ∧ cn (g 30 r) < 8) ∧ g 31 r = nI (cn (g 31 r)) ∧ cn (g 31 r) < 6 := by
  have k := h.1.2.2.2.2.2.2.2.2.1 r hr
  exact ⟨k.1, k.2⟩
theorem gI.src (h : gI g n1 n2 nL n4 n5) {j : Nat} (hj : j < n2) : (g 12 j = nI (cn (g 12 j)) ∧ cn (g 12 j) < 48) ∧ (g 13 j = nI (cn (g 13 j)) ∧ cn (g 13 j) < 48) ∧ cn (g 12 j) / 6 < n1 ∧ cn (g 13 j) / 6 < cn (g 12 j) / 6 := h.1.2.2.2.1 j hj
theorem gI.lk (h : gI g n1 n2 nL n4 n5) {j : Nat} (hj : j < nL) : (g 15 j = nI (cn (g 15 j)) ∧ cn (g 15 j) < 288) ∧ g 16 j = nI (cn (g 16 j)) ∧ cn (g 16 j) < 288 := by
  have k := h.1.2.2.2.2.2.1 j hj
  exact ⟨k.1, k.2⟩
theorem gI.lkp (h : gI g n1 n2 nL n4 n5) {j : Nat} (hj : j < nL) : cn (g 16 j) / 36 < cn (g 15 j) / 36 ∧ cn (g 15 j) / 36 < n1 ∧ cn (g 15 j) / 6 % 6 < nV g (cn (g 15 j) / 36) ∧ cn (g 16 j) / 6 % 6 < nV g (cn (g 16 j) / 36) := h.2.1 j hj
theorem gI.ord (h : gI g n1 n2 nL n4 n5) {j k : Nat} (hj : j < nL) (hk : k < nL) (e : g 15 k = g 16 j) : k < j := h.2.2.1 j k hj hk e
theorem gI.set (h : gI g n1 n2 nL n4 n5) {p : Nat} (hp : p < 288) : g 21 p = carN g (g 19) nL p := h.2.2.2.1 p hp
theorem gI.zero (h : gI g n1 n2 nL n4 n5) {p : Nat} (hp : p < 288) (hn : ¬ (p / 36 < n1 ∧ p / 6 % 6 < nV g (p / 36))) : g 19 p = 0 ∧ g 20 p = 0 := h.2.2.2.2.1 p hp hn
theorem gI.len (h : gI g n1 n2 nL n4 n5) {p : Nat} (hp : p < 288) : (lkl g nL p).length ≤ 20 := h.2.2.2.2.2.1 p hp
theorem gI.prv (h : gI g n1 n2 nL n4 n5) {r i : Nat} (hr : r < 6) (hi : n1 ≤ i) (hi8 : i < 8) : g 6 (r * 8 + i) = 0 := h.2.2.2.2.2.2.1 r i hr hi hi8
theorem gI.ver (h : gI g n1 n2 nL n4 n5) {i : Nat} (hi : n1 ≤ i) (hi8 : i < 8) : g 8 i = 0 := h.2.2.2.2.2.2.2.1 i hi hi8
theorem gI.chg (h : gI g n1 n2 nL n4 n5) {p : Nat} (hp : n5 * 6 ≤ p) : g 38 p = 0 := h.2.2.2.2.2.2.2.2.1 p hp
theorem gI.bil (h : gI g n1 n2 nL n4 n5) {r : Nat} (hr : n5 ≤ r) : g 37 r = 0 := h.2.2.2.2.2.2.2.2.2 r hr
end GI
/-! along the links -/
theorem carN_st {g : Nat → Nat → Int32} {h : Nat → Int32} {n N p : Nat} (hn : n ≤ N) (hno : ∀ j, n ≤ j → j < N → cn (g 15 j) ≠ p) : carN g h N p = carN g h n p := by
  induction N with
  | zero => rw [show n = 0 by omega]
  | succ N ih =>
    by_cases e : n = N + 1
    · rw [e]
    · have k := ih (by omega) (fun j h1 h2 => hno j h1 (by omega))
      rw [← k]
      show csS g (carN g h N) N p = _
      unfold csS
      exact un (fun z => hno N (by omega) (by omega) z.symm)
/-- the greatest of b and what the links bring, H the harm of all places -/
def wst (g : Nat → Nat → Int32) (H : Nat → Int32) (b : Int32) : List Nat → Int32
  | [] => b
  | j :: l => wst g H (zmax b (H (cn (g 16 j)) * g 17 j / nI 100)) l
theorem wst_app (g : Nat → Nat → Int32) (H : Nat → Int32) (b : Int32) (l1 l2 : List Nat) : wst g H b (l1 ++ l2) = wst g H (wst g H b l1) l2 := by
  induction l1 generalizing b with
  | nil => rfl
  | cons j l ih => exact ih _
theorem wst_take {g : Nat → Nat → Int32} {H : Nat → Int32} {b : Int32} {l : List Nat} {k : Nat} (hk : k < l.length) : wst g H b (l.take (k + 1)) = zmax (wst g H b (l.take k)) (H (cn (g 16 (l.getD k 0))) * g 17 (l.getD k 0) / nI 100) := by
  have e : l.take (k + 1) = l.take k ++ [l.getD k 0] := by
    rw [List.take_succ, List.getD_eq_getElem?_getD, List.getElem?_eq_getElem hk]; rfl
  rw [e, wst_app]; rfl
/-- the harm of a place comes of its own and of its links' -/
theorem car_wst {g : Nat → Nat → Int32} {n1 n2 nL n4 n5 : Nat} (hI : gI g n1 n2 nL n4 n5) (h : Nat → Int32) {p : Nat} (hp : p < 288) : carN g h nL p = wst g (carN g h nL) (h p) (lkl g nL p) := by
  have key : ∀ n, n ≤ nL → carN g h n p = wst g (carN g h nL) (h p) (lkl g n p) := by
    intro n
    induction n with
    | zero => intro _; rfl
    | succ n ih =>
      intro hn
      have ih := ih (by omega)
      obtain ⟨⟨e15, b15⟩, e16, b16⟩ := hI.lk (show n < nL by omega)
      have hst : carN g h n (cn (g 16 n)) = carN g h nL (cn (g 16 n)) := by
        refine (carN_st (by omega) (fun j h1 h2 e => ?_)).symm
        have := hI.ord (show n < nL by omega) h2 (by rw [(hI.lk h2).1.1, e, ← e16])
        omega
      rw [lkl_s, wst_app, ← ih]
      show csS g (carN g h n) n p = _
      unfold csS
      by_cases e : g 15 n = nI p
      · have e2 : cn (g 15 n) = p := by rw [e]; exact cn_nI (by omega)
        rw [if_pos e, ← e2, us, hst]; rfl
      · have e2 : p ≠ cn (g 15 n) := fun z => e (by rw [e15, z])
        rw [if_neg e, un e2]; rfl
  exact key nL (Nat.le_refl _)
theorem gI_wst {g : Nat → Nat → Int32} {n1 n2 nL n4 n5 : Nat} (h : gI g n1 n2 nL n4 n5) {p : Nat} (hp : p < 288) : g 21 p = wst g (g 21) (g 19 p) (lkl g nL p) := by
  rw [h.set hp, car_wst h (g 19) hp]
  have key : ∀ (l : List Nat) (b : Int32), (∀ j ∈ l, j < nL) → wst g (carN g (g 19) nL) b l = wst g (g 21) b l := by
    intro l
    induction l with
    | nil => intro b _; rfl
    | cons j l ih =>
      intro b hl
      show wst g _ (zmax b (carN g (g 19) nL (cn (g 16 j)) * g 17 j / nI 100)) l = wst g _ (zmax b (g 21 (cn (g 16 j)) * g 17 j / nI 100)) l
      rw [h.set (h.lk (hl j List.mem_cons_self)).2.2]
      exact ih _ (fun k hk => hl k (List.mem_cons_of_mem _ hk))
  exact key _ _ (fun j hj => (lkl_mem.mp hj).1)
theorem gI_none {g : Nat → Nat → Int32} {n1 n2 nL n4 n5 : Nat} (h : gI g n1 n2 nL n4 n5) {p : Nat} (hp : p < 288) (hn : ¬ (p / 36 < n1 ∧ p / 6 % 6 < nV g (p / 36))) : g 21 p = 0 := by
  rw [h.set hp, carN_st (Nat.zero_le _) (fun j _ hj e => ?_)]
  · exact (h.zero hp hn).1
  · have k := h.lkp hj
    rw [e] at k
    exact hn ⟨k.2.1, k.2.2.1⟩
/-! the model's cells -/
section MC
variable (ty : Nat → ClassId) (t0 : Nat) (g : Nat → Nat → Int32) (nL : Nat) (rep bro : Nat → Nat → Int32) (u : Nat → Nat → Prop) (C : Nat → Nat → va_E) (ma : Nat → Nat → Nat)
def oC (th : Int32) (d : Int32) : va_E := eO 13 [.int th, .ref (ma 1 0), .ref (ma 3 0), .ref (ma 5 0), .ref (ma 7 0), .int d]
def sC (i : Nat) : va_E := eO 8 [.int (g 7 i), .ref (ma 10 i), .ref (ma 11 i), .ref (ma 12 i), .ref (ma 14 i)]
def vC (q : Nat) : va_E := eO 12 [.int (g 9 q), .ref (ma 16 q), .ref (ma 17 q), .ref (ma 18 q), .ref (ma 19 q)]
def kC (j : Nat) : va_E := eO 9 [.int (nI (cn (g 16 j) / 36)), .int (nI (cn (g 16 j) / 6 % 6)), .int (nI (cn (g 16 j) % 6)), .int (g 17 j)]
def qC (j : Nat) : va_E := eO 11 [.int (nI (cn (g 12 j) / 6)), .int (nI (cn (g 12 j) % 6)), .int (nI (cn (g 13 j) / 6)), .int (nI (cn (g 13 j) % 6)), .int (g 14 j)]
def cC (c : Nat) : va_E := eO 7 [.int (g 23 c), .int (g 24 c), .int (g 25 c), .int (g 26 c), .int (g 27 c), .int (g 28 c)]
def rC (r : Nat) : va_E := eO 10 [.int (g 29 r), .int (g 30 r), .int (g 31 r), .int (g 32 r), .int (g 33 r), .int (g 35 r), .int (g 34 r), .int (g 36 r), .ref (ma 27 r), .int (g 37 r)]
def mSet (i : Nat) : Prop := (u 9 i ∧ C 9 i = sC g ma i) ∧ (u 10 i ∧ C 10 i = eI (ty 0) 6 (row6 (g 10) (i * 6))) ∧ (u 11 i ∧ C 11 i = eI (ty 0) 6 (row6 (g 11) (i * 6))) ∧ isL ty t0 u C ma 12 i (nV g i) (fun v => ma 15 (i * 6 + v)) ∧ (u 14 i ∧ C 14 i = eI (ty 0) 6 (prvR (g 6) i))
def mVer (q : Nat) : Prop := (u 15 q ∧ C 15 q = vC g ma q) ∧ (u 16 q ∧ C 16 q = eI (ty 0) 6 (rep q)) ∧ (u 17 q ∧ C 17 q = eI (ty 0) 6 (bro q)) ∧ (u 18 q ∧ C 18 q = eI (ty 1) 6 (row6 (g 20) (q * 6))) ∧ isL ty t0 u C ma 19 q 6 (fun f => ma 21 (q * 6 + f)) ∧ (∀ f, f < 6 → isL ty t0 u C ma 21 (q * 6 + f) (lkl g nL (q * 6 + f)).length (fun k => ma 23 (lkj g nL (q * 6 + f) k))) ∧ ∀ f, f < 6 → zmax (rep q f) (bro q f) = g 19 (q * 6 + f) ∧ (g 20 (q * 6 + f) = 0 → bro q f = 0)
def mRd (r : Nat) : Prop := (u 26 r ∧ C 26 r = rC g ma r) ∧ u 27 r ∧ C 27 r = eI (ty 0) 6 (row6 (g 38) (r * 6))
end MC
def mR (ty : Nat → ClassId) (t0 : Nat) (g : Nat → Nat → Int32) (n1 n2 nL n4 n5 : Nat) (th : Int32) (rep bro : Nat → Nat → Int32) (u : Nat → Nat → Prop) (C : Nat → Nat → va_E) (ma : Nat → Nat → Nat) : Prop :=
  gI g n1 n2 nL n4 n5 ∧ (u 0 0 ∧ C 0 0 = oC ma th (g 0 0)) ∧
  isL ty t0 u C ma 1 0 n1 (ma 9) ∧ isL ty t0 u C ma 3 0 n2 (ma 24) ∧ isL ty t0 u C ma 5 0 n4 (ma 25) ∧ isL ty t0 u C ma 7 0 n5 (ma 26) ∧
  (∀ i, i < n1 → mSet ty t0 g u C ma i) ∧ (∀ i v, i < n1 → v < nV g i → mVer ty t0 g nL rep bro u C ma (i * 6 + v)) ∧
  (∀ j, j < n2 → u 24 j ∧ C 24 j = qC g j) ∧ (∀ j, j < nL → u 23 j ∧ C 23 j = kC g j) ∧ (∀ c, c < n4 → u 25 c ∧ C 25 c = cC g c) ∧ ∀ r, r < n5 → mRd ty g u C ma r
section MRA
variable {ty : Nat → ClassId} {t0 : Nat} {g : Nat → Nat → Int32} {n1 n2 nL n4 n5 : Nat} {th : Int32} {rep bro : Nat → Nat → Int32} {u : Nat → Nat → Prop} {C : Nat → Nat → va_E} {ma : Nat → Nat → Nat}
theorem mR.I (h : mR ty t0 g n1 n2 nL n4 n5 th rep bro u C ma) : gI g n1 n2 nL n4 n5 := h.1
theorem mR.o (h : mR ty t0 g n1 n2 nL n4 n5 th rep bro u C ma) : u 0 0 ∧ C 0 0 = oC ma th (g 0 0) := h.2.1
theorem mR.l1 (h : mR ty t0 g n1 n2 nL n4 n5 th rep bro u C ma) : isL ty t0 u C ma 1 0 n1 (ma 9) := h.2.2.1
theorem mR.l3 (h : mR ty t0 g n1 n2 nL n4 n5 th rep bro u C ma) : isL ty t0 u C ma 3 0 n2 (ma 24) := h.2.2.2.1
theorem mR.l5 (h : mR ty t0 g n1 n2 nL n4 n5 th rep bro u C ma) : isL ty t0 u C ma 5 0 n4 (ma 25) := h.2.2.2.2.1
theorem mR.l7 (h : mR ty t0 g n1 n2 nL n4 n5 th rep bro u C ma) : isL ty t0 u C ma 7 0 n5 (ma 26) := h.2.2.2.2.2.1
theorem mR.sets (h : mR ty t0 g n1 n2 nL n4 n5 th rep bro u C ma) {i : Nat} (hi : i < n1) : mSet ty t0 g u C ma i := h.2.2.2.2.2.2.1 i hi
theorem mR.s9 (h : mR ty t0 g n1 n2 nL n4 n5 th rep bro u C ma) {i : Nat} (hi : i < n1) : u 9 i ∧ C 9 i = sC g ma i := (h.sets hi).1
theorem mR.s10 (h : mR ty t0 g n1 n2 nL n4 n5 th rep bro u C ma) {i : Nat} (hi : i < n1) : u 10 i ∧ C 10 i = eI (ty 0) 6 (row6 (g 10) (i * 6)) := (h.sets hi).2.1
theorem mR.s11 (h : mR ty t0 g n1 n2 nL n4 n5 th rep bro u C ma) {i : Nat} (hi : i < n1) : u 11 i ∧ C 11 i = eI (ty 0) 6 (row6 (g 11) (i * 6)) := (h.sets hi).2.2.1
theorem mR.s12 (h : mR ty t0 g n1 n2 nL n4 n5 th rep bro u C ma) {i : Nat} (hi : i < n1) : isL ty t0 u C ma 12 i (nV g i) (fun v => ma 15 (i * 6 + v)) := (h.sets hi).2.2.2.1
theorem mR.s14 (h : mR ty t0 g n1 n2 nL n4 n5 th rep bro u C ma) {i : Nat} (hi : i < n1) : u 14 i ∧ C 14 i = eI (ty 0) 6 (prvR (g 6) i) := (h.sets hi).2.2.2.2
theorem mR.vers (h : mR ty t0 g n1 n2 nL n4 n5 th rep bro u C ma) {i v : Nat} (hi : i < n1) (hv : v < nV g i) : mVer ty t0 g nL rep bro u C ma (i * 6 + v) := h.2.2.2.2.2.2.2.1 i v hi hv
theorem mR.v15 (h : mR ty t0 g n1 n2 nL n4 n5 th rep bro u C ma) {i v : Nat} (hi : i < n1) (hv : v < nV g i) : u 15 (i * 6 + v) ∧ C 15 (i * 6 + v) = vC g ma (i * 6 + v) := (h.vers hi hv).1
theorem mR.v16 (h : mR ty t0 g n1 n2 nL n4 n5 th rep bro u C ma) {i v : Nat} (hi : i < n1) (hv : v < nV g i) : u 16 (i * 6 + v) ∧ C 16 (i * 6 + v) = eI (ty 0) 6 (rep (i * 6 + v)) := (h.vers hi hv).2.1
theorem mR.v17 (h : mR ty t0 g n1 n2 nL n4 n5 th rep bro u C ma) {i v : Nat} (hi : i < n1) (hv : v < nV g i) : u 17 (i * 6 + v) ∧ C 17 (i * 6 + v) = eI (ty 0) 6 (bro (i * 6 + v)) := (h.vers hi hv).2.2.1
theorem mR.v18 (h : mR ty t0 g n1 n2 nL n4 n5 th rep bro u C ma) {i v : Nat} (hi : i < n1) (hv : v < nV g i) : u 18 (i * 6 + v) ∧ C 18 (i * 6 + v) = eI (ty 1) 6 (row6 (g 20) ((i * 6 + v) * 6)) := (h.vers hi hv).2.2.2.1
theorem mR.v19 (h : mR ty t0 g n1 n2 nL n4 n5 th rep bro u C ma) {i v : Nat} (hi : i < n1) (hv : v < nV g i) : isL ty t0 u C ma 19 (i * 6 + v) 6 (fun f => ma 21 ((i * 6 + v) * 6 + f)) := (h.vers hi hv).2.2.2.2.1
theorem mR.v21 (h : mR ty t0 g n1 n2 nL n4 n5 th rep bro u C ma) {i v f : Nat} (hi : i < n1) (hv : v < nV g i) (hf : f < 6) : isL ty t0 u C ma 21 ((i * 6 + v) * 6 + f) (lkl g nL ((i * 6 + v) * 6 + f)).length (fun k => ma 23 (lkj g nL ((i * 6 + v) * 6 + f) k)) := (h.vers hi hv).2.2.2.2.2.1 f hf
theorem mR.own (h : mR ty t0 g n1 n2 nL n4 n5 th rep bro u C ma) {i v f : Nat} (hi : i < n1) (hv : v < nV g i) (hf : f < 6) : zmax (rep (i * 6 + v) f) (bro (i * 6 + v) f) = g 19 ((i * 6 + v) * 6 + f) := ((h.vers hi hv).2.2.2.2.2.2 f hf).1
theorem mR.q24 (h : mR ty t0 g n1 n2 nL n4 n5 th rep bro u C ma) {j : Nat} (hj : j < n2) : u 24 j ∧ C 24 j = qC g j := h.2.2.2.2.2.2.2.2.1 j hj
theorem mR.k23 (h : mR ty t0 g n1 n2 nL n4 n5 th rep bro u C ma) {j : Nat} (hj : j < nL) : u 23 j ∧ C 23 j = kC g j := h.2.2.2.2.2.2.2.2.2.1 j hj
theorem mR.c25 (h : mR ty t0 g n1 n2 nL n4 n5 th rep bro u C ma) {c : Nat} (hc : c < n4) : u 25 c ∧ C 25 c = cC g c := h.2.2.2.2.2.2.2.2.2.2.1 c hc
theorem mR.r26 (h : mR ty t0 g n1 n2 nL n4 n5 th rep bro u C ma) {r : Nat} (hr : r < n5) : u 26 r ∧ C 26 r = rC g ma r := (h.2.2.2.2.2.2.2.2.2.2.2 r hr).1
theorem mR.r27 (h : mR ty t0 g n1 n2 nL n4 n5 th rep bro u C ma) {r : Nat} (hr : r < n5) : u 27 r ∧ C 27 r = eI (ty 0) 6 (row6 (g 38) (r * 6)) := (h.2.2.2.2.2.2.2.2.2.2.2 r hr).2
end MRA
/-- a list is the same where its cells are -/
theorem isL.eqC {ty : Nat → ClassId} {t0 : Nat} {u u' : Nat → Nat → Prop} {C C' : Nat → Nat → va_E} {ma ma' : Nat → Nat → Nat} {kl x n : Nat} {f f' : Nat → Nat} (h : isL ty t0 u C ma kl x n f) (hu : ∀ y, u kl y → u' kl y) (hu1 : ∀ y, u (kl + 1) y → u' (kl + 1) y) (hC : C' kl x = C kl x) (hC1 : C' (kl + 1) x = C (kl + 1) x) (hm : ma' (kl + 1) x = ma (kl + 1) x) (hf : ∀ j, j < n → f' j = f j) : isL ty t0 u' C' ma' kl x n f' := by
  obtain ⟨h1, h2, m, h3 | ⟨h3, h4, h5, cap, k, h6, h7, h8, h9, h10⟩⟩ := h
  · exact ⟨hu _ h1, h2, m, Or.inl ⟨h3.1, hC.trans h3.2⟩⟩
  · exact ⟨hu _ h1, h2, m, Or.inr ⟨h3, hC.trans (by rw [h4, hm]), hu1 _ h5, cap, k, hC1.trans h6, h7, h8, h9, fun j hj => by rw [h10 j hj, hf j hj]⟩⟩
/-- only the model's own object changed: its throw -/
theorem mR.th {ty : Nat → ClassId} {t0 : Nat} {g : Nat → Nat → Int32} {n1 n2 nL n4 n5 : Nat} {th : Int32} {rep bro : Nat → Nat → Int32} {u : Nat → Nat → Prop} {C : Nat → Nat → va_E} {ma : Nat → Nat → Nat} (h : mR ty t0 g n1 n2 nL n4 n5 th rep bro u C ma) (th' : Int32) : mR ty t0 g n1 n2 nL n4 n5 th' rep bro u (up2 C 0 0 (oC ma th' (g 0 0))) ma := by
  have eL : ∀ {kl x n : Nat} {f : Nat → Nat}, 0 < kl → isL ty t0 u C ma kl x n f → isL ty t0 u (up2 C 0 0 (oC ma th' (g 0 0))) ma kl x n f := fun hk h => h.eqC (fun _ z => z) (fun _ z => z) (up2_k _ _ (by omega)) (up2_k _ _ (by omega)) rfl (fun _ _ => rfl)
  have eC : ∀ {k x : Nat} {e : va_E}, 0 < k → u k x ∧ C k x = e → u k x ∧ up2 C 0 0 (oC ma th' (g 0 0)) k x = e := fun hk h => ⟨h.1, (up2_k _ _ (by omega)).trans h.2⟩
  refine ⟨h.I, ⟨h.o.1, up2_s _ _ _ _⟩, eL (by decide) h.l1, eL (by decide) h.l3, eL (by decide) h.l5, eL (by decide) h.l7, fun i hi => ?_, fun i v hi hv => ?_, fun j hj => eC (by decide) (h.q24 hj), fun j hj => eC (by decide) (h.k23 hj), fun c hc => eC (by decide) (h.c25 hc), fun r hr => ?_⟩
  · obtain ⟨h1, h2, h3, h4, h5⟩ := h.sets hi
    exact ⟨eC (by decide) h1, eC (by decide) h2, eC (by decide) h3, eL (by decide) h4, eC (by decide) h5⟩
  · obtain ⟨h1, h2, h3, h4, h5, h6, h7⟩ := h.vers hi hv
    exact ⟨eC (by decide) h1, eC (by decide) h2, eC (by decide) h3, eC (by decide) h4, eL (by decide) h5, fun f hf => eL (by decide) (h6 f hf), h7⟩
  · obtain ⟨h1, h2⟩ := h.2.2.2.2.2.2.2.2.2.2.2 r hr
    exact ⟨eC (by decide) h1, eC (by decide) h2⟩
/-! the harms of all places, as the model makes them -/
theorem va_P1 {D : va_G} {H : Heap} {q : Nat × va_E} (h : va_at D vwCl q H) : va_P D vwCl [q] H := fun i q' hi => by
  have hz : i < 1 := (List.getElem?_eq_some_iff.mp hi).1
  rw [show i = 0 by omega] at hi
  cases hi
  exact h
def hmX (D : va_G) (ty : Nat → ClassId) (a : Nat) (h : Nat → Int32) (b d : Nat → Nat) (H : Heap) : Prop := va_at D vwCl (a, eR (ty 4) 8 (fun i => some (b i))) H ∧ (∀ i, i < 8 → va_at D vwCl (b i, eR (ty 3) 6 (fun v => some (d (i * 6 + v)))) H) ∧ ∀ q, q < 48 → va_at D vwCl (d q, eI (ty 0) 6 (row6 h (q * 6))) H
def hmA (D : va_G) (ty : Nat → ClassId) (a : Nat) (h : Nat → Int32) (H : Heap) : Prop := ∃ b d, hmX D ty a h b d H
theorem hmX.kept {D : va_G} {ty : Nat → ClassId} {a : Nat} {h : Nat → Int32} {b d : Nat → Nat} {H H1 : Heap} (hX : hmX D ty a h b d H) (oq : ∀ q, q < H.size → H1[q]? = H[q]?) : hmX D ty a h b d H1 :=
  ⟨hX.1.kept (oq _ hX.1.lt), fun i hi => (hX.2.1 i hi).kept (oq _ (hX.2.1 i hi).lt), fun q hq => (hX.2.2 q hq).kept (oq _ (hX.2.2 q hq).lt)⟩
section LAT
variable {D : va_G} {ty : Nat → ClassId} {A : Nat → Prop} {u : Nat → Nat → Prop} {C : Nat → Nat → va_E} {ma : Nat → Nat → Nat} {t0 mi : Nat} {s : State} {H : Heap} {locs : List Loc}
theorem hmX.later {a : Nat} {h : Nat → Int32} {b d : Nat → Nat} (hX : hmX D ty a h b d s.heap) (hS : va_S (fun q => s.heap.size ≤ q) s.heap H locs) : hmX D ty a h b d H := hX.kept fun q hq => hS.2.1 q hq (Nat.not_le.mpr hq)
theorem mW.later (h : mW D A u C ma s.heap) (hS : va_S (fun q => s.heap.size ≤ q) s.heap H locs) : mW D A u C ma H := h.ext (fun q hq _ => hS.2.1 q hq (Nat.not_le.mpr hq)) hS.1
theorem mI_preN (hM : mW D A u C ma s.heap) (hK : va_K D vwCl (mT ty) s) (hMS : mS D ty A t0 mi s) (hS : va_S (fun q => s.heap.size ≤ q) s.heap H locs) : ∀ U : State, U.heap = H → s.WarmedH U.vm → mI D ty A u C ma t0 mi U := fun U hU hW => ⟨by rw [hU]; exact hM.later hS, va_K.moved hW.alike hK, hMS.moved hW (by rw [hU]; exact hS.1) (fun q h1 _ => by rw [hU]; exact hS.2.1 q h1 (Nat.not_le.mpr h1))⟩
def mIh (D : va_G) (ty : Nat → ClassId) (A : Nat → Prop) (u : Nat → Nat → Prop) (C : Nat → Nat → va_E) (ma : Nat → Nat → Nat) (t0 mi a : Nat) (h : Nat → Int32) (U : State) : Prop := mI D ty A u C ma t0 mi U ∧ hmA D ty a h U.heap
theorem mIh_blind {a : Nat} {h : Nat → Int32} : ∀ (as : Array Value) (U : State) (f : JFrame) (mk : MethodId), mIh D ty A u C ma t0 mi a h U → mIh D ty A u C ma t0 mi a h (U.calling f mk as) := fun as U f mk k => ⟨mI_blind as U f mk k.1, k.2⟩
theorem mIh_pre {a : Nat} {h : Nat → Int32} {b d : Nat → Nat} (hM : mW D A u C ma H) (hK : va_K D vwCl (mT ty) s) (hMS : mS D ty A t0 mi s) (hS : va_S A s.heap H locs) (hX : hmX D ty a h b d H) : ∀ U : State, U.heap = H → s.WarmedH U.vm → mIh D ty A u C ma t0 mi a h U := fun U hU hW => ⟨mI_pre hM hK hMS hS U hU hW, b, d, by rw [hU]; exact hX⟩
theorem mIh_preN {a : Nat} {h : Nat → Int32} {b d : Nat → Nat} (hM : mW D A u C ma s.heap) (hK : va_K D vwCl (mT ty) s) (hMS : mS D ty A t0 mi s) (hS : va_S (fun q => s.heap.size ≤ q) s.heap H locs) (hX : hmX D ty a h b d s.heap) : ∀ U : State, U.heap = H → s.WarmedH U.vm → mIh D ty A u C ma t0 mi a h U := fun U hU hW => ⟨mI_preN hM hK hMS hS U hU hW, b, d, by rw [hU]; exact hX.later hS⟩
end LAT
/-! what the model asks, in the desk's words -/
def inB (x a b : Int32) : Bool := !decide (x < a) && !decide (b < x)
def bNo (n1 : Nat) (x : Int32) : Bool := !inB x (nI 0) (nI n1 - nI 1)
def bFld (g : Nat → Nat → Int32) (n1 : Nat) (x f : Int32) : Bool := bNo n1 x || !inB f (nI 0) (g 7 (cn x) - nI 1)
def bVer (g : Nat → Nat → Int32) (n1 : Nat) (x v : Int32) : Bool := bNo n1 x || !inB v (nI 0) (nI (nV g (cn x)) - nI 1)
def bVal (g : Nat → Nat → Int32) (n1 : Nat) (x v f : Int32) : Bool := bFld g n1 x f || bVer g n1 x v
def bFds (g : Nat → Nat → Int32) (i : Nat) (F : Int32) : Bool := decide (F < nI 1) || decide (allF g i < F)
def bRd (x : Int32) : Bool := !inB x (nI 0) (nI 5)
theorem sub1 {n : Nat} (h : n < 2 ^ 30) : (nI n - nI 1).toInt = (n : Int) - 1 := pk_sub_toInt h (by decide)
theorem inB_n {x : Int32} {n : Nat} (hn : n < 2 ^ 30) : inB x (nI 0) (nI n - nI 1) = true ↔ ∃ i, i < n ∧ x = nI i := by
  unfold inB
  rw [Bool.and_eq_true, Bool.not_eq_true', Bool.not_eq_true', decide_eq_false_iff_not, decide_eq_false_iff_not, nI_0]
  constructor
  · rintro ⟨h1, h2⟩
    rcases pk_ix x (show n < 2 ^ 31 by omega) with h | h | ⟨j, h3, h4⟩
    · exact absurd h h1
    · exfalso
      apply h2
      rw [Int32.lt_iff_toInt_lt, sub1 hn]
      rw [Int32.le_iff_toInt_le, nI_toInt (show n < 2 ^ 31 by omega)] at h
      omega
    · exact ⟨j, h3, h4⟩
  · rintro ⟨i, hi, rfl⟩
    refine ⟨nI_pos (by omega), fun h => ?_⟩
    rw [Int32.lt_iff_toInt_lt, sub1 hn, nI_toInt (show i < 2 ^ 31 by omega)] at h
    omega
theorem inB_no {x : Int32} {n : Nat} (hn : n < 2 ^ 30) (h : inB x (nI 0) (nI n - nI 1) = false) : x < 0 ∨ nI n ≤ x := by
  rcases pk_ix x (show n < 2 ^ 31 by omega) with h1 | h1 | ⟨j, h3, h4⟩
  · exact Or.inl h1
  · exact Or.inr h1
  · rw [(inB_n hn).mpr ⟨j, h3, h4⟩] at h; cases h
theorem inB_out {x : Int32} {n : Nat} (hn : n < 2 ^ 30) (h : x < 0 ∨ nI n ≤ x) : inB x (nI 0) (nI n - nI 1) = false := by
  rcases hb : inB x (nI 0) (nI n - nI 1) with _ | _
  · rfl
  · obtain ⟨i, hi, rfl⟩ := (inB_n hn).mp hb
    rcases h with h | h
    · exact absurd h (nI_pos (by omega))
    · exact absurd h (nI_ge hi (by omega))
theorem bNo_f {x : Int32} {n : Nat} (hn : n ≤ 8) (h : ¬ bNo n x = true) : ∃ i, i < n ∧ x = nI i := by
  apply (inB_n (show n < 2 ^ 30 by omega)).mp
  unfold bNo at h
  rcases hb : inB x (nI 0) (nI n - nI 1) with _ | _
  · rw [hb] at h; exact absurd rfl h
  · rfl
theorem bNo_ok {i n : Nat} (hn : n ≤ 8) (h : i < n) : bNo n (nI i) = false := by
  unfold bNo; rw [(inB_n (show n < 2 ^ 30 by omega)).mpr ⟨i, h, rfl⟩]; rfl
theorem bNo_x {x : Int32} {n : Nat} (hn : n ≤ 8) (h : x < 0 ∨ nI n ≤ x) : bNo n x = true := by
  unfold bNo; rw [inB_out (show n < 2 ^ 30 by omega) h]; rfl
