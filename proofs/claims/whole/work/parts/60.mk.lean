theorem gI.c1 {g : Nat → Nat → Int32} {n1 n2 nL n4 n5 : Nat} (h : gI g n1 n2 nL n4 n5) : g 1 0 = nI n1 := h.1.1.1
theorem gI.c2 {g : Nat → Nat → Int32} {n1 n2 nL n4 n5 : Nat} (h : gI g n1 n2 nL n4 n5) : g 2 0 = nI n2 := h.1.2.2.1.1
theorem gI.cL {g : Nat → Nat → Int32} {n1 n2 nL n4 n5 : Nat} (h : gI g n1 n2 nL n4 n5) : g 2 1 = nI nL := h.1.2.2.2.2.1.1
theorem gI.c4 {g : Nat → Nat → Int32} {n1 n2 nL n4 n5 : Nat} (h : gI g n1 n2 nL n4 n5) : g 4 0 = nI n4 := h.1.2.2.2.2.2.2.1.1
theorem gI.c5 {g : Nat → Nat → Int32} {n1 n2 nL n4 n5 : Nat} (h : gI g n1 n2 nL n4 n5) : g 5 0 = nI n5 := h.1.2.2.2.2.2.2.2.1.1
section LAT2
variable {D : va_G} {ty : Nat → ClassId} {A : Nat → Prop} {u : Nat → Nat → Prop} {C : Nat → Nat → va_E} {ma : Nat → Nat → Nat} {t0 mi : Nat} {s : State} {H : Heap} {locs : List Loc}
theorem mIh_preM {a : Nat} {h : Nat → Int32} {b d : Nat → Nat} (hM : mW D A u C ma s.heap) (hK : va_K D vwCl (mT ty) s) (hMS : mS D ty A t0 mi s) (hS : va_S (fun q => s.heap.size ≤ q) s.heap H locs) (hX : hmX D ty a h b d H) : ∀ U : State, U.heap = H → s.WarmedH U.vm → mIh D ty A u C ma t0 mi a h U := fun U hU hW => ⟨mI_preN hM hK hMS hS U hU hW, b, d, by rw [hU]; exact hX⟩
/-- a state in which the model stands, and how many cells there are -/
def mIs (D : va_G) (ty : Nat → ClassId) (A : Nat → Prop) (u : Nat → Nat → Prop) (C : Nat → Nat → va_E) (ma : Nat → Nat → Nat) (t0 mi sz : Nat) (U : State) : Prop := mI D ty A u C ma t0 mi U ∧ U.heap.size = sz
theorem mIs_blind {sz : Nat} : ∀ (as : Array Value) (U : State) (f : JFrame) (mk : MethodId), mIs D ty A u C ma t0 mi sz U → mIs D ty A u C ma t0 mi sz (U.calling f mk as) := fun as U f mk k => ⟨mI_blind as U f mk k.1, k.2⟩
def mIhs (D : va_G) (ty : Nat → ClassId) (A : Nat → Prop) (u : Nat → Nat → Prop) (C : Nat → Nat → va_E) (ma : Nat → Nat → Nat) (t0 mi a : Nat) (h : Nat → Int32) (sz : Nat) (U : State) : Prop := mIh D ty A u C ma t0 mi a h U ∧ U.heap.size = sz
theorem mIhs_blind {a : Nat} {h : Nat → Int32} {sz : Nat} : ∀ (as : Array Value) (U : State) (f : JFrame) (mk : MethodId), mIhs D ty A u C ma t0 mi a h sz U → mIhs D ty A u C ma t0 mi a h sz (U.calling f mk as) := fun as U f mk k => ⟨mIh_blind as U f mk k.1, k.2⟩
end LAT2
/-- what a maker says of its answer: only new cells are other -/
abbrev mkQ (sz : Nat) (P : Int32 → Prop) : Array Value → State → Outcome → State → Prop := va_Qi (fun (v9 : Int32) (_ : Unit) => P v9) (fun _ _ => True) (fun q => sz ≤ q)
section MK1
variable {p : Program} {l : Launch} {e : Env} {R : Room} {s : State} {m : MethodId} {args : Array Value} {below : List Frame} {meth : Method} {c : Code} {H : Heap} {locs : List Loc} {cells slots : Nat} {Q : State → Prop}
variable {cc : ByteArray} {pc : Nat} {ls : Array Slot} {rest : List Value} {D : va_G} {A : Nat → Prop} {ty : Nat → ClassId} {H0 : Heap}
theorem mnewa1 (hexec : p.tables.exec = Jvm.exec) (hb : c.code = cc) (harr : (Cond.arrayClass .int).before args s = true) (hK : va_K D vwCl (mT ty) s) (hS : va_S A H0 H locs) (hA : ∀ q : Nat, H.size ≤ q → A q)
    {n N' : Nat} (hn : n < 2 ^ 31) (hN : n = N') (hbytes : N' * 4 ≤ 536870912) (hcells : cells + 1 ≤ R.cells) (hslots : slots + N' ≤ R.slots) (hdg : decode cc pc = .ok (.newarray .int, 2))
    (kk : ∀ (H1 : Heap) (q : Nat), va_P D vwCl [(q, eI (ty 0) N' (fun _ => 0))] H1 → va_D A [(q, eI (ty 0) N' (fun _ => 0))] → va_S A H0 H1 locs → (∀ q : Nat, q < H.size → H1[q]? = H[q]?) →
      W p l e R s m args below meth c H1 locs (cells + 1) (slots + N') Q (F0 m (pc + 2) ls (.ref q :: rest))) : W p l e R s m args below meth c H locs cells slots Q (F0 m pc ls (.int (nI n) :: rest)) := by
  subst hN
  refine va_newaK (atype := .int) hexec hb harr rfl hdg rfl (nI_pos hn) (nI_clamp hn) hbytes hcells hslots rfl fun H1 cA e1 z1 o1 hAr hNm => ?_
  obtain rfl : cA = ty 0 := zRAi (U := s) hNm (hK.2 0 _ rfl).2
  have e9 : va_at D vwCl (H.size, eI (ty 0) n (fun _ => 0)) H1 := by
    show H1[H.size]? = some (vp_cell _ _)
    rw [vp_cell_i]
    exact e1
  exact kk H1 _ (va_P1 e9) ⟨(mW.D1 _ _).1, fun k q hk => by
    have hz : k < 1 := (List.getElem?_eq_some_iff.mp hk).1
    rw [show k = 0 by omega] at hk
    cases hk
    exact hA _ (Nat.le_refl _)⟩ ⟨Nat.le_trans hS.1 (by omega), fun x h1 h2 => (o1 x (Nat.lt_of_lt_of_le h1 hS.1)).trans (hS.2.1 x h1 h2), hS.2.2⟩ o1
theorem D1u {A : Nat → Prop} {q : Nat} {e e' : va_E} (h : va_D A [(q, e)]) : va_D A [(q, e')] := ⟨(mW.D1 _ _).1, fun k q' hk => by
  have hz : k < 1 := (List.getElem?_eq_some_iff.mp hk).1
  rw [show k = 0 by omega] at hk
  cases hk
  exact h.2 0 (q, e) rfl⟩
end MK1
/-- how many reads are of the reader -/
def cntR (g : Nat → Nat → Int32) (R : Nat) : Nat → Nat
  | 0 => 0
  | n + 1 => cntR g R n + (if g 29 n = nI R then 1 else 0)
theorem cntR_y {g : Nat → Nat → Int32} {R n : Nat} (h : g 29 n = nI R) : cntR g R (n + 1) = cntR g R n + 1 := by
  show cntR g R n + (if g 29 n = nI R then 1 else 0) = _; rw [if_pos h]
theorem cntR_n {g : Nat → Nat → Int32} {R n : Nat} (h : ¬ g 29 n = nI R) : cntR g R (n + 1) = cntR g R n := by
  show cntR g R n + (if g 29 n = nI R then 1 else 0) = _; rw [if_neg h]; rfl
theorem cntR_le {g : Nat → Nat → Int32} {R n k : Nat} (h : n ≤ k) : cntR g R n ≤ cntR g R k := by
  induction k with
  | zero => rw [show n = 0 by omega]; exact Nat.le_refl _
  | succ k ih =>
    by_cases e : n = k + 1
    · rw [e]; exact Nat.le_refl _
    · exact Nat.le_trans (ih (by omega)) (Nat.le_add_right _ _)
/-- the reads of some readers, one after the other -/
def cntS (g : Nat → Nat → Int32) (n5 : Nat) : Nat → Nat
  | 0 => 0
  | R + 1 => cntS g n5 R + cntR g R n5
theorem cntS_le {g : Nat → Nat → Int32} {R : Nat} (hR : R ≤ 6) (n : Nat) : cntS g n R ≤ n := by
  have key : ∀ n R, R ≤ 6 → cntS g (n + 1) R = cntS g n R + (if ∃ r, r < R ∧ g 29 n = nI r then 1 else 0) := by
    intro n R
    induction R with
    | zero => intro _; rw [if_neg (fun ⟨r, h, _⟩ => by omega)]; rfl
    | succ R ih =>
      intro hR
      have ih := ih (by omega)
      show cntS g (n + 1) R + (cntR g R n + (if g 29 n = nI R then 1 else 0)) = cntS g n R + cntR g R n + _
      rw [ih]
      by_cases h : g 29 n = nI R
      · have hno : ¬ ∃ r, r < R ∧ g 29 n = nI r := fun ⟨r, h1, h2⟩ => by
          rw [h] at h2
          have := (nI_eq (show R < 2 ^ 31 by omega) (by omega)).mp h2
          omega
        rw [if_neg hno, if_pos h, if_pos ⟨R, by omega, h⟩]; omega
      · rw [if_neg h]
        by_cases h3 : ∃ r, r < R ∧ g 29 n = nI r
        · rw [if_pos h3, if_pos (by obtain ⟨r, h1, h2⟩ := h3; exact ⟨r, by omega, h2⟩)]; omega
        · rw [if_neg h3, if_neg (fun ⟨r, h1, h2⟩ => by
            by_cases e : r = R
            · rw [e] at h2; exact h h2
            · exact h3 ⟨r, by omega, h2⟩)]; omega
  induction n with
  | zero =>
    have z : ∀ R, cntS g 0 R = 0 := fun R => by
      induction R with
      | zero => rfl
      | succ R ih => show cntS g 0 R + 0 = 0; rw [ih]
    rw [z]; exact Nat.le_refl _
  | succ n ih =>
    rw [key n R hR]
    split <;> omega
