/-! the class's numbers g and the model's: the same but for the rows 10, 11 (of fields that there are not) and 18 -/
def mv (g : Nat → Nat → Int32) (x y z : Nat → Int32) : Nat → Nat → Int32 := va_up (va_up (va_up g 10 x) 11 y) 18 z
theorem mv_o {g : Nat → Nat → Int32} {x y z : Nat → Int32} {k : Nat} (h1 : k ≠ 10) (h2 : k ≠ 11) (h3 : k ≠ 18) : mv g x y z k = g k := by
  unfold mv; rw [vn h3, vn h2, vn h1]
theorem mv_eq {G g' : Nat → Nat → Int32} (h : ∀ k, k ≠ 10 → k ≠ 11 → k ≠ 18 → G k = g' k) : G = mv g' (G 10) (G 11) (G 18) := by
  funext k
  unfold mv
  by_cases h3 : k = 18
  · subst h3; rw [vs]
  · rw [vn h3]
    by_cases h2 : k = 11
    · subst h2; rw [vs]
    · rw [vn h2]
      by_cases h1 : k = 10
      · subst h1; rw [vs]
      · rw [vn h1]; exact h k h1 h2 h3
/-- the same but for the three rows -/
def ag (G g' : Nat → Nat → Int32) : Prop := ∀ k, k ≠ 10 → k ≠ 11 → k ≠ 18 → G k = g' k
theorem ag_mv (g : Nat → Nat → Int32) (x y z : Nat → Int32) : ag (mv g x y z) g := fun _ h1 h2 h3 => mv_o h1 h2 h3
theorem ag_up {G g' : Nat → Nat → Int32} {j : Nat} {f f' : Nat → Int32} (h : ag G g') (e : f = f') : ag (va_up G j f) (va_up g' j f') := fun k h1 h2 h3 => by
  by_cases ej : k = j
  · subst ej; rw [vs, vs, e]
  · rw [vn ej, vn ej]; exact h k h1 h2 h3
theorem ag_x {G g' : Nat → Nat → Int32} {j : Nat} {f f' : Nat → Int32} (hj : j = 10 ∨ j = 11 ∨ j = 18) (h : ag G g') : ag (va_up G j f) (va_up g' j f') := fun k h1 h2 h3 => by
  rw [vn (by omega), vn (by omega)]; exact h k h1 h2 h3
theorem ag_r {G g' : Nat → Nat → Int32} {j : Nat} {f' : Nat → Int32} (hj : j = 10 ∨ j = 11 ∨ j = 18) (h : ag G g') : ag G (va_up g' j f') := fun k h1 h2 h3 => by
  rw [vn (by omega)]; exact h k h1 h2 h3
/-- prices and rules of the fields that there are -/
def ap (g : Nat → Nat → Int32) (x y : Nat → Int32) (n1 : Nat) : Prop := ∀ i f, i < n1 → f < nF g i → x (i * 6 + f) = g 10 (i * 6 + f) ∧ y (i * 6 + f) = g 11 (i * 6 + f)
/-- how many links the first n sources can have made -/
def sV (g : Nat → Nat → Int32) : Nat → Nat
  | 0 => 0
  | j + 1 => sV g j + nV g (cn (g 12 j) / 6)
/-- what the law carries of the numbers, beside the relation; kk: how many sets, versions, contracts and reads were accepted -/
def lwN (g : Nat → Nat → Int32) (x y : Nat → Int32) (n1 n2 nL n4 n5 kk : Nat) : Prop :=
  ap g x y n1 ∧ nL ≤ sV g n2 ∧ (∀ c, c < n4 → nb (g 27 c) 360) ∧ n1 + n4 + n5 ≤ kk ∧ (∀ i, i < n1 → 0 < nV g i → n1 + n4 + n5 + 1 ≤ kk) ∧ (0 < n5 → n5 + 3 ≤ kk)
theorem sV_c {g g' : Nat → Nat → Int32} {n : Nat} (h12 : ∀ j, j < n → g' 12 j = g 12 j) (h8 : ∀ j, j < n → nV g' (cn (g 12 j) / 6) = nV g (cn (g 12 j) / 6)) : sV g' n = sV g n := by
  induction n with
  | zero => rfl
  | succ n ih => show sV g' n + nV g' (cn (g' 12 n) / 6) = _; rw [ih (fun j hj => h12 j (by omega)) (fun j hj => h8 j (by omega)), h12 n (by omega), h8 n (by omega)]; rfl
theorem nV_c {g g' : Nat → Nat → Int32} (h : g' 8 = g 8) (i : Nat) : nV g' i = nV g i := by unfold nV; rw [h]
theorem nF_c {g g' : Nat → Nat → Int32} (h : g' 7 = g 7) (i : Nat) : nF g' i = nF g i := by unfold nF; rw [h]
/-- only rows that it does not speak of are other -/
theorem lwN.cong {g g' : Nat → Nat → Int32} {x y : Nat → Int32} {n1 n2 nL n4 n5 kk : Nat} (h : lwN g x y n1 n2 nL n4 n5 kk) (e : ∀ k, k = 7 ∨ k = 8 ∨ k = 10 ∨ k = 11 ∨ k = 12 ∨ k = 27 → g' k = g k) : lwN g' x y n1 n2 nL n4 n5 kk := by
  obtain ⟨h1, h2, h3, h4, h5, h6⟩ := h
  refine ⟨fun i f hi hf => ?_, ?_, fun c hc => ?_, h4, fun i hi hv => ?_, h6⟩
  · rw [e 10 (by omega), e 11 (by omega)]
    exact h1 i f hi (by rw [nF_c (e 7 (by omega))] at hf; exact hf)
  · rw [sV_c (g := g) (fun j _ => by rw [e 12 (by omega)]) (fun j _ => nV_c (e 8 (by omega)) _)]; exact h2
  · rw [e 27 (by omega)]; exact h3 c hc
  · exact h5 i hi (by rw [nV_c (e 8 (by omega))] at hv; exact hv)
/-! one call, on both sides -/
abbrev rmW : Room := { frames := 10, cells := 1, slots := 6, locals := 230 }
/-- what the model's call leaves -/
def mQ (D : va_G) (ty : Nat → ClassId) (A : Nat → Prop) (ma : Nat → Nat → Nat) (t0 mi : Nat) (b : Int32) (k : Nat) (G : Nat → Nat → Int32) (n1 n2 nL n4 n5 : Nat) (rep bro : Nat → Nat → Int32) : Array Value → State → Outcome → State → Prop := va_Qi (fun (v9 : Int32) (S : mSt) => v9 = b ∧ S.2.2 0 0 = ma 0 0 ∧ mR ty t0 G n1 n2 nL n4 n5 (nI k) rep bro S.1 S.2.1 S.2.2) (fun S t => mI D ty A S.1 S.2.1 S.2.2 t0 mi t) A
/-- the two calls answer alike, and leave the two sides alike -/
def bth (l : Launch) (D : va_G) (ty : Nat → ClassId) (tl : ClassId) (A : Nat → Prop) (u : Nat → Nat → Prop) (C : Nat → Nat → va_E) (ma : Nat → Nat → Nat) (t0 mi : Nat) (g : Nat → Nat → Int32) (ad : Nat → Nat) (ob : Nat) (f : Nat → Int64) (sz : Nat) (n5 kk : Nat) (yw : MethodName) (wsw : List Cond) (ym : MethodName) (wsm : List Cond) (av : List Value) (mc ms : Nat) (Z : Int32 → Prop) : Prop :=
  ∃ (k : Nat) (b : Int32) (g' : Nat → Nat → Int32) (x' y' z' : Nat → Int32) (n1' n2' nL' n4' n5' kk' : Nat) (rep' bro' : Nat → Nat → Int32), k < 4 ∧ Z b ∧
    Met l yw wsw rmW (va_Pc (.ref (ad 0) :: (av ++ [.ref ob])) (wX D ty tl g ad ob f sz)) (wQ D ty tl ad ob sz k b.toInt64 g') 1 6 (WC ad ob sz) ∧
    Met l ym wsm { frames := 12, cells := mc, slots := ms, locals := 300 } (va_Pc (.ref (ma 0 0) :: av) (mI D ty A u C ma t0 mi)) (mQ D ty A ma t0 mi b k (mv g' x' y' z') n1' n2' nL' n4' n5' rep' bro') mc ms A ∧
    lwN g' x' y' n1' n2' nL' n4' n5' kk' ∧ ((kk' = kk ∧ n5' = n5) ∨ (kk' = kk + 1 ∧ n5 ≤ n5' ∧ mc ≤ 59))
section BTH
variable {l : Launch} {D : va_G} {ty : Nat → ClassId} {tl : ClassId} {A : Nat → Prop} {u : Nat → Nat → Prop} {C : Nat → Nat → va_E} {ma : Nat → Nat → Nat} {t0 mi : Nat} {g : Nat → Nat → Int32} {x y z : Nat → Int32} {ad : Nat → Nat} {ob : Nat} {f : Nat → Int64} {sz : Nat} {n1 n2 nL n4 n5 kk : Nat} {th : Int32} {rep bro : Nat → Nat → Int32}
variable {yw : MethodName} {wsw : List Cond} {ym : MethodName} {wsm : List Cond} {av : List Value} {mc ms mc' ms' k : Nat} {b b' : Int32} {g' G : Nat → Nat → Int32} {n1' n2' nL' n4' n5' kk' : Nat} {rep' bro' : Nat → Nat → Int32} {rm : Room} {Z : Int32 → Prop}
/-- an accepted call whose model's answer comes with the new cells alone -/
theorem bth_c (hW : Met l yw wsw rmW (va_Pc (.ref (ad 0) :: (av ++ [.ref ob])) (wX D ty tl g ad ob f sz)) (wQ D ty tl ad ob sz k b.toInt64 g') 1 6 (WC ad ob sz)) (hk : k < 4)
    (hM : Met l ym wsm rm (va_Pc (.ref (ma 0 0) :: av) (mI D ty A u C ma t0 mi)) (va_Qi (fun (v9 : Int32) (C2 : Nat → Nat → va_E) => v9 = b' ∧ mR ty t0 G n1' n2' nL' n4' n5' (nI k) rep' bro' u C2 ma) (fun C2 t => mI D ty A u C2 ma t0 mi t) A) mc ms A)
    (hb : b' = b) (hG : ag G g') (hf : rm.frames ≤ 12) (hl : rm.locals ≤ 300) (hc : rm.cells ≤ mc') (hs : rm.slots ≤ ms') (hmc : mc ≤ mc') (hms : ms ≤ ms') (hN : lwN g' (G 10) (G 11) n1' n2' nL' n4' n5' kk') (hkk : (kk' = kk ∧ n5' = n5) ∨ (kk' = kk + 1 ∧ n5 ≤ n5' ∧ mc' ≤ 59)) (hZ : Z b) : bth l D ty tl A u C ma t0 mi g ad ob f sz n5 kk yw wsw ym wsm av mc' ms' Z :=
  ⟨k, b, g', G 10, G 11, G 18, n1', n2', nL', n4', n5', kk', rep', bro', hk, hZ, hW, met_wide hM hf hl hc hs hmc hms (fun _ q => q) (fun _ _ q => q) (fun _ _ _ _ _ _ ⟨⟨r, C2, h1, h2, h3⟩, h4⟩ => ⟨⟨r, (u, C2, ma), h1, ⟨h2.1.trans hb, rfl, by rw [← mv_eq hG]; exact h2.2⟩, h3⟩, h4⟩), hN, hkk⟩
/-- an accepted call that makes cells on the model's side -/
theorem bth_s (hW : Met l yw wsw rmW (va_Pc (.ref (ad 0) :: (av ++ [.ref ob])) (wX D ty tl g ad ob f sz)) (wQ D ty tl ad ob sz k b.toInt64 g') 1 6 (WC ad ob sz)) (hk : k < 4)
    (hM : Met l ym wsm rm (va_Pc (.ref (ma 0 0) :: av) (mI D ty A u C ma t0 mi)) (va_Qi (fun (v9 : Int32) (S : mSt) => v9 = b' ∧ S.2.2 0 0 = ma 0 0 ∧ mR ty t0 G n1' n2' nL' n4' n5' (nI k) rep' bro' S.1 S.2.1 S.2.2) (fun S t => mI D ty A S.1 S.2.1 S.2.2 t0 mi t) A) mc ms A)
    (hb : b' = b) (hG : ag G g') (hf : rm.frames ≤ 12) (hl : rm.locals ≤ 300) (hc : rm.cells ≤ mc') (hs : rm.slots ≤ ms') (hmc : mc ≤ mc') (hms : ms ≤ ms') (hN : lwN g' (G 10) (G 11) n1' n2' nL' n4' n5' kk') (hkk : (kk' = kk ∧ n5' = n5) ∨ (kk' = kk + 1 ∧ n5 ≤ n5' ∧ mc' ≤ 59)) (hZ : Z b) : bth l D ty tl A u C ma t0 mi g ad ob f sz n5 kk yw wsw ym wsm av mc' ms' Z :=
  ⟨k, b, g', G 10, G 11, G 18, n1', n2', nL', n4', n5', kk', rep', bro', hk, hZ, hW, met_wide hM hf hl hc hs hmc hms (fun _ q => q) (fun _ _ q => q) (fun _ _ _ _ _ _ ⟨⟨r, S, h1, h2, h3⟩, h4⟩ => ⟨⟨r, S, h1, ⟨h2.1.trans hb, h2.2.1, by rw [← mv_eq hG]; exact h2.2.2⟩, h3⟩, h4⟩), hN, hkk⟩
/-- a refused call -/
theorem bth_x (hW : ∀ a : Int64, Met l yw wsw rmW (va_Pc (.ref (ad 0) :: (av ++ [.ref ob])) (wX D ty tl g ad ob f sz)) (wQ D ty tl ad ob sz k a g) 1 6 (WC ad ob sz)) (hk : k < 4)
    (hM : Met l ym wsm rm (va_Pc (.ref (ma 0 0) :: av) (mI D ty A u C ma t0 mi)) (va_Qi (fun (v9 : Int32) (C2 : Nat → Nat → va_E) => v9 = b' ∧ mR ty t0 (mv g x y z) n1 n2 nL n4 n5 (nI k) rep bro u C2 ma) (fun C2 t => mI D ty A u C2 ma t0 mi t) A) mc ms A)
    (hf : rm.frames ≤ 12) (hl : rm.locals ≤ 300) (hc : rm.cells ≤ mc') (hs : rm.slots ≤ ms') (hmc : mc ≤ mc') (hms : ms ≤ ms') (hN : lwN g x y n1 n2 nL n4 n5 kk) (hZ : Z b') : bth l D ty tl A u C ma t0 mi g ad ob f sz n5 kk yw wsw ym wsm av mc' ms' Z :=
  ⟨k, b', g, x, y, z, n1, n2, nL, n4, n5, kk, rep, bro, hk, hZ, hW _, met_wide hM hf hl hc hs hmc hms (fun _ q => q) (fun _ _ q => q) (fun _ _ _ _ _ _ ⟨⟨r, C2, h1, h2, h3⟩, h4⟩ => ⟨⟨r, (u, C2, ma), h1, ⟨h2.1, rfl, h2.2⟩, h3⟩, h4⟩), hN, Or.inl ⟨rfl, rfl⟩⟩
end BTH
/-! arguments, in bounds or not -/
theorem spI (x : Int32) {n : Nat} (hn : n < 2 ^ 31) : (x < 0 ∨ nI n ≤ x) ∨ ∃ i, i < n ∧ x = nI i := by
  rcases pk_ix x hn with h | h | h
  · exact Or.inl (Or.inl h)
  · exact Or.inl (Or.inr h)
  · exact Or.inr h
section SP
variable {g : Nat → Nat → Int32} {x y z : Nat → Int32} {n1 n2 nL n4 n5 : Nat}
theorem spF (hI : gI (mv g x y z) n1 n2 nL n4 n5) (a b : Int32) : badF g n1 a b ∨ ∃ i j, i < n1 ∧ j < nF g i ∧ a = nI i ∧ b = nI j := by
  rcases spI a (show n1 < 2 ^ 31 by have := hI.b1; omega) with h | ⟨i, hi, rfl⟩
  · exact Or.inl (Or.inl h)
  · have h7 : nF g i < 7 := (hI.f7 hi).2.2
    rcases spI b (show nF g i < 2 ^ 31 by omega) with h | ⟨j, hj, rfl⟩
    · exact Or.inl (Or.inr ⟨i, hi, rfl, h⟩)
    · exact Or.inr ⟨i, j, hi, hj, rfl, rfl⟩
theorem spP (hI : gI (mv g x y z) n1 n2 nL n4 n5) (a v b : Int32) : badP g n1 a v b ∨ ∃ i w j, i < n1 ∧ w < nV g i ∧ j < nF g i ∧ a = nI i ∧ v = nI w ∧ b = nI j := by
  rcases spF hI a b with h | ⟨i, j, hi, hj, rfl, rfl⟩
  · exact Or.inl (Or.inl h)
  · have h7 : nV g i < 7 := (hI.v7 hi).2
    rcases spI v (show nV g i < 2 ^ 31 by omega) with h | ⟨w, hw, rfl⟩
    · exact Or.inl (Or.inr ⟨i, j, hi, rfl, hj, rfl, h⟩)
    · exact Or.inr ⟨i, w, j, hi, hw, hj, rfl, rfl, rfl⟩
theorem bFld_x (hI : gI (mv g x y z) n1 n2 nL n4 n5) {a b : Int32} (h : badF g n1 a b) : bFld (mv g x y z) n1 a b = true := by
  have hb := hI.b1
  unfold bFld
  rcases h with h | ⟨i, hi, rfl, h⟩
  · rw [bNo_x hb h]; rfl
  · have h7 := hI.f7 hi
    rw [cn_nI (show i < 2 ^ 31 by omega), h7.1, inB_out (show nF (mv g x y z) i < 2 ^ 30 by omega) h]
    exact Bool.or_true _
theorem bVal_x (hI : gI (mv g x y z) n1 n2 nL n4 n5) {a v b : Int32} (h : badP g n1 a v b) : bVal (mv g x y z) n1 a v b = true := by
  have hb := hI.b1
  unfold bVal
  rcases h with h | ⟨i, j, hi, rfl, hj, rfl, h⟩
  · rw [bFld_x hI h]; rfl
  · have h7 := hI.v7 hi
    unfold bVer
    rw [cn_nI (show i < 2 ^ 31 by omega), inB_out (show nV (mv g x y z) i < 2 ^ 30 by omega) h]
    simp
theorem bRd_x {a : Int32} (h : a < 0 ∨ nI 6 ≤ a) : bRd a = true := by
  unfold bRd
  rw [show nI 5 = nI 6 - nI 1 by decide, inB_out (by decide) h]; rfl
theorem inB_xk {a : Int32} {k : Nat} (hk : k + 1 < 2 ^ 30) (h : a < 0 ∨ nI (k + 1) ≤ a) : inB a (nI 0) (nI k) = false := by
  rw [show nI k = nI (k + 1) - nI 1 from (pk_sub (a := k + 1) (b := 1) (by omega)).symm]
  exact inB_out hk h
end SP
