/-! the law's numbers behind each call that changes them -/
section LWN
variable {g : Nat → Nat → Int32} {x y z : Nat → Int32} {n1 n2 nL n4 n5 kk : Nat}
theorem lwN_set (hI : gI (mv g x y z) n1 n2 nL n4 n5) (hN : lwN g x y n1 n2 nL n4 n5 kk) (hn : n1 < 8) {k : Nat} (hk1 : 1 ≤ k) (hk6 : k ≤ 6) : lwN (setG g n1 k) (rng x (n1 * 6) 6 (nI 10)) (rng y (n1 * 6) 6 (nI 1000)) (n1 + 1) n2 nL n4 n5 (kk + 1) := by
  obtain ⟨h1, h2, h3, h4, h5, h6⟩ := hN
  have h8 : g 8 n1 = 0 := hI.ver (Nat.le_refl n1) hn
  have e7 : setG g n1 k 7 = upd (g 7) n1 (nI k) := by unfold setG; rw [vn (by decide), vn (by decide), vn (by decide), vs]
  have e10 : setG g n1 k 10 = rng (g 10) (n1 * 6) k (nI 10) := by unfold setG; rw [vn (by decide), vn (by decide), vs]
  have e11 : setG g n1 k 11 = rng (g 11) (n1 * 6) k (nI 1000) := by unfold setG; rw [vn (by decide), vs]
  have eV : ∀ i, nV (setG g n1 k) i = nV g i := fun i => nV_c (by unfold setG; rw [vn (by decide), vn (by decide), vn (by decide), vn (by decide)]) i
  have e12 : setG g n1 k 12 = g 12 := by unfold setG; rw [vn (by decide), vn (by decide), vn (by decide), vn (by decide)]
  have e27 : setG g n1 k 27 = g 27 := by unfold setG; rw [vn (by decide), vn (by decide), vn (by decide), vn (by decide)]
  refine ⟨fun i f hi hf => ?_, ?_, fun c hc => by rw [e27]; exact h3 c hc, by omega, fun i hi hv => ?_, fun h => by have := h6 h; omega⟩
  · unfold nF at hf
    rw [e7] at hf
    rw [e10, e11]
    unfold rng
    by_cases e : i = n1
    · rw [e, us, cn_nI (by omega)] at hf
      rw [if_pos ⟨by omega, by omega⟩, if_pos ⟨by omega, by omega⟩, if_pos ⟨by omega, by omega⟩, if_pos ⟨by omega, by omega⟩]
      exact ⟨rfl, rfl⟩
    · rw [un e] at hf
      have h7 : nF g i < 7 := (hI.f7 (show i < n1 by omega)).2.2
      have hf' : f < nF g i := hf
      rw [if_neg (fun q => by omega), if_neg (fun q => by omega), if_neg (fun q => by omega), if_neg (fun q => by omega)]
      exact h1 i f (by omega) hf'
  · rw [sV_c (g := g) (fun j _ => by rw [e12]) (fun j _ => eV _)]; exact h2
  · rw [eV] at hv
    by_cases e : i = n1
    · exfalso
      unfold nV at hv
      rw [e, h8] at hv
      exact absurd hv (by decide)
    · have := h5 i (by omega) hv; omega
theorem lwN_terms (hN : lwN g x y n1 n2 nL n4 n5 kk) (p : Nat) (pr ru : Int32) : lwN (va_up (va_up g 10 (upd (g 10) p pr)) 11 (upd (g 11) p ru)) (upd x p pr) (upd y p ru) n1 n2 nL n4 n5 kk := by
  obtain ⟨h1, h2, h3, h4, h5, h6⟩ := hN
  have eo : ∀ k, k ≠ 10 → k ≠ 11 → va_up (va_up g 10 (upd (g 10) p pr)) 11 (upd (g 11) p ru) k = g k := fun k q1 q2 => (vn q2).trans (vn q1)
  have e10 : va_up (va_up g 10 (upd (g 10) p pr)) 11 (upd (g 11) p ru) 10 = upd (g 10) p pr := by rw [vn (by decide), vs]
  refine ⟨fun i f hi hf => ?_, ?_, fun c hc => by rw [eo 27 (by decide) (by decide)]; exact h3 c hc, h4, fun i hi hv => h5 i hi (by rw [nV_c (eo 8 (by decide) (by decide))] at hv; exact hv), h6⟩
  · rw [e10, vs]
    have k := h1 i f hi (by rw [nF_c (eo 7 (by decide) (by decide))] at hf; exact hf)
    by_cases e : i * 6 + f = p
    · rw [e, us, us, us, us]; exact ⟨rfl, rfl⟩
    · rw [un e, un e, un e, un e]; exact k
  · rw [sV_c (g := g) (fun j _ => by rw [eo 12 (by decide) (by decide)]) (fun j _ => nV_c (eo 8 (by decide) (by decide)) _)]; exact h2
theorem lwN_src (hN : lwN g x y n1 n2 nL n4 n5 kk) (a b : Nat) (sh : Int32) : lwN (srcG g n2 a b sh) x y n1 (n2 + 1) nL n4 n5 kk := by
  obtain ⟨h1, h2, h3, h4, h5, h6⟩ := hN
  have eo : ∀ k, k ≠ 12 → k ≠ 13 → k ≠ 14 → k ≠ 2 → srcG g n2 a b sh k = g k := fun k q1 q2 q3 q4 => by unfold srcG; rw [vn q4, vn q3, vn q2, vn q1]
  have e12 : srcG g n2 a b sh 12 = upd (g 12) n2 (nI a) := by unfold srcG; rw [vn (by decide), vn (by decide), vn (by decide), vs]
  refine ⟨fun i f hi hf => ?_, ?_, fun c hc => by rw [eo 27 (by decide) (by decide) (by decide) (by decide)]; exact h3 c hc, h4, fun i hi hv => h5 i hi (by rw [nV_c (eo 8 (by decide) (by decide) (by decide) (by decide))] at hv; exact hv), h6⟩
  · rw [eo 10 (by decide) (by decide) (by decide) (by decide), eo 11 (by decide) (by decide) (by decide) (by decide)]
    exact h1 i f hi (by rw [nF_c (eo 7 (by decide) (by decide) (by decide) (by decide))] at hf; exact hf)
  · show nL ≤ sV (srcG g n2 a b sh) n2 + _
    rw [sV_c (g := g) (fun j hj => by rw [e12, un (by omega)]) (fun j _ => nV_c (eo 8 (by decide) (by decide) (by decide) (by decide)) _)]
    omega
theorem lwN_con (hN : lwN g x y n1 n2 nL n4 n5 kk) (a b F ps fr to : Int32) (hfr : nb fr 360) : lwN (conG g n4 a b F ps fr to) x y n1 n2 nL (n4 + 1) n5 (kk + 1) := by
  obtain ⟨h1, h2, h3, h4, h5, h6⟩ := hN
  have eo : ∀ k, k < 23 → k ≠ 4 → conG g n4 a b F ps fr to k = g k := fun k q1 q2 => by unfold conG; rw [vn (by omega), vn (by omega), vn (by omega), vn (by omega), vn (by omega), vn (by omega), vn (by omega)]
  have e27 : conG g n4 a b F ps fr to 27 = upd (g 27) n4 fr := by unfold conG; rw [vn (by decide), vn (by decide), vs]
  refine ⟨fun i f hi hf => ?_, ?_, fun c hc => ?_, by omega, fun i hi hv => ?_, fun h => by have := h6 h; omega⟩
  · rw [eo 10 (by decide) (by decide), eo 11 (by decide) (by decide)]
    exact h1 i f hi (by rw [nF_c (eo 7 (by decide) (by decide))] at hf; exact hf)
  · rw [sV_c (g := g) (fun j _ => by rw [eo 12 (by decide) (by decide)]) (fun j _ => nV_c (eo 8 (by decide) (by decide)) _)]; exact h2
  · rw [e27]
    by_cases e : c = n4
    · rw [e, us]; exact hfr
    · rw [un e]; exact h3 c (by omega)
  · rw [nV_c (eo 8 (by decide) (by decide))] at hv
    have := h5 i hi hv; omega
theorem readG_o (g : Nat → Nat → Int32) (n5 R i : Nat) (F rw0 : Int32) (P : Nat) {k : Nat} (hk : k < 29 ∧ k ≠ 5) : readG g n5 R i F rw0 P k = g k := by
  unfold readG addR
  rw [vn (by omega), vn (by omega), vn (by omega), vn (by omega), vn (by omega), vn (by omega), vn (by omega), vn (by omega), vn (by omega), vn (by omega)]
theorem lwN_read (hN : lwN g x y n1 n2 nL n4 n5 kk) {R i : Nat} (F rw0 : Int32) (P : Nat) (hi : i < n1) (hv : 0 < nV g i) (h4 : 0 < n4) : lwN (readG g n5 R i F rw0 P) x y n1 n2 nL n4 (n5 + 1) (kk + 1) := by
  obtain ⟨h1, h2, h3, h4', h5, h6⟩ := hN
  have hk := h5 i hi hv
  have eo : ∀ k, k < 29 ∧ k ≠ 5 → readG g n5 R i F rw0 P k = g k := fun k hk => readG_o g n5 R i F rw0 P hk
  refine ⟨fun i f hi hf => ?_, ?_, fun c hc => by rw [eo 27 (by decide)]; exact h3 c hc, by omega, fun i' hi' hv' => ?_, fun _ => by omega⟩
  · rw [eo 10 (by decide), eo 11 (by decide)]
    exact h1 i f hi (by rw [nF_c (eo 7 (by decide))] at hf; exact hf)
  · rw [sV_c (g := g) (fun j _ => by rw [eo 12 (by decide)]) (fun j _ => nV_c (eo 8 (by decide)) _)]; exact h2
  · rw [nV_c (eo 8 (by decide))] at hv'
    have := h5 i' hi' hv'; omega
theorem cS_c {g g' : Nat → Nat → Int32} (h : g' 12 = g 12) (i n : Nat) : cS g' i n = cS g i n := by
  induction n with
  | zero => rfl
  | succ n ih => show cS g' i n + (if cn (g' 12 n) / 6 = i then 1 else 0) = _; rw [ih, h]; rfl
theorem sV_ver {n2 i : Nat} {x0 : Int32} (h6 : nV g i < 6) : ∀ n, sV (verG g n2 i x0) n = sV g n + cS g i n := by
  intro n
  induction n with
  | zero => rfl
  | succ n ih =>
    show sV (verG g n2 i x0) n + nV (verG g n2 i x0) (cn (verG g n2 i x0 12 n) / 6) = (sV g n + nV g (cn (g 12 n) / 6)) + (cS g i n + if cn (g 12 n) / 6 = i then 1 else 0)
    rw [ih, verG_o (k := 12) (by decide), verV h6]
    by_cases e : cn (g 12 n) / 6 = i
    · rw [if_pos e, if_pos e, e]; omega
    · rw [if_neg e, if_neg e]; omega
theorem sV_le : ∀ n, (∀ j, j < n → nV g (cn (g 12 j) / 6) ≤ 6) → sV g n ≤ 6 * n := by
  intro n
  induction n with
  | zero => intro _; exact Nat.le_refl _
  | succ n ih =>
    intro h
    show sV g n + nV g (cn (g 12 n) / 6) ≤ _
    have h1 := ih (fun j hj => h j (by omega))
    have h2 := h n (by omega)
    omega
theorem ver_X (hI : gI (mv g x y z) n1 n2 nL n4 n5) (hN : lwN g x y n1 n2 nL n4 n5 kk) {i : Nat} (hi : i < n1) (h6 : nV g i < 6) : nL + cS g i n2 ≤ 120 := by
  have h := sV_ver (g := g) (n2 := n2) (i := i) (x0 := 0) h6 n2
  have hb := hI.b2
  have h2 := hN.2.1
  have h3 := sV_le (g := verG g n2 i 0) n2 (fun j hj => by
    have hs : cn (g 12 j) / 6 < n1 := (hI.src hj).2.2.1
    have hv : nV g (cn (g 12 j) / 6) < 7 := (hI.v7 hs).2
    rw [verG_o (k := 12) (by decide), verV h6]
    split
    · omega
    · omega)
  omega
theorem lwN_ver (hI : gI (mv g x y z) n1 n2 nL n4 n5) (hN : lwN g x y n1 n2 nL n4 n5 kk) {i : Nat} (hi : i < n1) (h6 : nV g i < 6) (x0 : Int32) : lwN (verG g n2 i x0) x y n1 n2 (vL (mv g x y z) i x0 n2) n4 n5 (kk + 1) := by
  have hX := ver_X hI hN hi h6
  have hv := vN_at (x := x0) hI hi (show nV (mv g x y z) i < 6 from h6) (by rw [cS_c (g := g) (g' := mv g x y z) rfl]; exact hX) n2 (Nat.le_refl _)
  have hvl := hv.1.2.2
  rw [cS_c (g := g) (g' := mv g x y z) rfl] at hvl
  obtain ⟨h1, h2, h3, h4, h5, h6'⟩ := hN
  refine ⟨fun i' f hi' hf => ?_, ?_, fun c hc => by rw [verG_o (k := 27) (by decide)]; exact h3 c hc, by omega, fun _ _ _ => by omega, fun h => by have := h6' h; omega⟩
  · rw [verG_o (k := 10) (by decide), verG_o (k := 11) (by decide)]
    exact h1 i' f hi' (by rw [nF_c (verG_o (k := 7) (by decide))] at hf; exact hf)
  · rw [sV_ver h6]; omega
end LWN
/-! conditions, on both sides -/
theorem spR {x : Int32} {a b : Nat} (h1 : ¬ x < nI a) (h2 : ¬ nI b < x) (ha : a < 2 ^ 31) (hb : b < 2 ^ 31) : ∃ k, a ≤ k ∧ k ≤ b ∧ x = nI k := by
  have k1 := Int32.not_lt.mp h1
  have k2 := Int32.not_lt.mp h2
  rw [Int32.le_iff_toInt_le, nI_toInt ha] at k1
  rw [Int32.le_iff_toInt_le, nI_toInt hb] at k2
  obtain ⟨k, hk, rfl⟩ := nI_of (x := x) (fun q => by rw [Int32.lt_iff_toInt_lt] at q; have : (0 : Int32).toInt = 0 := rfl; omega)
  rw [nI_toInt hk] at k1 k2
  exact ⟨k, by omega, by omega, rfl⟩
theorem bFds_x {g : Nat → Nat → Int32} {i : Nat} {F : Int32} (h : F < nI 1 ∨ allF g i < F) : bFds g i F = true := by
  unfold bFds
  rcases h with h | h
  · rw [decide_eq_true h]; rfl
  · rw [decide_eq_true h]; exact Bool.or_true _
theorem bFds_n {g : Nat → Nat → Int32} {i : Nat} {F : Int32} (h1 : ¬ F < nI 1) (h2 : ¬ allF g i < F) : bFds g i F = false := by
  unfold bFds
  rw [decide_eq_false h1, decide_eq_false h2]; rfl
theorem ex_min {P : Nat → Prop} : ∀ n, (∃ j, j < n ∧ P j) → ∃ j0, j0 < n ∧ P j0 ∧ ∀ j, j < j0 → ¬ P j := by
  intro n
  induction n with
  | zero => rintro ⟨j, h, _⟩; omega
  | succ n ih =>
    rintro ⟨j, h1, h2⟩
    by_cases h : ∃ j, j < n ∧ P j
    · obtain ⟨j0, a, b, c⟩ := ih h
      exact ⟨j0, by omega, b, c⟩
    · have e : j = n := by
        by_cases e : j = n
        · exact e
        · exact absurd ⟨j, by omega, h2⟩ h
      exact ⟨n, by omega, by rw [← e]; exact h2, fun k hk hp => h ⟨k, hk, hp⟩⟩
theorem and_all {F : Int32} (h : F &&& (0 ^^^ (-1)) = 0) : F = 0 := by
  have e : F &&& (0 ^^^ (-1)) = F := by simp
  rw [e] at h; exact h
