/-! what the calls write, on both sides -/
section AGS
variable {G g : Nat → Nat → Int32}
theorem ag.k (h : ag G g) {k : Nat} (hk : k ≠ 10 ∧ k ≠ 11 ∧ k ≠ 18) : G k = g k := h k hk.1 hk.2.1 hk.2.2
theorem ag_car (h : ag G g) (f : Nat → Int32) (n : Nat) : carN G f n = carN g f n := carN_c (h.k (by decide)) (h.k (by decide)) (h.k (by decide)) f n
theorem ag_rse (h : ag G g) (p : Nat) (x : Int32) : ag (rse G p x) (rse g p x) := ag_up h (by rw [h.k (by decide)])
theorem ag_setl (h : ag G g) (n : Nat) : setlN G n = setlN g n := setlN_c (h.k (by decide)) (h.k (by decide)) (h.k (by decide)) (h.k (by decide)) (h.k (by decide)) n
theorem ag_try (h : ag G g) (nL p : Nat) (x : Int32) : tryN G nL p x = tryN g nL p x := by
  unfold tryN
  rw [h.k (k := 19) (by decide), h.k (k := 22) (by decide), ag_car h]
theorem ag_tri (h : ag G g) (nL p : Nat) (x : Int32) : ag (triG G nL p x) (triG g nL p x) := ag_up h (ag_try h nL p x)
theorem ag_fCr (h : ag G g) (R S : Int32) {c : Nat} (hc : c ≠ 10 ∧ c ≠ 11 ∧ c ≠ 18) : fCr G R S c = fCr g R S c := by
  funext r
  unfold fCr ofB crN
  rw [h.k (k := 29) (by decide), h.k (k := 30) (by decide)]
  have e : crF G c r = crF g c r := by
    funext f; unfold crF; rw [h.k (k := 38) (by decide), h.k (k := 30) (by decide), h.k (k := 31) (by decide), h.k hc]
  rw [e]
theorem ag_gain (h : ag G g) (nL n5 p : Nat) (x : Int32) : gainN G nL n5 p x = gainN g nL n5 p x := by
  unfold gainN
  rw [ag_fCr (ag_tri h nL p x) _ _ (by decide), ag_fCr h _ _ (by decide)]
theorem ag_rep (h : ag G g) (nL p : Nat) (x : Int32) : ag (repG G nL p x) (repG g nL p x) := ag_up (ag_rse (ag_tri h nL p x) p x) (ag_setl (ag_rse h p x) nL)
theorem ag_mis (h : ag G g) (nL p : Nat) (x : Int32) : ag (misG G nL p x) (misG g nL p x) := ag_up (ag_rse (ag_up h (by rw [h.k (by decide)])) p x) (ag_setl (ag_rse h p x) nL)
theorem ag_nV (h : ag G g) (i : Nat) : nV G i = nV g i := nV_c (h.k (by decide)) i
theorem ag_add (h : ag G g) (c p sh : Int32) : ag (addLnk G c p sh) (addLnk g c p sh) := by
  unfold addLnk
  rw [h.k (k := 2) (by decide), h.k (k := 15) (by decide), h.k (k := 16) (by decide), h.k (k := 17) (by decide)]
  split
  · exact ag_up (ag_up (ag_up (ag_up h rfl) rfl) rfl) rfl
  · exact h
theorem ag_lkS (h : ag G g) (i v j : Nat) : ag (lkS i v G j) (lkS i v g j) := by
  unfold lkS
  rw [h.k (k := 12) (by decide), h.k (k := 13) (by decide), h.k (k := 14) (by decide), ag_nV h]
  split
  · exact ag_add h _ _ _
  · exact h
theorem ag_lkN (h : ag G g) (i v n : Nat) : ag (lkN i v G n) (lkN i v g n) := by
  induction n with
  | zero => exact h
  | succ n ih => exact ag_lkS ih i v n
theorem ag_ver (h : ag G g) (n2 i : Nat) (x : Int32) : ag (verG G n2 i x) (verG g n2 i x) := by
  have e1 : ag (vr1 G i x) (vr1 g i x) := ag_up (ag_up h (by rw [h.k (by decide), ag_nV h])) (by rw [h.k (by decide), ag_nV h])
  have e2 : ag (vr2 G n2 i x) (vr2 g n2 i x) := by
    unfold vr2
    rw [ag_nV h]
    exact ag_lkN e1 i (nV g i) n2
  refine ag_up e2 ?_
  rw [ag_setl e2, e2.k (k := 2) (by decide)]
theorem ag_vL (h : ag G g) (i : Nat) (x : Int32) (n : Nat) : vL G i x n = vL g i x n := by
  have e1 : ag (vr1 G i x) (vr1 g i x) := ag_up (ag_up h (by rw [h.k (by decide), ag_nV h])) (by rw [h.k (by decide), ag_nV h])
  have e2 : ag (vG G i x n) (vG g i x n) := by
    unfold vG
    rw [ag_nV h]
    exact ag_lkN e1 i (nV g i) n
  unfold vL
  rw [e2.k (k := 2) (by decide)]
theorem ag_con (h : ag G g) (n4 : Nat) (a b F ps fr to : Int32) : ag (conG G n4 a b F ps fr to) (conG g n4 a b F ps fr to) := by
  unfold conG
  rw [h.k (k := 23) (by decide), h.k (k := 24) (by decide), h.k (k := 25) (by decide), h.k (k := 26) (by decide), h.k (k := 27) (by decide), h.k (k := 28) (by decide), h.k (k := 4) (by decide)]
  exact ag_up (ag_up (ag_up (ag_up (ag_up (ag_up (ag_up h rfl) rfl) rfl) rfl) rfl) rfl) rfl
theorem ag_fUn (h : ag G g) (R d : Int32) : fUn G R d = fUn g R d := by
  funext r
  unfold fUn
  rw [h.k (k := 29) (by decide), h.k (k := 35) (by decide), h.k (k := 33) (by decide), h.k (k := 32) (by decide)]
theorem chgW_c {f : Nat → Int32} {a k : Nat} {pr pr' : Nat → Int32} {F rw0 t : Int32} (e : ∀ j, j < k → pr j = pr' j) : chgW f a pr F rw0 t k = chgW f a pr' F rw0 t k := by
  funext j
  unfold chgW
  by_cases h : a ≤ j ∧ j < a + k ∧ hasB F (j - a) = true
  · rw [if_pos h, if_pos h, e (j - a) (by omega)]
  · rw [if_neg h, if_neg h]
theorem ag_read (h : ag G g) (n5 R i : Nat) (F rw0 : Int32) (P : Nat) (hp : ∀ f, f < nF g i → G 10 (i * 6 + f) = g 10 (i * 6 + f)) : ag (readG G n5 R i F rw0 P) (readG g n5 R i F rw0 P) := by
  unfold readG
  refine ag_up ?_ ?_
  · unfold addR
    rw [ag_fUn h, ag_nV h, h.k (k := 36) (by decide), h.k (k := 29) (by decide), h.k (k := 30) (by decide), h.k (k := 31) (by decide), h.k (k := 32) (by decide), h.k (k := 33) (by decide), h.k (k := 34) (by decide), h.k (k := 35) (by decide), h.k (k := 5) (by decide), h.k (k := 0) (by decide)]
    exact ag_up (ag_up (ag_up (ag_up (ag_up (ag_up (ag_up (ag_up (ag_up h rfl) rfl) rfl) rfl) rfl) rfl) rfl) rfl) rfl
  · rw [ag_fUn h, nF_c (h.k (k := 7) (by decide)), h.k (k := 38) (by decide), h.k (k := 0) (by decide)]
    exact chgW_c hp
theorem ag_chN (h : ag G g) (r : Nat) : chN G r = chN g r := by
  have e : chF G r = chF g r := by funext f; unfold chF; rw [h.k (k := 38) (by decide)]
  unfold chN; rw [e]
end AGS
/-! the days that fall away, told in two ways -/
theorem end_eq {a b : Nat} (ha : a < 360) (hb : b < 360) (w : Int32) : zmax (nI 0) (w - zmax (nI a - nI 1) (nI b)) = zmax (w - zmax (nI a) (nI b + nI 1) + nI 1) (nI 0) := by
  have e : zmax (nI a) (nI b + nI 1) = zmax (nI a - nI 1) (nI b) + nI 1 := by
    rw [nI_add]
    by_cases h : a ≤ b + 1
    · rw [zmax_n h (by omega)]
      by_cases h0 : a = 0
      · subst h0
        have : zmax (nI 0 - nI 1) (nI b) = nI b := by
          rw [zmax_def, if_pos]
          rw [Int32.lt_iff_toInt_lt, nI_toInt (show b < 2 ^ 31 by omega)]
          have : (nI 0 - nI 1).toInt = -1 := by decide
          omega
        rw [this, nI_add]
      · rw [pk_sub (show 1 ≤ a by omega), zmax_n (by omega) (by omega), nI_add]
    · rw [zmax_r (show b + 1 ≤ a by omega) (by omega), pk_sub (show 1 ≤ a by omega), zmax_r (by omega) (by omega), nI_add, show a - 1 + 1 = a by omega]
  rw [e, zmax_c]
  congr 1
  generalize zmax (nI a - nI 1) (nI b) = q
  generalize nI 1 = o
  rw [Int32.sub_eq_add_neg, Int32.sub_eq_add_neg, Int32.neg_add, Int32.sub_eq_add_neg, Int32.add_assoc, Int32.add_assoc, Int32.add_left_neg, Int32.add_zero]
/-! what is made of what, told in two ways -/
section MDE
variable {g : Nat → Nat → Int32} {n1 n2 nL n4 n5 : Nat}
theorem rchN_c {g g' : Nat → Nat → Int32} (h15 : g' 15 = g 15) (h16 : g' 16 = g 16) (h : Nat → Int32) (nL k : Nat) : rchN g' h nL k = rchN g h nL k := by
  induction k with
  | zero => rfl
  | succ k ih => show rchS _ _ _ = rchS _ _ _; rw [ih]; unfold rchS; rw [h15, h16]
theorem rch_A (hI : gI g n1 n2 nL n4 n5) (h : Nat → Int32) {s : Nat} : ∀ k, k ≤ nL → ∀ q, q < 288 → (rchN g (rch0 s h 288) nL k q ≠ 0 ↔ q = s ∨ ∃ j, nL - k ≤ j ∧ j < nL ∧ cn (g 16 j) = q ∧ rchN g (rch0 s h 288) nL (nL - 1 - j) (cn (g 15 j)) ≠ 0) := by
  intro k
  induction k with
  | zero =>
    intro _ q hq
    show rch0 s h 288 q ≠ 0 ↔ _
    unfold rch0
    rw [if_pos hq]
    constructor
    · intro h1
      by_cases e : q = s
      · exact Or.inl e
      · rw [decide_eq_false e] at h1; exact absurd rfl h1
    · rintro (e | ⟨j, h1, h2, -, -⟩)
      · rw [decide_eq_true e]; decide
      · omega
  | succ k ih =>
    intro hk q hq
    have ih := ih (by omega)
    by_cases hc : rchN g (rch0 s h 288) nL k (cn (g 15 (nL - 1 - k))) = 0
    · rw [rchN_n hc, ih q hq]
      constructor
      · rintro (e | ⟨j, h1, h2, h3, h4⟩)
        · exact Or.inl e
        · exact Or.inr ⟨j, by omega, h2, h3, h4⟩
      · rintro (e | ⟨j, h1, h2, h3, h4⟩)
        · exact Or.inl e
        · by_cases ej : j = nL - 1 - k
          · rw [ej, show nL - 1 - (nL - 1 - k) = k by omega] at h4
            exact absurd hc h4
          · exact Or.inr ⟨j, by omega, h2, h3, h4⟩
    · rw [rchN_y hc]
      by_cases eq : q = cn (g 16 (nL - 1 - k))
      · rw [eq, us]
        refine ⟨fun _ => Or.inr ⟨nL - 1 - k, by omega, by omega, rfl, ?_⟩, fun _ => by decide⟩
        rw [show nL - 1 - (nL - 1 - k) = k by omega]; exact hc
      · rw [un eq, ih q hq]
        constructor
        · rintro (e | ⟨j, h1, h2, h3, h4⟩)
          · exact Or.inl e
          · exact Or.inr ⟨j, by omega, h2, h3, h4⟩
        · rintro (e | ⟨j, h1, h2, h3, h4⟩)
          · exact Or.inl e
          · by_cases ej : j = nL - 1 - k
            · exact absurd (by rw [← h3, ej]) eq
            · exact Or.inr ⟨j, by omega, h2, h3, h4⟩
theorem rch_C (hI : gI g n1 n2 nL n4 n5) (h : Nat → Int32) {s q : Nat} (hq : q < 288) : rchN g (rch0 s h 288) nL nL q ≠ 0 ↔ q = s ∨ ∃ j, j < nL ∧ cn (g 16 j) = q ∧ rchN g (rch0 s h 288) nL nL (cn (g 15 j)) ≠ 0 := by
  have B : ∀ j, j < nL → (rchN g (rch0 s h 288) nL nL (cn (g 15 j)) ≠ 0 ↔ rchN g (rch0 s h 288) nL (nL - 1 - j) (cn (g 15 j)) ≠ 0) := fun j hj => by
    have hl := (hI.lk hj).1
    rw [rch_A hI h nL (Nat.le_refl _) _ hl.2, rch_A hI h (nL - 1 - j) (by omega) _ hl.2]
    constructor
    · rintro (e | ⟨k, h1, h2, h3, h4⟩)
      · exact Or.inl e
      · have ho := hI.ord h2 hj (by rw [hl.1, (hI.lk h2).2.1, h3])
        exact Or.inr ⟨k, by omega, h2, h3, h4⟩
    · rintro (e | ⟨k, h1, h2, h3, h4⟩)
      · exact Or.inl e
      · exact Or.inr ⟨k, by omega, h2, h3, h4⟩
  rw [rch_A hI h nL (Nat.le_refl _) q hq]
  constructor
  · rintro (e | ⟨j, h1, h2, h3, h4⟩)
    · exact Or.inl e
    · exact Or.inr ⟨j, h2, h3, (B j h2).mpr h4⟩
  · rintro (e | ⟨j, h2, h3, h4⟩)
    · exact Or.inl e
    · exact Or.inr ⟨j, by omega, h2, h3, (B j h2).mp h4⟩
theorem mdN_i {t d p : Nat} : mdN g nL t (d + 1) p = true ↔ ∃ j, j < nL ∧ g 15 j = nI p ∧ (cn (g 16 j) = t ∨ mdN g nL t d (cn (g 16 j)) = true) := by
  show (lkl g nL p).any _ = true ↔ _
  rw [List.any_eq_true]
  constructor
  · rintro ⟨j, h1, h2⟩
    rw [lkl_mem] at h1
    rw [Bool.or_eq_true, decide_eq_true_eq] at h2
    exact ⟨j, h1.1, h1.2, h2⟩
  · rintro ⟨j, h1, h2, h3⟩
    exact ⟨j, lkl_mem.mpr ⟨h1, h2⟩, by rw [Bool.or_eq_true, decide_eq_true_eq]; exact h3⟩
theorem mdN_mono {t d p : Nat} (h : mdN g nL t d p = true) : mdN g nL t (d + 1) p = true := by
  induction d generalizing p with
  | zero => cases h
  | succ d ih =>
    obtain ⟨j, h1, h2, h3⟩ := mdN_i.mp h
    exact mdN_i.mpr ⟨j, h1, h2, h3.elim Or.inl (fun z => Or.inr (ih z))⟩
theorem mdN_le {t d d' p : Nat} (hd : d ≤ d') (h : mdN g nL t d p = true) : mdN g nL t d' p = true := by
  induction d' with
  | zero => rw [show d = 0 by omega] at h; exact h
  | succ d' ih =>
    by_cases e : d = d' + 1
    · rw [← e]; exact h
    · exact mdN_mono (ih (by omega))
theorem mdN_app {c q d p j : Nat} (hj : j < nL) (h15 : g 15 j = nI c) (h16 : cn (g 16 j) = q) (h : mdN g nL c d p = true) : mdN g nL q (d + 1) p = true := by
  induction d generalizing p with
  | zero => cases h
  | succ d ih =>
    obtain ⟨k, h1, h2, h3⟩ := mdN_i.mp h
    refine mdN_i.mpr ⟨k, h1, h2, Or.inr ?_⟩
    rcases h3 with h3 | h3
    · rw [h3]; exact mdN_i.mpr ⟨j, hj, h15, Or.inl h16⟩
    · exact ih h3
theorem mdN_dn (hI : gI g n1 n2 nL n4 n5) {t d p : Nat} (hp : p < 288) (h : mdN g nL t d p = true) : t / 36 < p / 36 := by
  induction d generalizing p with
  | zero => cases h
  | succ d ih =>
    obtain ⟨j, h1, h2, h3⟩ := mdN_i.mp h
    have hk := hI.lkp h1
    rw [h2, cn_nI (show p < 2 ^ 31 by omega)] at hk
    rcases h3 with h3 | h3
    · rw [← h3]; exact hk.1
    · exact Nat.lt_trans (ih (hI.lk h1).2.2 h3) hk.1
theorem mdN_F (hI : gI g n1 n2 nL n4 n5) (h : Nat → Int32) {s t d p : Nat} (hp : p < 288) (hF : rchN g (rch0 s h 288) nL nL p ≠ 0) (hm : mdN g nL t d p = true) : rchN g (rch0 s h 288) nL nL t ≠ 0 := by
  induction d generalizing p with
  | zero => cases hm
  | succ d ih =>
    obtain ⟨j, h1, h2, h3⟩ := mdN_i.mp hm
    have hl := (hI.lk h1).2.2
    have hF2 : rchN g (rch0 s h 288) nL nL (cn (g 16 j)) ≠ 0 := (rch_C hI h hl).mpr (Or.inr ⟨j, h1, rfl, by rw [h2, cn_nI (show p < 2 ^ 31 by omega)]; exact hF⟩)
    rcases h3 with h3 | h3
    · rw [← h3]; exact hF2
    · exact ih hl hF2 h3
theorem mdN_E (hI : gI g n1 n2 nL n4 n5) (h : Nat → Int32) {s : Nat} (hs : s < 288) : ∀ n q, q < 288 → 8 - q / 36 ≤ n → rchN g (rch0 s h 288) nL nL q ≠ 0 → q = s ∨ mdN g nL q (s / 36 - q / 36) s = true ∧ q / 36 < s / 36 := by
  intro n
  induction n with
  | zero => intro q hq hn; omega
  | succ n ih =>
    intro q hq hn hF
    rcases (rch_C hI h hq).mp hF with e | ⟨j, h1, h2, h3⟩
    · exact Or.inl e
    · right
      have hl := (hI.lk h1).1
      have hk := (hI.lkp h1).1
      rw [h2] at hk
      rcases ih (cn (g 15 j)) hl.2 (by omega) h3 with e | ⟨h4, h5⟩
      · rw [← e]
        exact ⟨mdN_le (show 1 ≤ _ by omega) (mdN_i.mpr ⟨j, h1, hl.1, Or.inl h2⟩), hk⟩
      · exact ⟨mdN_le (by omega) (mdN_app h1 hl.1 h2 h4), by omega⟩
theorem made_eq (hI : gI g n1 n2 nL n4 n5) (h : Nat → Int32) {s t : Nat} (hs : s < 288) (ht : t < 288) : (!decide (s = t) && !decide (rchN g (rch0 s h 288) nL nL t = 0)) = mdN g nL t 8 s := by
  rcases hm : mdN g nL t 8 s with _ | _
  · by_cases e : s = t
    · rw [decide_eq_true e]; rfl
    · rw [decide_eq_false e]
      by_cases hF : rchN g (rch0 s h 288) nL nL t = 0
      · rw [decide_eq_true hF]; rfl
      · exfalso
        rcases mdN_E hI h hs 8 t ht (by omega) hF with e2 | ⟨h4, h5⟩
        · exact e e2.symm
        · rw [mdN_le (by omega) h4] at hm; cases hm
  · have hd := mdN_dn hI hs hm
    rw [decide_eq_false (show ¬ s = t from fun e => by rw [e] at hd; omega)]
    have hF : rchN g (rch0 s h 288) nL nL s ≠ 0 := (rch_C hI h hs).mpr (Or.inl rfl)
    rw [decide_eq_false (mdN_F hI h hs hF hm)]; rfl
end MDE
