/-! a new version of the set i, with x rows: the numbers behind the first j sources -/
def vG (g : Nat → Nat → Int32) (i : Nat) (x : Int32) (j : Nat) : Nat → Nat → Int32 := lkN i (nV g i) (vr1 g i x) j
def vL (g : Nat → Nat → Int32) (i : Nat) (x : Int32) (j : Nat) : Nat := cn (vG g i x j 2 1)
/-- how many of the first j sources are of the set i -/
def cS (g : Nat → Nat → Int32) (i : Nat) : Nat → Nat
  | 0 => 0
  | j + 1 => cS g i j + if cn (g 12 j) / 6 = i then 1 else 0
theorem cS_mono (g : Nat → Nat → Int32) (i : Nat) {j k : Nat} (h : j ≤ k) : cS g i j ≤ cS g i k := by
  induction k with
  | zero => rw [show j = 0 by omega]; exact Nat.le_refl _
  | succ k ih =>
    by_cases e : j = k + 1
    · rw [e]; exact Nat.le_refl _
    · exact Nat.le_trans (ih (by omega)) (Nat.le_add_right _ _)
theorem vr1_8 {g : Nat → Nat → Int32} {i : Nat} {x : Int32} : vr1 g i x 8 = upd (g 8) i (nI (nV g i + 1)) := vs
theorem vr1_9 {g : Nat → Nat → Int32} {i : Nat} {x : Int32} : vr1 g i x 9 = upd (g 9) (i * 6 + nV g i) x := (vn (by decide)).trans vs
theorem vr1_o {g : Nat → Nat → Int32} {i : Nat} {x : Int32} {k : Nat} (h : k ≠ 8 ∧ k ≠ 9) : vr1 g i x k = g k := (vn h.1).trans (vn h.2)
theorem vG_r {g : Nat → Nat → Int32} {i : Nat} {x : Int32} {j k : Nat} (h : k ≠ 15 ∧ k ≠ 16 ∧ k ≠ 17 ∧ k ≠ 2) : vG g i x j k = vr1 g i x k := lkN_r h
theorem vG_o {g : Nat → Nat → Int32} {i : Nat} {x : Int32} {j k : Nat} (h : k ≠ 15 ∧ k ≠ 16 ∧ k ≠ 17 ∧ k ≠ 2 ∧ k ≠ 8 ∧ k ≠ 9) : vG g i x j k = g k := (vG_r ⟨h.1, h.2.1, h.2.2.1, h.2.2.2.1⟩).trans (vr1_o h.2.2.2.2)
theorem nV_vr1 {g : Nat → Nat → Int32} {i k : Nat} {x : Int32} (h : k ≠ i) : nV (vr1 g i x) k = nV g k := by
  unfold nV; rw [vr1_8, un h]
theorem vG_s (g : Nat → Nat → Int32) (i : Nat) (x : Int32) (j : Nat) : vG g i x (j + 1) = if cn (g 12 j) / 6 = i ∧ 0 < nV (vr1 g i x) (cn (g 13 j) / 6) then addLnk (vG g i x j) (nI (plc i (nV g i) (cn (g 12 j) % 6))) (nI (plc (cn (g 13 j) / 6) (nV (vr1 g i x) (cn (g 13 j) / 6) - 1) (cn (g 13 j) % 6))) (g 14 j) else vG g i x j := by
  show lkS i (nV g i) (vG g i x j) j = _
  have e12 : vG g i x j 12 = g 12 := vG_o (by decide)
  have e13 : vG g i x j 13 = g 13 := vG_o (by decide)
  have e14 : vG g i x j 14 = g 14 := vG_o (by decide)
  have e8 : ∀ k, nV (vG g i x j) k = nV (vr1 g i x) k := fun k => by unfold nV; rw [vG_r (k := 8) (by decide)]
  unfold lkS
  rw [e12, e13, e14, e8]
section VN
variable {g : Nat → Nat → Int32} {n1 n2 nL n4 n5 i j : Nat} {x : Int32}
theorem vG_n (hI : gI g n1 n2 nL n4 n5) (hj : j < n2) (h : cn (g 12 j) / 6 ≠ i ∨ nV g (cn (g 13 j) / 6) = 0) : vG g i x (j + 1) = vG g i x j := by
  rw [vG_s, if_neg]
  rintro ⟨h1, h2⟩
  have hs := (hI.src hj).2.2.2
  rw [nV_vr1 (by omega)] at h2
  omega
theorem vG_y (hI : gI g n1 n2 nL n4 n5) (hj : j < n2) (h1 : cn (g 12 j) / 6 = i) (h2 : 0 < nV g (cn (g 13 j) / 6)) : vG g i x (j + 1) = addLnk (vG g i x j) (nI (plc i (nV g i) (cn (g 12 j) % 6))) (nI (plc (cn (g 13 j) / 6) (nV g (cn (g 13 j) / 6) - 1) (cn (g 13 j) % 6))) (g 14 j) := by
  have hs := (hI.src hj).2.2.2
  rw [vG_s, nV_vr1 (by omega), if_pos ⟨h1, h2⟩]
theorem ad_15 {G : Nat → Nat → Int32} {c p sh : Int32} (h : cn (G 2 1) < 120) : addLnk G c p sh 15 = upd (G 15) (cn (G 2 1)) c := by
  unfold addLnk; rw [if_pos h, vn (by decide), vn (by decide), vn (by decide), vs]
theorem ad_16 {G : Nat → Nat → Int32} {c p sh : Int32} (h : cn (G 2 1) < 120) : addLnk G c p sh 16 = upd (G 16) (cn (G 2 1)) p := by
  unfold addLnk; rw [if_pos h, vn (by decide), vn (by decide), vs]
theorem ad_17 {G : Nat → Nat → Int32} {c p sh : Int32} (h : cn (G 2 1) < 120) : addLnk G c p sh 17 = upd (G 17) (cn (G 2 1)) sh := by
  unfold addLnk; rw [if_pos h, vn (by decide), vs]
theorem ad_2 {G : Nat → Nat → Int32} {c p sh : Int32} (h : cn (G 2 1) < 120) : addLnk G c p sh 2 1 = nI (cn (G 2 1) + 1) := by
  unfold addLnk; rw [if_pos h, vs]; exact us
theorem lkl_c {g g' : Nat → Nat → Int32} {n p : Nat} (e : ∀ j, j < n → g' 15 j = g 15 j) : lkl g' n p = lkl g n p := by
  unfold lkl
  refine List.filter_congr fun j hj => ?_
  rw [e j (List.mem_range.mp hj)]
theorem lkl_e {g : Nat → Nat → Int32} {n p : Nat} (e : ∀ j, j < n → g 15 j ≠ nI p) : lkl g n p = [] := by
  refine List.eq_nil_iff_forall_not_mem.mpr fun j hj => ?_
  have h := lkl_mem.mp hj
  exact e j h.1 h.2
theorem lkl_new (hI : gI g n1 n2 nL n4 n5) {p : Nat} (hp : p < 288) (hq : p / 6 = i * 6 + nV g i) (h6 : nV g i < 6) : lkl g nL p = [] := by
  refine lkl_e fun k hk e => ?_
  have h1 := (hI.lkp hk).2.2.1
  rw [e, cn_nI (by omega), show p / 6 % 6 = nV g i by omega, show p / 36 = i by omega] at h1
  omega
/-- the numbers of a version in the making -/
def vN (g : Nat → Nat → Int32) (n2 nL i : Nat) (x : Int32) (j : Nat) : Prop :=
  (vG g i x j 2 1 = nI (vL g i x j) ∧ nL ≤ vL g i x j ∧ vL g i x j ≤ nL + cS g i j) ∧
  (∀ k, k < nL → vG g i x j 15 k = g 15 k ∧ vG g i x j 16 k = g 16 k ∧ vG g i x j 17 k = g 17 k) ∧
  (∀ k, nL ≤ k → k < vL g i x j → ∃ s, s < n2 ∧ cn (g 12 s) / 6 = i ∧ 0 < nV g (cn (g 13 s) / 6) ∧ vG g i x j 15 k = nI (plc i (nV g i) (cn (g 12 s) % 6)) ∧ vG g i x j 16 k = nI (plc (cn (g 13 s) / 6) (nV g (cn (g 13 s) / 6) - 1) (cn (g 13 s) % 6))) ∧
  (∀ p, p < 288 → p / 6 ≠ i * 6 + nV g i → lkl (vG g i x j) (vL g i x j) p = lkl g nL p) ∧
  ∀ p, p < 288 → p / 6 = i * 6 + nV g i → (lkl (vG g i x j) (vL g i x j) p).length ≤ j
theorem vL_0 (hI : gI g n1 n2 nL n4 n5) : vL g i x 0 = nL := by
  have hb := hI.bL
  show cn (vr1 g i x 2 1) = nL
  rw [vr1_o (by decide), hI.1.2.2.2.2.1.1, cn_nI (by omega)]
theorem vN_0 (hI : gI g n1 n2 nL n4 n5) (h6 : nV g i < 6) : vN g n2 nL i x 0 := by
  have e : ∀ k, (k ≠ 8 ∧ k ≠ 9) → vG g i x 0 k = g k := fun k h => vr1_o h
  have eL := vL_0 (i := i) (x := x) hI
  unfold vN
  rw [eL, e 2 (by decide), e 15 (by decide), e 16 (by decide), e 17 (by decide)]
  refine ⟨⟨hI.1.2.2.2.2.1.1, Nat.le_refl _, Nat.le_refl _⟩, fun k hk => ⟨rfl, rfl, rfl⟩, fun k h1 h2 => by omega, fun p _ _ => lkl_c (fun j _ => by rw [e 15 (by decide)]), fun p hp hq => ?_⟩
  rw [lkl_c (g := g) (fun j _ => by rw [e 15 (by decide)]), lkl_new hI hp hq h6]
  exact Nat.le_refl _
theorem vN_s (hI : gI g n1 n2 nL n4 n5) (hi : i < n1) (h6 : nV g i < 6) (hX : nL + cS g i n2 ≤ 120) (hj : j < n2) (h : vN g n2 nL i x j) : vN g n2 nL i x (j + 1) := by
  have hb := hI.b1
  obtain ⟨⟨s12, b12⟩, ⟨s13, b13⟩, q1, q2⟩ := hI.src hj
  by_cases hc : cn (g 12 j) / 6 ≠ i ∨ nV g (cn (g 13 j) / 6) = 0
  · have e := vG_n (x := x) hI hj hc
    have eL : vL g i x (j + 1) = vL g i x j := by unfold vL; rw [e]
    obtain ⟨h1, h2, h3, h4, h5⟩ := h
    have hm := cS_mono g i (show j ≤ j + 1 by omega)
    unfold vN
    rw [eL, e]
    exact ⟨⟨h1.1, h1.2.1, by omega⟩, h2, h3, h4, fun p hp hq => Nat.le_succ_of_le (h5 p hp hq)⟩
  · have c1 : cn (g 12 j) / 6 = i := by omega
    have c2 : 0 < nV g (cn (g 13 j) / 6) := by omega
    have e := vG_y (x := x) hI hj c1 c2
    obtain ⟨h1, h2, h3, h4, h5⟩ := h
    have hcs : cS g i (j + 1) = cS g i j + 1 := by
      show cS g i j + (if cn (g 12 j) / 6 = i then 1 else 0) = _
      rw [if_pos c1]
    have hm := cS_mono g i (show j + 1 ≤ n2 by omega)
    have hlt : cn (vG g i x j 2 1) < 120 := by
      have : vL g i x j < 120 := by omega
      exact this
    have eL : vL g i x (j + 1) = vL g i x j + 1 := by
      show cn (vG g i x (j + 1) 2 1) = cn (vG g i x j 2 1) + 1
      rw [e, ad_2 hlt, cn_nI (by omega)]
    have e15 : vG g i x (j + 1) 15 = upd (vG g i x j 15) (vL g i x j) (nI (plc i (nV g i) (cn (g 12 j) % 6))) := by rw [e]; exact ad_15 hlt
    have e16 : vG g i x (j + 1) 16 = upd (vG g i x j 16) (vL g i x j) (nI (plc (cn (g 13 j) / 6) (nV g (cn (g 13 j) / 6) - 1) (cn (g 13 j) % 6))) := by rw [e]; exact ad_16 hlt
    have e17 : vG g i x (j + 1) 17 = upd (vG g i x j 17) (vL g i x j) (g 14 j) := by rw [e]; exact ad_17 hlt
    have eo : ∀ p, lkl (vG g i x (j + 1)) (vL g i x j) p = lkl (vG g i x j) (vL g i x j) p := fun p => lkl_c fun k hk => by rw [e15, un (by omega)]
    have en : vG g i x (j + 1) 15 (vL g i x j) = nI (plc i (nV g i) (cn (g 12 j) % 6)) := by rw [e15, us]
    refine ⟨⟨?_, by omega, by omega⟩, fun k hk => ?_, fun k hk1 hk2 => ?_, fun p hp hq => ?_, fun p hp hq => ?_⟩
    · rw [eL, e, ad_2 hlt]; rfl
    · rw [e15, e16, e17, un (by omega), un (by omega), un (by omega)]
      exact h2 k hk
    · rw [eL] at hk2
      rw [e15, e16]
      by_cases ek : k = vL g i x j
      · rw [ek, us, us]; exact ⟨j, hj, c1, c2, rfl, rfl⟩
      · rw [un ek, un ek]; exact h3 k hk1 (by omega)
    · rw [eL, lkl_s, eo, en, if_neg, List.append_nil]
      · exact h4 p hp hq
      · intro z
        have := (nI_eq (show plc i (nV g i) (cn (g 12 j) % 6) < 2 ^ 31 by unfold plc; omega) (show p < 2 ^ 31 by omega)).mp z
        unfold plc at this
        omega
    · rw [eL, lkl_s, eo, List.length_append]
      have := h5 p hp hq
      split
      · show _ + 1 ≤ _; omega
      · show _ + 0 ≤ _; omega
theorem vN_at (hI : gI g n1 n2 nL n4 n5) (hi : i < n1) (h6 : nV g i < 6) (hX : nL + cS g i n2 ≤ 120) : ∀ j, j ≤ n2 → vN g n2 nL i x j := by
  intro j
  induction j with
  | zero => intro _; exact vN_0 hI h6
  | succ j ih => intro hj; exact vN_s hI hi h6 hX (by omega) (ih (by omega))
/-- the rows behind the version -/
theorem verG_k {k : Nat} (h : k ≠ 21) : verG g n2 i x k = vG g i x n2 k := vn h
theorem verG_21 : verG g n2 i x 21 = carN (vG g i x n2) (cpy (g 19) (g 21) 288) (vL g i x n2) := by
  show va_up (vr2 g n2 i x) 21 (setlN (vr2 g n2 i x) (cn (vr2 g n2 i x 2 1))) 21 = _
  rw [vs]
  show carN (vG g i x n2) (cpy (vG g i x n2 19) (vG g i x n2 21) 288) (vL g i x n2) = _
  rw [vG_o (k := 19) (by decide), vG_o (k := 21) (by decide)]
theorem verG_o {k : Nat} (h : k ≠ 15 ∧ k ≠ 16 ∧ k ≠ 17 ∧ k ≠ 2 ∧ k ≠ 8 ∧ k ≠ 9 ∧ k ≠ 21) : verG g n2 i x k = g k := (verG_k h.2.2.2.2.2.2).trans (vG_o ⟨h.1, h.2.1, h.2.2.1, h.2.2.2.1, h.2.2.2.2.1, h.2.2.2.2.2.1⟩)
theorem verG_8 : verG g n2 i x 8 = upd (g 8) i (nI (nV g i + 1)) := (verG_k (by decide)).trans ((vG_r (by decide)).trans vr1_8)
theorem verG_9 : verG g n2 i x 9 = upd (g 9) (i * 6 + nV g i) x := (verG_k (by decide)).trans ((vG_r (by decide)).trans vr1_9)
theorem verG_20 : verG g n2 i x 2 0 = g 2 0 := by
  rw [verG_k (by decide)]
  exact lkN_0.trans (by rw [vr1_o (by decide)])
theorem verV (h6 : nV g i < 6) (k : Nat) : nV (verG g n2 i x) k = if k = i then nV g i + 1 else nV g k := by
  unfold nV
  rw [verG_8]
  by_cases e : k = i
  · rw [if_pos e, e, us, cn_nI (by omega)]; rfl
  · rw [if_neg e, un e]
theorem gI_ver (hI : gI g n1 n2 nL n4 n5) (hi : i < n1) (h6 : nV g i < 6) (hX : nL + cS g i n2 ≤ 120) : gI (verG g n2 i x) n1 n2 (vL g i x n2) n4 n5 := by
  have hb := hI.b1
  obtain ⟨⟨h1, h1a, h1b⟩, h2, h3, h4, h5⟩ := vN_at (x := x) hI hi h6 hX n2 (Nat.le_refl _)
  have hbs := hI.b2
  have hm : vL g i x n2 ≤ 120 := by omega
  have e15 : verG g n2 i x 15 = vG g i x n2 15 := verG_k (by decide)
  have e16 : verG g n2 i x 16 = vG g i x n2 16 := verG_k (by decide)
  have e17 : verG g n2 i x 17 = vG g i x n2 17 := verG_k (by decide)
  have e21 : verG g n2 i x 2 1 = nI (vL g i x n2) := by rw [verG_k (by decide)]; exact h1
  have eV := fun k => verV (n2 := n2) (x := x) h6 k
  have eo : ∀ k, (k ≠ 15 ∧ k ≠ 16 ∧ k ≠ 17 ∧ k ≠ 2 ∧ k ≠ 8 ∧ k ≠ 9 ∧ k ≠ 21) → verG g n2 i x k = g k := fun k h => verG_o h
  have ek : ∀ p, lkl (verG g n2 i x) (vL g i x n2) p = lkl (vG g i x n2) (vL g i x n2) p := fun p => lkl_c fun k _ => by rw [e15]
  have hlk : ∀ k, k < vL g i x n2 → (nb (verG g n2 i x 15 k) 288 ∧ nb (verG g n2 i x 16 k) 288) ∧ cn (verG g n2 i x 16 k) / 36 < cn (verG g n2 i x 15 k) / 36 ∧ cn (verG g n2 i x 15 k) / 36 < n1 ∧ cn (verG g n2 i x 15 k) / 6 % 6 < nV (verG g n2 i x) (cn (verG g n2 i x 15 k) / 36) ∧ cn (verG g n2 i x 16 k) / 6 % 6 < nV (verG g n2 i x) (cn (verG g n2 i x 16 k) / 36) := by
    intro k hk
    rw [e15, e16]
    by_cases hkL : k < nL
    · rw [(h2 k hkL).1, (h2 k hkL).2.1]
      have a := hI.lk hkL
      have b := hI.lkp hkL
      refine ⟨⟨a.1, a.2.1, a.2.2⟩, b.1, b.2.1, ?_, ?_⟩
      · rw [eV]; split
        · rename_i q; have c := b.2.2.1; rw [q] at c; omega
        · exact b.2.2.1
      · rw [eV]; split
        · rename_i q; have c := b.2.2.2; rw [q] at c; omega
        · exact b.2.2.2
    · obtain ⟨s, s1, s2, s3, s4, s5⟩ := h3 k (by omega) hk
      obtain ⟨⟨s12, b12⟩, ⟨s13, b13⟩, q1, q2⟩ := hI.src s1
      have v7 := (hI.v7 (show cn (g 13 s) / 6 < n1 by omega)).2
      have P1 : plc i (nV g i) (cn (g 12 s) % 6) < 288 := by unfold plc; omega
      have P2 : plc (cn (g 13 s) / 6) (nV g (cn (g 13 s) / 6) - 1) (cn (g 13 s) % 6) < 288 := by unfold plc; omega
      rw [s4, s5, cn_nI (by omega), cn_nI (by omega), eV, eV]
      have d1 : plc i (nV g i) (cn (g 12 s) % 6) / 36 = i := by unfold plc; omega
      have d2 : plc i (nV g i) (cn (g 12 s) % 6) / 6 % 6 = nV g i := by unfold plc; omega
      have d3 : plc (cn (g 13 s) / 6) (nV g (cn (g 13 s) / 6) - 1) (cn (g 13 s) % 6) / 36 = cn (g 13 s) / 6 := by unfold plc; omega
      have d4 : plc (cn (g 13 s) / 6) (nV g (cn (g 13 s) / 6) - 1) (cn (g 13 s) % 6) / 6 % 6 = nV g (cn (g 13 s) / 6) - 1 := by unfold plc; omega
      rw [d1, d2, d3, d4, if_pos rfl, if_neg (by omega)]
      exact ⟨⟨nb_nI P1 (by decide), nb_nI P2 (by decide)⟩, by omega, hi, by omega, by omega⟩
  obtain ⟨⟨b1, b2, b3, b4, b5, b6, b7, b8, b9, b10⟩, a2, a3, a4, a5, a6, a7, a8, a9, a10⟩ := id hI
  have hord : ∀ j k, j < vL g i x n2 → k < vL g i x n2 → verG g n2 i x 15 k = verG g n2 i x 16 j → k < j := by
    intro j k hj hk e
    rw [e15, e16] at e
    by_cases hjL : j < nL
    · by_cases hkL : k < nL
      · rw [(h2 k hkL).1, (h2 j hjL).2.1] at e
        exact hI.ord hjL hkL e
      · obtain ⟨s, s1, s2, s3, s4, s5⟩ := h3 k (by omega) hk
        obtain ⟨⟨s12, b12⟩, ⟨s13, b13⟩, q1, q2⟩ := hI.src s1
        rw [s4, (h2 j hjL).2.1] at e
        have c := (hI.lkp hjL).2.2.2
        rw [← e, cn_nI (by unfold plc; omega)] at c
        rw [show plc i (nV g i) (cn (g 12 s) % 6) / 36 = i by unfold plc; omega, show plc i (nV g i) (cn (g 12 s) % 6) / 6 % 6 = nV g i by unfold plc; omega] at c
        omega
    · by_cases hkL : k < nL
      · omega
      · exfalso
        obtain ⟨s, s1, s2, s3, s4, s5⟩ := h3 k (by omega) hk
        obtain ⟨r, r1, r2, r3, r4, r5⟩ := h3 j (by omega) hj
        obtain ⟨⟨s12, b12⟩, ⟨s13, b13⟩, q1, q2⟩ := hI.src s1
        obtain ⟨⟨r12, c12⟩, ⟨r13, c13⟩, p1, p2⟩ := hI.src r1
        have v7 := (hI.v7 (show cn (g 13 r) / 6 < n1 by omega)).2
        rw [s4, r5] at e
        have := (nI_eq (show plc i (nV g i) (cn (g 12 s) % 6) < 2 ^ 31 by unfold plc; omega) (show plc (cn (g 13 r) / 6) (nV g (cn (g 13 r) / 6) - 1) (cn (g 13 r) % 6) < 2 ^ 31 by unfold plc; omega)).mp e
        unfold plc at this
        omega
  have hd : dI (verG g n2 i x) n1 n2 (vL g i x n2) n4 n5 := by
    refine ⟨?_, fun i' hi' => ?_, ?_, fun j hj => ?_, ⟨e21, hm⟩, fun j hj => (hlk j hj).1, ?_, ?_, fun r hr => ?_, ?_⟩
    · rw [eo 1 (by decide)]; exact b1
    · unfold nF
      rw [eo 7 (by decide), verG_8]
      refine ⟨(b2 i' hi').1, ?_, (b2 i' hi').2.2⟩
      by_cases e : i' = i
      · rw [e, us]; exact nb_nI (by omega) (by decide)
      · rw [un e]; exact (b2 i' hi').2.1
    · rw [verG_20]; exact b3
    · rw [eo 12 (by decide), eo 13 (by decide)]; exact b4 j hj
    · rw [eo 4 (by decide)]; exact b7
    · rw [eo 5 (by decide)]; exact b8
    · rw [eo 30 (by decide), eo 31 (by decide)]; exact b9 r hr
    · rw [eo 0 (by decide)]; exact b10
  have ec : ∀ f n, carN (verG g n2 i x) f n = carN (vG g i x n2) f n := fun f n => carN_c e15 e16 e17 f n
  have hlen : ∀ p, p < 288 → (lkl (verG g n2 i x) (vL g i x n2) p).length ≤ 20 := by
    intro p hp
    rw [ek]
    by_cases hq : p / 6 = i * 6 + nV g i
    · exact Nat.le_trans (h5 p hp hq) hbs
    · rw [h4 p hp hq]; exact a6 p hp
  refine ⟨hd, fun k hk => (hlk k hk).2, hord, fun p hp => ?_, fun p hp hq => ?_, hlen, fun r i' hr h1' h2' => ?_, fun i' h1' h2' => ?_, fun p hp => ?_, fun r hr => ?_⟩
  · rw [verG_21, ec, eo 19 (by decide)]
    have key : ∀ n, n ≤ vL g i x n2 → ∀ p, p < 288 → carN (vG g i x n2) (cpy (g 19) (g 21) 288) n p = carN (vG g i x n2) (g 19) n p := by
      intro n
      induction n with
      | zero => intro _ p hp; show cpy (g 19) (g 21) 288 p = g 19 p; unfold cpy; rw [if_pos hp]
      | succ n ih =>
        intro hn p hp
        have ih := ih (by omega)
        have hbk := (hlk n (by omega)).1
        rw [e15, e16] at hbk
        show csS (vG g i x n2) (carN (vG g i x n2) (cpy (g 19) (g 21) 288) n) n p = csS (vG g i x n2) (carN (vG g i x n2) (g 19) n) n p
        unfold csS
        rw [ih _ hbk.1.2, ih _ hbk.2.2]
        unfold upd
        split
        · rfl
        · exact ih p hp
    exact key _ (Nat.le_refl _) p hp
  · rw [eo 19 (by decide), eo 20 (by decide)]
    refine a5 p hp fun z => hq ⟨z.1, ?_⟩
    rw [eV]
    split
    · rename_i q; have c := z.2; rw [q] at c; omega
    · exact z.2
  · rw [eo 6 (by decide)]; exact a7 r i' hr h1' h2'
  · rw [verG_8, un (by omega)]; exact a8 i' h1' h2'
  · rw [eo 38 (by decide)]; exact a9 p hp
  · rw [eo 37 (by decide)]; exact a10 r hr
end VN
