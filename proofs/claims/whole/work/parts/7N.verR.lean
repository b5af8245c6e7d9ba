/-! a new version in the model's world -/
def vP (ty : Nat → ClassId) (t0 : Nat) (g : Nat → Nat → Int32) (n1 n2 nL n4 n5 : Nat) (th : Int32) (rep bro : Nat → Nat → Int32) (i q : Nat) (x : Int32) (j : Nat) (u : Nat → Nat → Prop) (C : Nat → Nat → va_E) (ma : Nat → Nat → Nat) : Prop :=
  mR ty t0 g n1 n2 nL n4 n5 th rep bro u C ma ∧
  (u 15 q ∧ C 15 q = eO 12 [.int x, .ref (ma 16 q), .ref (ma 17 q), .ref (ma 18 q), .ref (ma 19 q)]) ∧ (u 16 q ∧ C 16 q = eI (ty 0) 6 (fun _ => 0)) ∧ (u 17 q ∧ C 17 q = eI (ty 0) 6 (fun _ => 0)) ∧ (u 18 q ∧ C 18 q = eI (ty 1) 6 (fun _ => 0)) ∧
  isL ty t0 u C ma 19 q 6 (fun f => ma 21 (q * 6 + f)) ∧
  (∀ f, f < 6 → isL ty t0 u C ma 21 (q * 6 + f) (lkl (vG g i x j) (vL g i x j) (q * 6 + f)).length (fun k => ma 23 (lkj (vG g i x j) (vL g i x j) (q * 6 + f) k))) ∧
  ∀ k, nL ≤ k → k < vL g i x j → u 23 k ∧ C 23 k = kC (vG g i x j) k
/-- the new version is none that the relation speaks of -/
theorem mU_q {g : Nat → Nat → Int32} {n1 n2 nL n4 n5 i q k y : Nat} (hq : q = i * 6 + nV g i) (h6 : nV g i < 6) (h : mU g n1 n2 nL n4 n5 k y) : ¬ (15 ≤ k ∧ k ≤ 20 ∧ y = q) ∧ ¬ ((k = 21 ∨ k = 22) ∧ y / 6 = q) := by
  unfold mU at h
  refine ⟨fun z => ?_, fun z => ?_⟩
  · obtain ⟨h1, h2, rfl⟩ := z
    have e1 : y / 6 = i := by omega
    have e2 : y % 6 = nV g i := by omega
    rw [e1, e2] at h
    omega
  · obtain ⟨h1, h2⟩ := z
    have e1 : y / 36 = i := by omega
    have e2 : y / 6 % 6 = nV g i := by omega
    rw [e1, e2] at h
    omega
theorem lat_m1 {k : Nat} (hk : k < 7) : nI k - nI 1 = -1 ↔ k = 0 := by
  obtain rfl | rfl | rfl | rfl | rfl | rfl | rfl : k = 0 ∨ k = 1 ∨ k = 2 ∨ k = 3 ∨ k = 4 ∨ k = 5 ∨ k = 6 := by omega
  all_goals decide
section VP
variable {ty : Nat → ClassId} {t0 : Nat} {g : Nat → Nat → Int32} {n1 n2 nL n4 n5 : Nat} {th : Int32} {rep bro : Nat → Nat → Int32} {i q : Nat} {x : Int32} {j : Nat} {u u' : Nat → Nat → Prop} {C C' : Nat → Nat → va_E} {ma ma' : Nat → Nat → Nat} {S : mSt}
/-- the lists of the new version hold new links alone -/
theorem vlk_mem (hI : gI g n1 n2 nL n4 n5) (hi : i < n1) (h6 : nV g i < 6) (hX : nL + cS g i n2 ≤ 120) (hj : j ≤ n2) (hq : q = i * 6 + nV g i) {f k : Nat} (hf : f < 6) (hk : k < (lkl (vG g i x j) (vL g i x j) (q * 6 + f)).length) : nL ≤ lkj (vG g i x j) (vL g i x j) (q * 6 + f) k ∧ lkj (vG g i x j) (vL g i x j) (q * 6 + f) k < vL g i x j := by
  have hb := hI.b1
  obtain ⟨h1, h2, h3, h4, h5⟩ := vN_at (x := x) hI hi h6 hX j hj
  have hm := lkj_mem hk
  refine ⟨?_, hm.1⟩
  by_cases hL : lkj (vG g i x j) (vL g i x j) (q * 6 + f) k < nL
  · exfalso
    have e := hm.2
    rw [(h2 _ hL).1] at e
    have hn := lkl_new hI (p := q * 6 + f) (by omega) (by omega) h6
    have : lkj (vG g i x j) (vL g i x j) (q * 6 + f) k ∈ lkl g nL (q * 6 + f) := lkl_mem.mpr ⟨hL, e⟩
    rw [hn] at this
    cases this
  · omega
/-- cells that it doesn't speak of -/
theorem vP.ext (h : vP ty t0 g n1 n2 nL n4 n5 th rep bro i q x j u C ma) (hi : i < n1) (h6 : nV g i < 6) (hX : nL + cS g i n2 ≤ 120) (hj : j ≤ n2) (hq : q = i * 6 + nV g i) (hL : nL ≤ vL g i x j) (e : ∀ k y, ¬ (k = 23 ∧ y = vL g i x j) → u k y → u' k y ∧ C' k y = C k y ∧ ma' k y = ma k y) : vP ty t0 g n1 n2 nL n4 n5 th rep bro i q x j u' C' ma' := by
  obtain ⟨hR, a15, a16, a17, a18, a19, a21, a23⟩ := h
  have I := hR.I
  refine ⟨hR.ext fun k y hm hu => e k y (fun z => by unfold mU at hm; omega) hu, ⟨(e 15 q (by omega) a15.1).1, ?_⟩, ⟨(e 16 q (by omega) a16.1).1, (e 16 q (by omega) a16.1).2.1.trans a16.2⟩, ⟨(e 17 q (by omega) a17.1).1, (e 17 q (by omega) a17.1).2.1.trans a17.2⟩, ⟨(e 18 q (by omega) a18.1).1, (e 18 q (by omega) a18.1).2.1.trans a18.2⟩, a19.ext (fun z => ⟨(e 19 q (by omega) z).1, (e 19 q (by omega) z).2.1⟩) (fun z => e 20 q (by omega) z) (fun f hf => (e 21 _ (by omega) (a21 f hf).hd.1).2.2), fun f hf => (a21 f hf).ext (fun z => ⟨(e 21 _ (by omega) z).1, (e 21 _ (by omega) z).2.1⟩) (fun z => e 22 _ (by omega) z) (fun k hk => ?_), fun k h1 h2 => ⟨(e 23 k (by omega) (a23 k h1 h2).1).1, (e 23 k (by omega) (a23 k h1 h2).1).2.1.trans (a23 k h1 h2).2⟩⟩
  · rw [(e 15 q (by omega) a15.1).2.1, a15.2, (e 16 q (by omega) a16.1).2.2, (e 17 q (by omega) a17.1).2.2, (e 18 q (by omega) a18.1).2.2, (e 19 q (by omega) a19.hd.1).2.2]
  · have hm := vlk_mem I hi h6 hX hj hq hf hk
    exact (e 23 _ (by omega) (a23 _ hm.1 hm.2).1).2.2
/-- behind the constructor -/
theorem vP_0 (hR : mR ty t0 g n1 n2 nL n4 n5 th rep bro u C ma) (hi : i < n1) (h6 : nV g i < 6) (hq : q = i * 6 + nV g i) (a15 : u 15 q ∧ C 15 q = eO 12 [.int x, .ref (ma 16 q), .ref (ma 17 q), .ref (ma 18 q), .ref (ma 19 q)]) (a16 : u 16 q ∧ C 16 q = eI (ty 0) 6 (fun _ => 0)) (a17 : u 17 q ∧ C 17 q = eI (ty 0) 6 (fun _ => 0)) (a18 : u 18 q ∧ C 18 q = eI (ty 1) 6 (fun _ => 0)) (a19 : isL ty t0 u C ma 19 q 6 (fun f => ma 21 (q * 6 + f))) (a21 : ∀ f, f < 6 → u 21 (q * 6 + f) ∧ C 21 (q * 6 + f) = eO 0 [.int (nI 0), .ref t0, .int 0]) : vP ty t0 g n1 n2 nL n4 n5 th rep bro i q x 0 u C ma := by
  have hb := hR.I.b1
  have eL := vL_0 (i := i) (x := x) hR.I
  refine ⟨hR, a15, a16, a17, a18, a19, fun f hf => ?_, fun k h1 h2 => by omega⟩
  have e0 : lkl (vG g i x 0) (vL g i x 0) (q * 6 + f) = [] := by
    rw [eL, lkl_c (g := g) (fun k _ => by rw [show vG g i x 0 15 = g 15 from (vr1_o (g := g) (i := i) (x := x) (k := 15) (by decide))])]
    exact lkl_new hR.I (by omega) (by omega) h6
  rw [e0]
  exact ⟨(a21 f hf).1, by decide, nI 0, Or.inl ⟨rfl, (a21 f hf).2⟩⟩
theorem vP.no (h : vP ty t0 g n1 n2 nL n4 n5 th rep bro i q x j u C ma) (hj : j < n2) (hc : cn (g 12 j) / 6 ≠ i ∨ nV g (cn (g 13 j) / 6) = 0) : vP ty t0 g n1 n2 nL n4 n5 th rep bro i q x (j + 1) u C ma := by
  have e := vG_n (x := x) h.1.I hj hc
  have eL : vL g i x (j + 1) = vL g i x j := by unfold vL; rw [e]
  unfold vP
  rw [e, eL]
  exact h
/-- a link more -/
theorem vP.yes (h : vP ty t0 g n1 n2 nL n4 n5 th rep bro i q x j u C ma) (hi : i < n1) (h6 : nV g i < 6) (hX : nL + cS g i n2 ≤ 120) (hj : j < n2) (hq : q = i * 6 + nV g i) (c1 : cn (g 12 j) / 6 = i) (c2 : 0 < nV g (cn (g 13 j) / 6))
    (hc : chg 21 (q * 6 + cn (g 12 j) % 6) u C ma S) (hL : isL ty t0 S.1 S.2.1 S.2.2 21 (q * 6 + cn (g 12 j) % 6) ((lkl (vG g i x j) (vL g i x j) (q * 6 + cn (g 12 j) % 6)).length + 1) (fun k => if k = (lkl (vG g i x j) (vL g i x j) (q * 6 + cn (g 12 j) % 6)).length then ma 23 (vL g i x j) else ma 23 (lkj (vG g i x j) (vL g i x j) (q * 6 + cn (g 12 j) % 6) k)))
    (hn : u 23 (vL g i x j) ∧ C 23 (vL g i x j) = eO 9 [.int (nI (cn (g 13 j) / 6)), .int (nI (nV g (cn (g 13 j) / 6) - 1)), .int (nI (cn (g 13 j) % 6)), .int (g 14 j)]) : vP ty t0 g n1 n2 nL n4 n5 th rep bro i q x (j + 1) S.1 S.2.1 S.2.2 := by
  obtain ⟨hR, a15, a16, a17, a18, a19, a21, a23⟩ := h
  have I := hR.I
  have hb := I.b1
  obtain ⟨⟨s12, b12⟩, ⟨s13, b13⟩, q1, q2⟩ := I.src hj
  have v7 := (I.v7 (show cn (g 13 j) / 6 < n1 by omega)).2
  obtain ⟨⟨d1, d1a, d1b⟩, -, -, -, -⟩ := vN_at (x := x) I hi h6 hX j (by omega)
  have hcs : cS g i (j + 1) = cS g i j + 1 := by
    show cS g i j + (if cn (g 12 j) / 6 = i then 1 else 0) = _
    rw [if_pos c1]
  have hm := cS_mono g i (show j + 1 ≤ n2 by omega)
  have hlt : cn (vG g i x j 2 1) < 120 := by
    have : vL g i x j < 120 := by omega
    exact this
  have e := vG_y (x := x) I hj c1 c2
  have eL : vL g i x (j + 1) = vL g i x j + 1 := by
    show cn (vG g i x (j + 1) 2 1) = cn (vG g i x j 2 1) + 1
    rw [e, ad_2 hlt, cn_nI (by omega)]
  have e15 : vG g i x (j + 1) 15 = upd (vG g i x j 15) (vL g i x j) (nI (plc i (nV g i) (cn (g 12 j) % 6))) := by rw [e]; exact ad_15 hlt
  have e16 : vG g i x (j + 1) 16 = upd (vG g i x j 16) (vL g i x j) (nI (plc (cn (g 13 j) / 6) (nV g (cn (g 13 j) / 6) - 1) (cn (g 13 j) % 6))) := by rw [e]; exact ad_16 hlt
  have e17 : vG g i x (j + 1) 17 = upd (vG g i x j 17) (vL g i x j) (g 14 j) := by rw [e]; exact ad_17 hlt
  have eo : ∀ p, lkl (vG g i x (j + 1)) (vL g i x j) p = lkl (vG g i x j) (vL g i x j) p := fun p => lkl_c fun k hk => by rw [e15, un (by omega)]
  have en : vG g i x (j + 1) 15 (vL g i x j) = nI (plc i (nV g i) (cn (g 12 j) % 6)) := by rw [e15, us]
  have ep : plc i (nV g i) (cn (g 12 j) % 6) = q * 6 + cn (g 12 j) % 6 := by unfold plc; rw [hq]
  have m23 : ∀ y, S.2.2 23 y = ma 23 y := fun y => hc.2.2 23 y (by omega)
  refine ⟨hR.ext fun k y hm hu => ⟨hc.1 k y hu, hc.2.1 k y (fun z => by have := mU_q hq h6 hm; omega) (fun z => by have := mU_q hq h6 hm; omega), hc.2.2 k y (fun z => by have := mU_q hq h6 hm; omega)⟩, ⟨hc.1 _ _ a15.1, ?_⟩, ⟨hc.1 _ _ a16.1, (hc.2.1 _ _ (by omega) (by omega)).trans a16.2⟩, ⟨hc.1 _ _ a17.1, (hc.2.1 _ _ (by omega) (by omega)).trans a17.2⟩, ⟨hc.1 _ _ a18.1, (hc.2.1 _ _ (by omega) (by omega)).trans a18.2⟩, a19.ext (fun z => ⟨hc.1 _ _ z, hc.2.1 _ _ (by omega) (by omega)⟩) (fun z => ⟨hc.1 _ _ z, hc.2.1 _ _ (by omega) (by omega), hc.2.2 _ _ (by omega)⟩) (fun f hf => hc.2.2 _ _ (by omega)), fun f hf => ?_, fun k h1 h2 => ?_⟩
  · rw [hc.2.1 15 q (by omega) (by omega), a15.2, hc.2.2 16 q (by omega), hc.2.2 17 q (by omega), hc.2.2 18 q (by omega), hc.2.2 19 q (by omega)]
  · by_cases ef : f = cn (g 12 j) % 6
    · have el : lkl (vG g i x (j + 1)) (vL g i x (j + 1)) (q * 6 + f) = lkl (vG g i x j) (vL g i x j) (q * 6 + f) ++ [vL g i x j] := by
        rw [eL, lkl_s, eo, en, if_pos (by rw [ep, ef])]
      rw [el, List.length_append]
      rw [ef]
      refine hL.ext (fun z => ⟨z, rfl⟩) (fun z => ⟨z, rfl, rfl⟩) (fun k hk => ?_)
      show S.2.2 23 (lkj _ _ _ k) = _
      unfold lkj
      rw [← ef, el, ef]
      by_cases ek : k = (lkl (vG g i x j) (vL g i x j) (q * 6 + cn (g 12 j) % 6)).length
      · rw [if_pos ek, List.getD_eq_getElem?_getD, ek, List.getElem?_append_right (Nat.le_refl _), Nat.sub_self]
        exact m23 _
      · rw [if_neg ek, List.getD_eq_getElem?_getD, List.getD_eq_getElem?_getD, List.getElem?_append_left (by omega)]
        exact m23 _
    · have el : lkl (vG g i x (j + 1)) (vL g i x (j + 1)) (q * 6 + f) = lkl (vG g i x j) (vL g i x j) (q * 6 + f) := by
        rw [eL, lkl_s, eo, en, if_neg, List.append_nil]
        intro z
        have := (nI_eq (show plc i (nV g i) (cn (g 12 j) % 6) < 2 ^ 31 by unfold plc; omega) (show q * 6 + f < 2 ^ 31 by omega)).mp z
        omega
      have ej : ∀ k, lkj (vG g i x (j + 1)) (vL g i x (j + 1)) (q * 6 + f) k = lkj (vG g i x j) (vL g i x j) (q * 6 + f) k := fun k => by unfold lkj; rw [el]
      rw [el]
      exact (a21 f hf).ext (fun z => ⟨hc.1 _ _ z, hc.2.1 _ _ (by omega) (by omega)⟩) (fun z => ⟨hc.1 _ _ z, hc.2.1 _ _ (by omega) (by omega), hc.2.2 _ _ (by omega)⟩) (fun k hk => by show S.2.2 23 (lkj _ _ _ k) = _; rw [ej]; exact m23 _)
  · rw [eL] at h2
    have kc : ∀ y, kC (vG g i x (j + 1)) y = eO 9 [.int (nI (cn (vG g i x (j + 1) 16 y) / 36)), .int (nI (cn (vG g i x (j + 1) 16 y) / 6 % 6)), .int (nI (cn (vG g i x (j + 1) 16 y) % 6)), .int (vG g i x (j + 1) 17 y)] := fun y => rfl
    by_cases ek : k = vL g i x j
    · refine ⟨hc.1 _ _ (by rw [ek]; exact hn.1), (hc.2.1 23 k (by omega) (by omega)).trans ?_⟩
      rw [kc, ek, hn.2, e16, e17, us, us, cn_nI (by unfold plc; omega)]
      rw [show plc (cn (g 13 j) / 6) (nV g (cn (g 13 j) / 6) - 1) (cn (g 13 j) % 6) / 36 = cn (g 13 j) / 6 by unfold plc; omega, show plc (cn (g 13 j) / 6) (nV g (cn (g 13 j) / 6) - 1) (cn (g 13 j) % 6) / 6 % 6 = nV g (cn (g 13 j) / 6) - 1 by unfold plc; omega, show plc (cn (g 13 j) / 6) (nV g (cn (g 13 j) / 6) - 1) (cn (g 13 j) % 6) % 6 = cn (g 13 j) % 6 by unfold plc; omega]
    · have o := a23 k h1 (by omega)
      refine ⟨hc.1 _ _ o.1, (hc.2.1 23 k (by omega) (by omega)).trans (o.2.trans ?_)⟩
      rw [kc, e16, e17, un ek, un ek]; rfl
/-- the relation of the set's list behind one more -/
theorem mR_mix12 (h : mR ty t0 g n1 n2 nL n4 n5 th rep bro u C ma) (hc : chg 12 i u C ma S) : mR ty t0 g n1 n2 nL n4 n5 th rep bro S.1 (mixC 12 C S.2.1) (mixC 12 ma S.2.2) := by
  refine h.ext fun k y hm hu => ⟨hc.1 k y hu, ?_, ?_⟩
  · unfold mixC
    split
    · rfl
    · exact hc.2.1 k y (fun z => by omega) (fun z => by omega)
  · unfold mixC
    split
    · rfl
    · exact hc.2.2 k y (fun z => by omega)
/-- the version is there -/
theorem mR_ver (h : vP ty t0 g n1 n2 nL n4 n5 th rep bro i q x n2 u C ma) (hi : i < n1) (h6 : nV g i < 6) (hX : nL + cS g i n2 ≤ 120) (hq : q = i * 6 + nV g i) (hc : chg 12 i u C ma S) (hL : isL ty t0 S.1 S.2.1 S.2.2 12 i (nV g i + 1) (fun v => if v = nV g i then ma 15 q else ma 15 (i * 6 + v))) : mR ty t0 (verG g n2 i x) n1 n2 (vL g i x n2) n4 n5 th (fun q' => if q' = q then fun _ => 0 else rep q') (fun q' => if q' = q then fun _ => 0 else bro q') S.1 S.2.1 S.2.2 := by
  obtain ⟨rep', hrep⟩ : ∃ z : Nat → Nat → Int32, z = fun q' => if q' = q then fun _ => 0 else rep q' := ⟨_, rfl⟩
  obtain ⟨bro', hbro⟩ : ∃ z : Nat → Nat → Int32, z = fun q' => if q' = q then fun _ => 0 else bro q' := ⟨_, rfl⟩
  rw [← hrep, ← hbro]
  have r1 : rep' q = fun _ => 0 := by rw [hrep]; exact if_pos rfl
  have r2 : bro' q = fun _ => 0 := by rw [hbro]; exact if_pos rfl
  have r3 : ∀ q', q' ≠ q → rep' q' = rep q' := fun q' hn => by rw [hrep]; exact if_neg hn
  have r4 : ∀ q', q' ≠ q → bro' q' = bro q' := fun q' hn => by rw [hbro]; exact if_neg hn
  clear hrep hbro
  obtain ⟨hR, a15, a16, a17, a18, a19, a21, a23⟩ := h
  have I := hR.I
  have hb := I.b1
  have h' := mR_mix12 hR hc
  have hI := gI_ver (x := x) I hi h6 hX
  obtain ⟨⟨d1, d1a, d1b⟩, d2, d3, d4, d5⟩ := vN_at (x := x) I hi h6 hX n2 (Nat.le_refl _)
  have eV := fun k => verV (g := g) (n2 := n2) (i := i) (x := x) h6 k
  have eo : ∀ k, (k ≠ 15 ∧ k ≠ 16 ∧ k ≠ 17 ∧ k ≠ 2 ∧ k ≠ 8 ∧ k ≠ 9 ∧ k ≠ 21) → verG g n2 i x k = g k := fun k h => verG_o h
  have ek : ∀ p, lkl (verG g n2 i x) (vL g i x n2) p = lkl (vG g i x n2) (vL g i x n2) p := fun p => lkl_c fun k _ => by rw [verG_k (by decide)]
  have ej : ∀ p k, lkj (verG g n2 i x) (vL g i x n2) p k = lkj (vG g i x n2) (vL g i x n2) p k := fun p k => by unfold lkj; rw [ek]
  have m9 : ∀ k y, k ≠ 13 → S.2.2 k y = ma k y := fun k y hk => hc.2.2 k y (by omega)
  have cC : ∀ k y, k ≠ 12 → k ≠ 13 → S.2.1 k y = C k y := fun k y h1 h2 => hc.2.1 k y (by omega) (by omega)
  have eX : ∀ k y, k ≠ 12 → k ≠ 13 → u k y → S.1 k y ∧ S.2.1 k y = C k y ∧ S.2.2 k y = ma k y := fun k y h1 h2 hu => ⟨hc.1 k y hu, cC k y h1 h2, m9 k y h2⟩
  have kcE : ∀ k, k < nL → kC (verG g n2 i x) k = kC g k := fun k hk => by
    show eO 9 [.int (nI (cn (verG g n2 i x 16 k) / 36)), .int (nI (cn (verG g n2 i x 16 k) / 6 % 6)), .int (nI (cn (verG g n2 i x 16 k) % 6)), .int (verG g n2 i x 17 k)] = _
    rw [verG_k (by decide), verG_k (by decide), (d2 k hk).2.1, (d2 k hk).2.2]; rfl
  obtain ⟨-, o, l1, l3, l5, l7, s, vv, qq, kk, c, r⟩ := h'
  have LL : ∀ {kl n : Nat} {f : Nat → Nat}, (kl = 1 ∨ kl = 3 ∨ kl = 5 ∨ kl = 7) → isL ty t0 S.1 (mixC 12 C S.2.1) (mixC 12 ma S.2.2) kl 0 n f → isL ty t0 S.1 S.2.1 S.2.2 kl 0 n f := fun hk h => h.ext (fun z => ⟨z, by unfold mixC; rw [if_neg (by omega)]⟩) (fun z => ⟨z, by unfold mixC; rw [if_neg (by omega)], by unfold mixC; rw [if_neg (by omega)]⟩) (fun _ _ => rfl)
  refine ⟨hI, ⟨o.1, ?_⟩, LL (by omega) l1, LL (by omega) l3, LL (by omega) l5, LL (by omega) l7, fun i' hi' => ?_, fun i' v hi' hv => ?_, fun j hj => ?_, fun j hj => ?_, fun j hj => ?_, fun j hj => ?_⟩
  · rw [eo 0 (by decide)]; exact o.2
  · obtain ⟨k1, k2, k3, k4, k5⟩ := s i' hi'
    refine ⟨⟨k1.1, k1.2.trans ?_⟩, ⟨k2.1, k2.2.trans ?_⟩, ⟨k3.1, k3.2.trans ?_⟩, ?_, k5.1, k5.2.trans ?_⟩
    · show eO 8 [.int (g 7 i'), .ref (S.2.2 10 i'), .ref (S.2.2 11 i'), .ref (ma 12 i'), .ref (S.2.2 14 i')] = eO 8 [.int (verG g n2 i x 7 i'), .ref (S.2.2 10 i'), .ref (S.2.2 11 i'), .ref (S.2.2 12 i'), .ref (S.2.2 14 i')]
      rw [eo 7 (by decide), m9 12 i' (by decide)]
    · rw [eo 10 (by decide)]
    · rw [eo 11 (by decide)]
    · rw [eV]
      by_cases e : i' = i
      · rw [if_pos e, e]
        refine hL.ext (fun z => ⟨z, rfl⟩) (fun z => ⟨z, rfl, rfl⟩) (fun v hv => ?_)
        show S.2.2 15 (i * 6 + v) = _
        rw [m9 15 _ (by decide)]
        by_cases ev : v = nV g i
        · rw [if_pos ev, hq, ev]
        · rw [if_neg ev]
      · rw [if_neg e]
        exact (hR.s12 hi').ext (fun z => ⟨hc.1 _ _ z, hc.2.1 _ _ (by omega) (by omega)⟩) (fun z => ⟨hc.1 _ _ z, hc.2.1 _ _ (by omega) (by omega), hc.2.2 _ _ (by omega)⟩) (fun v hv => m9 15 _ (by decide))
    · rw [eo 6 (by decide)]
  · rw [eV] at hv
    by_cases e : i' = i ∧ v = nV g i
    · obtain ⟨rfl, rfl⟩ := e
      show mVer ty t0 (verG g n2 i' x) (vL g i' x n2) _ _ S.1 S.2.1 S.2.2 (i' * 6 + nV g i')
      rw [← hq]
      unfold mVer
      rw [r1, r2]
      have z9 : ∀ f, f < 6 → g 19 (q * 6 + f) = 0 ∧ g 20 (q * 6 + f) = 0 := fun f hf => I.zero (by omega) (fun z => by have := z.2; rw [show (q * 6 + f) / 6 % 6 = nV g i' by omega, show (q * 6 + f) / 36 = i' by omega] at this; omega)
      refine ⟨⟨hc.1 _ _ a15.1, ?_⟩, ⟨hc.1 _ _ a16.1, (cC 16 q (by decide) (by decide)).trans a16.2⟩, ⟨hc.1 _ _ a17.1, (cC 17 q (by decide) (by decide)).trans a17.2⟩, ⟨hc.1 _ _ a18.1, (cC 18 q (by decide) (by decide)).trans (a18.2.trans ?_)⟩, a19.ext (fun z => ⟨hc.1 _ _ z, cC _ _ (by decide) (by decide)⟩) (fun z => eX _ _ (by decide) (by decide) z) (fun f hf => m9 21 _ (by decide)), fun f hf => ?_, fun f hf => ?_⟩
      · rw [cC 15 q (by decide) (by decide), a15.2]
        show _ = eO 12 [.int (verG g n2 i' x 9 q), .ref (S.2.2 16 q), .ref (S.2.2 17 q), .ref (S.2.2 18 q), .ref (S.2.2 19 q)]
        rw [verG_9, ← hq, us, m9 16 q (by decide), m9 17 q (by decide), m9 18 q (by decide), m9 19 q (by decide)]
      · refine congrArg (eI (ty 1) 6) ?_
        funext f
        unfold row6
        split
        · rename_i hf; rw [eo 20 (by decide), (z9 f hf).2]
        · rfl
      · rw [ek]
        exact (a21 f hf).ext (fun z => ⟨hc.1 _ _ z, cC _ _ (by decide) (by decide)⟩) (fun z => eX _ _ (by decide) (by decide) z) (fun k hk => by show S.2.2 23 (lkj _ _ _ k) = _; rw [ej]; exact m9 23 _ (by decide))
      · rw [eo 19 (by decide), (z9 f hf).1]
        exact ⟨(show zmax (0 : Int32) 0 = 0 by decide), fun _ => rfl⟩
    · have hv' : v < nV g i' := by
        by_cases e2 : i' = i
        · rw [if_pos e2] at hv
          have : v ≠ nV g i := fun z => e ⟨e2, z⟩
          rw [e2]; omega
        · rw [if_neg e2] at hv; exact hv
      have hv7 := (I.v7 hi').2
      have hne : i' * 6 + v ≠ q := by
        intro z
        have e2 : i' = i := by omega
        exact e ⟨e2, by rw [e2] at z; omega⟩
      obtain ⟨k1, k2, k3, k4, k5, k6, k7⟩ := hR.vers hi' hv'
      have e4 : ∀ f, f < 6 → lkl (verG g n2 i x) (vL g i x n2) ((i' * 6 + v) * 6 + f) = lkl g nL ((i' * 6 + v) * 6 + f) := fun f hf => (ek _).trans (d4 _ (by omega) (by omega))
      unfold mVer
      rw [r3 _ hne, r4 _ hne]
      refine ⟨⟨hc.1 _ _ k1.1, ?_⟩, ⟨hc.1 _ _ k2.1, (cC 16 _ (by decide) (by decide)).trans k2.2⟩, ⟨hc.1 _ _ k3.1, (cC 17 _ (by decide) (by decide)).trans k3.2⟩, ⟨hc.1 _ _ k4.1, (cC 18 _ (by decide) (by decide)).trans (k4.2.trans ?_)⟩, k5.ext (fun z => ⟨hc.1 _ _ z, cC _ _ (by decide) (by decide)⟩) (fun z => eX _ _ (by decide) (by decide) z) (fun f hf => m9 21 _ (by decide)), fun f hf => ?_, fun f hf => ?_⟩
      · rw [cC 15 _ (by decide) (by decide), k1.2]
        show eO 12 [.int (g 9 _), .ref (ma 16 _), .ref (ma 17 _), .ref (ma 18 _), .ref (ma 19 _)] = eO 12 [.int (verG g n2 i x 9 _), .ref (S.2.2 16 _), .ref (S.2.2 17 _), .ref (S.2.2 18 _), .ref (S.2.2 19 _)]
        rw [verG_9, ← hq, un hne, m9 16 _ (by decide), m9 17 _ (by decide), m9 18 _ (by decide), m9 19 _ (by decide)]
      · rw [eo 20 (by decide)]
      · rw [e4 f hf]
        exact (k6 f hf).ext (fun z => ⟨hc.1 _ _ z, cC _ _ (by decide) (by decide)⟩) (fun z => eX _ _ (by decide) (by decide) z) (fun k hk => by show S.2.2 23 (lkj _ _ _ k) = _; unfold lkj; rw [e4 f hf]; exact m9 23 _ (by decide))
      · rw [eo 19 (by decide), eo 20 (by decide)]; exact k7 f hf
  · refine ⟨(qq j hj).1, (qq j hj).2.trans ?_⟩
    show eO 11 [.int (nI (cn (g 12 j) / 6)), .int (nI (cn (g 12 j) % 6)), .int (nI (cn (g 13 j) / 6)), .int (nI (cn (g 13 j) % 6)), .int (g 14 j)] = eO 11 [.int (nI (cn (verG g n2 i x 12 j) / 6)), .int (nI (cn (verG g n2 i x 12 j) % 6)), .int (nI (cn (verG g n2 i x 13 j) / 6)), .int (nI (cn (verG g n2 i x 13 j) % 6)), .int (verG g n2 i x 14 j)]
    rw [eo 12 (by decide), eo 13 (by decide), eo 14 (by decide)]
  · by_cases e : j < nL
    · refine ⟨(kk j e).1, (kk j e).2.trans ?_⟩
      rw [kcE j e]
    · have a := a23 j (by omega) hj
      refine ⟨hc.1 _ _ a.1, (cC 23 j (by decide) (by decide)).trans (a.2.trans ?_)⟩
      show eO 9 [.int (nI (cn (vG g i x n2 16 j) / 36)), .int (nI (cn (vG g i x n2 16 j) / 6 % 6)), .int (nI (cn (vG g i x n2 16 j) % 6)), .int (vG g i x n2 17 j)] = eO 9 [.int (nI (cn (verG g n2 i x 16 j) / 36)), .int (nI (cn (verG g n2 i x 16 j) / 6 % 6)), .int (nI (cn (verG g n2 i x 16 j) % 6)), .int (verG g n2 i x 17 j)]
      rw [verG_k (by decide), verG_k (by decide)]
  · refine ⟨(c j hj).1, (c j hj).2.trans ?_⟩
    show eO 7 [.int (g 23 j), .int (g 24 j), .int (g 25 j), .int (g 26 j), .int (g 27 j), .int (g 28 j)] = eO 7 [.int (verG g n2 i x 23 j), .int (verG g n2 i x 24 j), .int (verG g n2 i x 25 j), .int (verG g n2 i x 26 j), .int (verG g n2 i x 27 j), .int (verG g n2 i x 28 j)]
    rw [eo 23 (by decide), eo 24 (by decide), eo 25 (by decide), eo 26 (by decide), eo 27 (by decide), eo 28 (by decide)]
  · obtain ⟨k1, k2⟩ := r j hj
    refine ⟨⟨k1.1, k1.2.trans ?_⟩, k2.1, k2.2.trans ?_⟩
    · show eO 10 [.int (g 29 j), .int (g 30 j), .int (g 31 j), .int (g 32 j), .int (g 33 j), .int (g 35 j), .int (g 34 j), .int (g 36 j), .ref (S.2.2 27 j), .int (g 37 j)] = eO 10 [.int (verG g n2 i x 29 j), .int (verG g n2 i x 30 j), .int (verG g n2 i x 31 j), .int (verG g n2 i x 32 j), .int (verG g n2 i x 33 j), .int (verG g n2 i x 35 j), .int (verG g n2 i x 34 j), .int (verG g n2 i x 36 j), .ref (S.2.2 27 j), .int (verG g n2 i x 37 j)]
      rw [eo 29 (by decide), eo 30 (by decide), eo 31 (by decide), eo 32 (by decide), eo 33 (by decide), eo 35 (by decide), eo 34 (by decide), eo 36 (by decide), eo 37 (by decide)]
    · rw [eo 38 (by decide)]
end VP
