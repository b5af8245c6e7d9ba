/-- a new set of k fields in the model's numbers: all six prices and rules are written -/
def setM (g : Nat → Nat → Int32) (n1 k : Nat) : Nat → Nat → Int32 := va_up (va_up (va_up (va_up g 7 (upd (g 7) n1 (nI k))) 10 (rng (g 10) (n1 * 6) 6 (nI 10))) 11 (rng (g 11) (n1 * 6) 6 (nI 1000))) 1 (upd (g 1) 0 (nI (n1 + 1)))
theorem setM_7 (g : Nat → Nat → Int32) (n1 k : Nat) : setM g n1 k 7 = upd (g 7) n1 (nI k) := by simp [setM, va_up]
theorem setM_10 (g : Nat → Nat → Int32) (n1 k : Nat) : setM g n1 k 10 = rng (g 10) (n1 * 6) 6 (nI 10) := by simp [setM, va_up]
theorem setM_11 (g : Nat → Nat → Int32) (n1 k : Nat) : setM g n1 k 11 = rng (g 11) (n1 * 6) 6 (nI 1000) := by simp [setM, va_up]
section SETM
variable {ty : Nat → ClassId} {t0 : Nat} {g : Nat → Nat → Int32} {n1 n2 nL n4 n5 : Nat} {th : Int32} {rep bro : Nat → Nat → Int32} {u : Nat → Nat → Prop} {C : Nat → Nat → va_E} {ma : Nat → Nat → Nat} {S : mSt}
theorem gI_set (h : gI g n1 n2 nL n4 n5) (hn : n1 < 8) {k : Nat} (hk1 : 1 ≤ k) (hk6 : k ≤ 6) : gI (setM g n1 k) (n1 + 1) n2 nL n4 n5 := by
  have ec : ∀ f n, carN (setM g n1 k) f n = carN g f n := fun f n => carN_c (g := g) (g' := setM g n1 k) rfl rfl rfl f n
  obtain ⟨⟨b1, b2, b3, b4, b5, b6, b7, b8, b9, b10⟩, a2, a3, a4, a5, a6, a7, a8, a9, a10⟩ := h
  refine ⟨⟨⟨rfl, hn⟩, fun i hi => ?_, b3, fun j hj => ⟨(b4 j hj).1, (b4 j hj).2.1, Nat.lt_succ_of_lt (b4 j hj).2.2.1, (b4 j hj).2.2.2⟩, b5, b6, b7, b8, b9, b10⟩, fun j hj => ⟨(a2 j hj).1, Nat.lt_succ_of_lt (a2 j hj).2.1, (a2 j hj).2.2⟩, a3, fun p hp => by rw [ec]; exact a4 p hp, fun p hp hq => a5 p hp (fun z => hq ⟨Nat.lt_succ_of_lt z.1, z.2⟩), a6, fun r i hr h1 h2 => a7 r i hr (Nat.le_of_succ_le h1) h2, fun i h1 h2 => a8 i (Nat.le_of_succ_le h1) h2, a9, a10⟩
  unfold nF
  rw [setM_7]
  refine ⟨?_, ?_, ?_⟩
  · by_cases e : i = n1
    · rw [e, us]; exact nb_nI (by omega) (by decide)
    · rw [un e]; exact (b2 i (by omega)).1
  · show nb (g 8 i) 7
    by_cases e : i = n1
    · rw [e, a8 n1 (Nat.le_refl _) hn]; exact nb_nI (k := 0) (by decide) (by decide)
    · exact (b2 i (by omega)).2.1
  · by_cases e : i = n1
    · rw [e, us, cn_nI (by omega)]; exact hk1
    · rw [un e]; exact (b2 i (by omega)).2.2
theorem mR_set (h : mR ty t0 g n1 n2 nL n4 n5 th rep bro u C ma) (hn : n1 < 8) {k : Nat} (hk1 : 1 ≤ k) (hk6 : k ≤ 6) (hc : chg 1 0 u C ma S) (hL : isL ty t0 S.1 S.2.1 S.2.2 1 0 (n1 + 1) (fun j => if j = n1 then ma 9 n1 else ma 9 j)) (h9 : u 9 n1 ∧ C 9 n1 = eO 8 [.int (nI k), .ref (ma 10 n1), .ref (ma 11 n1), .ref (ma 12 n1), .ref (ma 14 n1)]) (h10 : u 10 n1 ∧ C 10 n1 = eI (ty 0) 6 (row6 (fun _ => nI 10) 0)) (h11 : u 11 n1 ∧ C 11 n1 = eI (ty 0) 6 (row6 (fun _ => nI 1000) 0)) (h12 : u 12 n1 ∧ C 12 n1 = eO 0 [.int (nI 0), .ref t0, .int 0]) (h14 : u 14 n1 ∧ C 14 n1 = eI (ty 0) 6 (fun _ => 0)) : mR ty t0 (setM g n1 k) (n1 + 1) n2 nL n4 n5 th rep bro S.1 S.2.1 S.2.2 := by
  have h' := mR_mix h (by decide) hc
  have hver := h.I.ver (Nat.le_refl n1) hn
  have hprv : ∀ r, r < 6 → g 6 (r * 8 + n1) = 0 := fun r hr => h.I.prv hr (Nat.le_refl n1) hn
  have hV0 : nV g n1 = 0 := by unfold nV; rw [hver]; rfl
  have hI := gI_set h.I hn hk1 hk6
  obtain ⟨-, o, -, l3, l5, l7, s, vv, q, kk, c, r⟩ := h'
  have m9 : ∀ k j, k ≠ 2 → S.2.2 k j = ma k j := fun k j hk => hc.2.2 k j (by omega)
  have cC : ∀ k j, k ≠ 1 → k ≠ 2 → S.2.1 k j = C k j := fun k j h1 h2 => hc.2.1 k j (by omega) (by omega)
  refine ⟨hI, ⟨o.1, ?_⟩, hL.ext (fun q => ⟨q, rfl⟩) (fun q => ⟨q, rfl, rfl⟩) (fun j hj => ?_), l3, l5, l7, fun i hi => ?_, fun i v hi hv => ?_, q, kk, c, r⟩
  · refine (show S.2.1 0 0 = oC (mixC 1 ma S.2.2) th (g 0 0) from o.2).trans ?_
    show eO 13 [_, .ref (ma 1 0), _, _, _, _] = eO 13 [_, .ref (S.2.2 1 0), _, _, _, _]
    rw [m9 1 0 (by decide)]; rfl
  · by_cases e : j = n1
    · rw [if_pos e, ← e]; exact m9 9 j (by decide)
    · rw [if_neg e]; exact m9 9 j (by decide)
  · by_cases e : i = n1
    · obtain rfl : n1 = i := e.symm
      refine ⟨⟨hc.1 _ _ h9.1, (cC 9 n1 (by decide) (by decide)).trans (h9.2.trans ?_)⟩, ⟨hc.1 _ _ h10.1, (cC 10 n1 (by decide) (by decide)).trans (h10.2.trans ?_)⟩, ⟨hc.1 _ _ h11.1, (cC 11 n1 (by decide) (by decide)).trans (h11.2.trans ?_)⟩, ?_, hc.1 _ _ h14.1, (cC 14 n1 (by decide) (by decide)).trans (h14.2.trans ?_)⟩
      · unfold sC
        rw [setM_7, us, m9 10 _ (by decide), m9 11 _ (by decide), m9 12 _ (by decide), m9 14 _ (by decide)]
      · rw [setM_10]
        refine congrArg (eI (ty 0) 6) ?_
        funext f
        unfold row6 rng
        by_cases h6 : f < 6
        · rw [if_pos h6, if_pos h6, if_pos ⟨by omega, by omega⟩]
        · rw [if_neg h6, if_neg h6]
      · rw [setM_11]
        refine congrArg (eI (ty 0) 6) ?_
        funext f
        unfold row6 rng
        by_cases h6 : f < 6
        · rw [if_pos h6, if_pos h6, if_pos ⟨by omega, by omega⟩]
        · rw [if_neg h6, if_neg h6]
      · show isL ty t0 S.1 S.2.1 S.2.2 12 n1 (nV g n1) _
        rw [hV0]
        exact ⟨hc.1 _ _ h12.1, by decide, nI 0, Or.inl ⟨rfl, (cC 12 n1 (by decide) (by decide)).trans h12.2⟩⟩
      · show _ = eI (ty 0) 6 (prvR (g 6) n1)
        refine congrArg (eI (ty 0) 6) ?_
        funext f
        unfold prvR
        by_cases h6 : f < 6
        · rw [if_pos h6]; exact (hprv f h6).symm
        · rw [if_neg h6]
    · obtain ⟨k1, k2, k3, k4, k5⟩ := s i (by omega)
      refine ⟨⟨k1.1, k1.2.trans ?_⟩, ⟨k2.1, k2.2.trans ?_⟩, ⟨k3.1, k3.2.trans ?_⟩, k4, k5⟩
      · unfold sC
        rw [setM_7, un e]; rfl
      · rw [setM_10]
        refine congrArg (eI (ty 0) 6) (row6_e fun f hf => ?_)
        unfold rng
        rw [if_neg (fun z => by omega)]
      · rw [setM_11]
        refine congrArg (eI (ty 0) 6) (row6_e fun f hf => ?_)
        unfold rng
        rw [if_neg (fun z => by omega)]
  · by_cases e : i = n1
    · have hv2 : v < nV g i := hv
      rw [e, hV0] at hv2; omega
    · exact vv i v (by omega) hv
end SETM
