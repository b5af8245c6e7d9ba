theorem nb_r {x : Int32} {b : Nat} (hb : b < 2 ^ 31) (h1 : ¬ x < nI 1) (h2 : ¬ nI b < x) : ∃ k, k ≤ b ∧ x = nI k := by
  have a := Int32.not_lt.mp h1
  have c := Int32.not_lt.mp h2
  rw [Int32.le_iff_toInt_le] at a c
  rw [nI_toInt (by decide)] at a
  rw [nI_toInt hb] at c
  refine ⟨x.toInt.toNat, by omega, ?_⟩
  apply Int32.toInt_inj.mp
  rw [nI_toInt (by omega)]
  omega
/-- a field that the set doesn't have is not asked for -/
theorem hasB_hi {g : Nat → Nat → Int32} {i f : Nat} {F : Int32} (h7 : nF g i < 7) (h1 : ¬ F < nI 1) (h2 : ¬ allF g i < F) (hf : nF g i ≤ f) (hf6 : f < 6) : hasB F f = false := by
  have hp : 2 ^ nF g i ≤ 2 ^ f := Nat.pow_le_pow_right (by decide) hf
  have hp6 : 2 ^ f ≤ 2 ^ 5 := Nat.pow_le_pow_right (by decide) (by omega)
  have hpos : 0 < 2 ^ nF g i := Nat.two_pow_pos _
  rw [allF_nat h7] at h2
  obtain ⟨k, hk, rfl⟩ := nb_r (by omega) h1 h2
  have e : nI k >>> (nI f &&& 31) = nI (k / 2 ^ f) := by
    rcases (show f = 0 ∨ f = 1 ∨ f = 2 ∨ f = 3 ∨ f = 4 ∨ f = 5 by omega) with rfl | rfl | rfl | rfl | rfl | rfl <;> exact pk_shrN (n := k) (by omega) _ _ (by decide)
  unfold hasB
  rw [e, Nat.div_eq_of_lt (by omega)]
  rfl
theorem and1 (x : Int32) : x &&& nI 1 = 0 ∨ x &&& nI 1 = nI 1 := by
  obtain ⟨l, hl, e⟩ : ∃ l, l < 2 ∧ x &&& nI 1 = nI l := pk_andE x 1 (by decide)
  rcases (show l = 0 ∨ l = 1 by omega) with rfl | rfl
  · exact Or.inl e
  · exact Or.inr e
theorem mdF_b (g : Nat → Nat → Int32) (i : Nat) (F rw0 t : Int32) (f : Nat) : mdF g i F rw0 t f = if hasB F f = true then rw0 * g 10 (i * 6 + f) * t / nI 400 else 0 := by
  unfold mdF hasB
  rcases and1 (F >>> (nI f &&& 31)) with e | e
  · rw [e, Int32.zero_mul, if_neg (by decide)]
  · rw [e, show nI 1 = (1 : Int32) from rfl, Int32.one_mul, if_pos (by decide)]
theorem readG_38 (g : Nat → Nat → Int32) (n5 R i : Nat) (F rw0 : Int32) (P : Nat) : readG g n5 R i F rw0 P 38 = chgW (g 38) (n5 * 6) (fun f => g 10 (i * 6 + f)) F rw0 (tierN (sumN (fUn g (nI R) (g 0 0)) n5)) (nF g i) := by
  unfold readG
  simp [va_up]
section RDG
variable {ty : Nat → ClassId} {t0 : Nat} {g : Nat → Nat → Int32} {n1 n2 nL n4 n5 : Nat} {th : Int32} {rep bro : Nat → Nat → Int32} {u : Nat → Nat → Prop} {C : Nat → Nat → va_E} {ma : Nat → Nat → Nat} {S : mSt}
theorem gI_read (h : gI g n1 n2 nL n4 n5) (hn : n5 < 40) {R i P : Nat} (hi : i < n1) (F rw0 : Int32) : gI (readG g n5 R i F rw0 P) n1 n2 nL n4 (n5 + 1) := by
  have hb := h.b1
  have hf7 := (h.f7 hi).2.2
  have hv7 := (h.v7 hi).2
  have ec : ∀ f n, carN (readG g n5 R i F rw0 P) f n = carN g f n := fun f n => carN_c (g := g) (g' := readG g n5 R i F rw0 P) rfl rfl rfl f n
  obtain ⟨⟨b1, b2, b3, b4, b5, b6, b7, b8, b9, b10⟩, a2, a3, a4, a5, a6, a7, a8, a9, a10⟩ := h
  refine ⟨⟨b1, b2, b3, b4, b5, b6, b7, ⟨rfl, hn⟩, fun r hr => ?_, b10⟩, a2, a3, fun p hp => by rw [ec]; exact a4 p hp, a5, a6, a7, a8, fun p hp => ?_, fun r hr => a10 r (by omega)⟩
  · show nb (upd (g 30) n5 (nI i) r) 8 ∧ nb (upd (g 31) n5 (nI (nV g i - 1)) r) 6
    by_cases e : r = n5
    · rw [e, us, us]
      exact ⟨nb_nI (by omega) (by decide), nb_nI (by omega) (by decide)⟩
    · rw [un e, un e]; exact b9 r (by omega)
  · rw [readG_38]
    unfold chgW
    rw [if_neg (fun z => by have := z.2.1; omega)]
    exact a9 p (by omega)
theorem mR_read (h : mR ty t0 g n1 n2 nL n4 n5 th rep bro u C ma) (hn : n5 < 40) {R i P : Nat} (hi : i < n1) (hv : 0 < nV g i) {F rw0 : Int32} (hF1 : ¬ F < nI 1) (hF2 : ¬ allF g i < F) (hc : chg 7 0 u C ma S) (hL : isL ty t0 S.1 S.2.1 S.2.2 7 0 (n5 + 1) (fun j => if j = n5 then ma 26 n5 else ma 26 j)) (hu : u 26 n5) (hC : C 26 n5 = eO 10 [.int (nI R), .int (nI i), .int (nI (nV g i) - nI 1), .int F, .int rw0, .int (g 0 0), .int (nI P), .int (tierN (sumN (fUn g (nI R) (g 0 0)) n5)), .ref (ma 27 n5), .int 0]) (hu7 : u 27 n5) (hC7 : C 27 n5 = eI (ty 0) 6 (row6 (mdF g i F rw0 (tierN (sumN (fUn g (nI R) (g 0 0)) n5))) 0)) : mR ty t0 (readG g n5 R i F rw0 P) n1 n2 nL n4 (n5 + 1) th rep bro S.1 S.2.1 S.2.2 := by
  have hf7 := (h.I.f7 hi).2.2
  have hv7 := (h.I.v7 hi).2
  have h38 : ∀ p, n5 * 6 ≤ p → g 38 p = 0 := fun p hp => h.I.chg hp
  have h37 : g 37 n5 = 0 := h.I.bil (Nat.le_refl _)
  have h' := mR_mix h (by decide) hc
  have hI := gI_read (R := R) (P := P) h.I hn hi F rw0
  obtain ⟨-, o, l1, l3, l5, -, s, v, q, k, c, r⟩ := h'
  have m7 : S.2.2 7 0 = ma 7 0 := hc.2.2 7 0 (by omega)
  have m26 : ∀ j, S.2.2 26 j = ma 26 j := fun j => hc.2.2 26 j (by omega)
  have m27 : ∀ j, S.2.2 27 j = ma 27 j := fun j => hc.2.2 27 j (by omega)
  refine ⟨hI, ⟨o.1, ?_⟩, l1, l3, l5, hL.ext (fun q => ⟨q, rfl⟩) (fun q => ⟨q, rfl, rfl⟩) (fun j hj => ?_), s, v, q, k, c, fun j hj => ?_⟩
  · refine (show S.2.1 0 0 = oC (mixC 7 ma S.2.2) th (g 0 0) from o.2).trans ?_
    show eO 13 [_, _, _, _, .ref (ma 7 0), _] = eO 13 [_, _, _, _, .ref (S.2.2 7 0), _]
    rw [m7]; rfl
  · by_cases e : j = n5
    · rw [if_pos e, ← e]; exact m26 j
    · rw [if_neg e]; exact m26 j
  · by_cases e : j = n5
    · subst e
      refine ⟨⟨hc.1 _ _ hu, (hc.2.1 26 j (by omega) (by omega)).trans (hC.trans ?_)⟩, hc.1 _ _ hu7, (hc.2.1 27 j (by omega) (by omega)).trans (hC7.trans ?_)⟩
      · show _ = eO 10 [.int (upd (g 29) j (nI R) j), .int (upd (g 30) j (nI i) j), .int (upd (g 31) j (nI (nV g i - 1)) j), .int (upd (g 32) j F j), .int (upd (g 33) j rw0 j), .int (upd (g 35) j (g 0 0) j), .int (upd (g 34) j (nI P) j), .int (upd (g 36) j (tierN (sumN (fUn g (nI R) (g 0 0)) j)) j), .ref (S.2.2 27 j), .int (g 37 j)]
        rw [us, us, us, us, us, us, us, us, m27, h37, pk_sub (a := nV g i) (b := 1) (by omega)]
      · rw [readG_38]
        refine congrArg (eI (ty 0) 6) ?_
        funext f
        unfold row6
        by_cases h6 : f < 6
        · rw [if_pos h6, if_pos h6, mdF_b, Nat.zero_add]
          unfold chgW
          rw [show j * 6 + f - j * 6 = f by omega]
          by_cases hb : hasB F f = true
          · have hlt : f < nF g i := Nat.lt_of_not_le fun z => by rw [hasB_hi hf7 hF1 hF2 z h6] at hb; cases hb
            rw [if_pos hb, if_pos ⟨by omega, by omega, hb⟩]
          · rw [if_neg hb, if_neg (fun z => hb z.2.2)]
            exact (h38 _ (by omega)).symm
        · rw [if_neg h6, if_neg h6]
    · have k26 := (r j (by omega)).1
      have k27 := (r j (by omega)).2
      refine ⟨⟨k26.1, k26.2.trans ?_⟩, k27.1, k27.2.trans ?_⟩
      · show eO 10 [_, _, _, _, _, _, _, _, .ref (S.2.2 27 j), _] = eO 10 [.int (upd (g 29) n5 (nI R) j), .int (upd (g 30) n5 (nI i) j), .int (upd (g 31) n5 (nI (nV g i - 1)) j), .int (upd (g 32) n5 F j), .int (upd (g 33) n5 rw0 j), .int (upd (g 35) n5 (g 0 0) j), .int (upd (g 34) n5 (nI P) j), .int (upd (g 36) n5 (tierN (sumN (fUn g (nI R) (g 0 0)) n5)) j), .ref (S.2.2 27 j), .int (g 37 j)]
        rw [un e, un e, un e, un e, un e, un e, un e, un e]
      · rw [readG_38]
        refine congrArg (eI (ty 0) 6) (row6_e fun f hf => ?_)
        unfold chgW
        rw [if_neg (fun z => by omega)]
end RDG
