/-! the lists' elements -/
section EL
variable {ty : Nat → ClassId} {t0 : Nat} {g : Nat → Nat → Int32} {n1 n2 nL n4 n5 : Nat} {th : Int32} {rep bro : Nat → Nat → Int32} {u : Nat → Nat → Prop} {C : Nat → Nat → va_E} {ma : Nat → Nat → Nat}
theorem mR.e1 (h : mR ty t0 g n1 n2 nL n4 n5 th rep bro u C ma) {j : Nat} (hj : j < n1) : elL 1 0 u C ma (ma 9 j) := ⟨9, j, 8, _, _, by omega, (h.s9 hj).1, rfl, (h.s9 hj).2, rfl, by decide +kernel⟩
theorem mR.e3 (h : mR ty t0 g n1 n2 nL n4 n5 th rep bro u C ma) {j : Nat} (hj : j < n2) : elL 3 0 u C ma (ma 24 j) := ⟨24, j, 11, _, _, by omega, (h.q24 hj).1, rfl, (h.q24 hj).2, rfl, by decide +kernel⟩
theorem mR.e5 (h : mR ty t0 g n1 n2 nL n4 n5 th rep bro u C ma) {j : Nat} (hj : j < n4) : elL 5 0 u C ma (ma 25 j) := ⟨25, j, 7, _, _, by omega, (h.c25 hj).1, rfl, (h.c25 hj).2, rfl, by decide +kernel⟩
theorem mR.e7 (h : mR ty t0 g n1 n2 nL n4 n5 th rep bro u C ma) {j : Nat} (hj : j < n5) : elL 7 0 u C ma (ma 26 j) := ⟨26, j, 10, _, _, by omega, (h.r26 hj).1, rfl, (h.r26 hj).2, rfl, by decide +kernel⟩
end EL
/-- the kinds kl and kl + 1 as they were, the others as they are -/
def mixC {α : Type} (kl : Nat) (C C' : Nat → Nat → α) : Nat → Nat → α := fun k x => if k = kl ∨ k = kl + 1 then C k x else C' k x
section CON
variable {ty : Nat → ClassId} {t0 : Nat} {g g' : Nat → Nat → Int32} {n1 n2 nL n4 n5 : Nat} {th : Int32} {rep bro : Nat → Nat → Int32} {u : Nat → Nat → Prop} {C : Nat → Nat → va_E} {ma : Nat → Nat → Nat} {S : mSt}
/-- a list of kind kl below 9 has grown: all but it, over a world in which it is as it was -/
theorem mR_mix (h : mR ty t0 g n1 n2 nL n4 n5 th rep bro u C ma) {kl : Nat} (hkl : kl = 1 ∨ kl = 3 ∨ kl = 5 ∨ kl = 7) (hc : chg kl 0 u C ma S) : mR ty t0 g n1 n2 nL n4 n5 th rep bro S.1 (mixC kl C S.2.1) (mixC kl ma S.2.2) := by
  refine h.ext fun k x hm hu => ⟨hc.1 k x hu, ?_, ?_⟩
  · unfold mixC
    split
    · rfl
    · exact hc.2.1 k x (fun z => by omega) (fun z => by omega)
  · unfold mixC
    split
    · rfl
    · exact hc.2.2 k x (fun z => by omega)
def conG (g : Nat → Nat → Int32) (n4 : Nat) (a b F ps fr to : Int32) : Nat → Nat → Int32 := va_up (va_up (va_up (va_up (va_up (va_up (va_up g 23 (upd (g 23) n4 a)) 24 (upd (g 24) n4 b)) 25 (upd (g 25) n4 F)) 26 (upd (g 26) n4 ps)) 27 (upd (g 27) n4 fr)) 28 (upd (g 28) n4 to)) 4 (upd (g 4) 0 (nI (n4 + 1)))
theorem gI_con (h : gI g n1 n2 nL n4 n5) (hn : n4 < 16) (a b F ps fr to : Int32) : gI (conG g n4 a b F ps fr to) n1 n2 nL (n4 + 1) n5 := by
  have ec : ∀ f n, carN (conG g n4 a b F ps fr to) f n = carN g f n := fun f n => carN_c (g := g) (g' := conG g n4 a b F ps fr to) rfl rfl rfl f n
  obtain ⟨⟨b1, b2, b3, b4, b5, b6, b7, b8, b9, b10⟩, a2, a3, a4, a5, a6, a7, a8, a9, a10⟩ := h
  exact ⟨⟨b1, b2, b3, b4, b5, b6, ⟨rfl, hn⟩, b8, b9, b10⟩, a2, a3, fun p hp => by rw [ec]; exact a4 p hp, a5, a6, a7, a8, a9, a10⟩
theorem mR_con (h : mR ty t0 g n1 n2 nL n4 n5 th rep bro u C ma) (hn : n4 < 16) {a b F ps fr to : Int32} (hc : chg 5 0 u C ma S) (hL : isL ty t0 S.1 S.2.1 S.2.2 5 0 (n4 + 1) (fun j => if j = n4 then ma 25 n4 else ma 25 j)) (hu : u 25 n4) (hC : C 25 n4 = eO 7 [.int a, .int b, .int F, .int ps, .int fr, .int to]) : mR ty t0 (conG g n4 a b F ps fr to) n1 n2 nL (n4 + 1) n5 th rep bro S.1 S.2.1 S.2.2 := by
  have h' := mR_mix h (by decide) hc
  obtain ⟨-, o, l1, l3, -, l7, s, v, q, k, c, r⟩ := h'
  have m5 : S.2.2 5 0 = ma 5 0 := hc.2.2 5 0 (by omega)
  refine ⟨gI_con h.I hn a b F ps fr to, ⟨o.1, ?_⟩, l1, l3, hL.ext (fun q => ⟨q, rfl⟩) (fun q => ⟨q, rfl, rfl⟩) (fun j hj => ?_), l7, s, v, q, k, fun j hj => ?_, r⟩
  · refine (show S.2.1 0 0 = oC (mixC 5 ma S.2.2) th (g 0 0) from o.2).trans ?_
    show eO 13 [_, _, _, .ref (ma 5 0), _, _] = eO 13 [_, _, _, .ref (S.2.2 5 0), _, _]
    rw [m5]; rfl
  · have q := hc.2.2 25 j (by omega)
    by_cases e : j = n4
    · rw [if_pos e, ← e]; exact q
    · rw [if_neg e]; exact q
  · by_cases e : j = n4
    · subst e
      refine ⟨hc.1 _ _ hu, (hc.2.1 25 j (by omega) (by omega)).trans (hC.trans ?_)⟩
      show _ = eO 7 [.int (upd (g 23) j a j), .int (upd (g 24) j b j), .int (upd (g 25) j F j), .int (upd (g 26) j ps j), .int (upd (g 27) j fr j), .int (upd (g 28) j to j)]
      rw [us, us, us, us, us, us]
    · refine ⟨(c j (by omega)).1, (c j (by omega)).2.trans ?_⟩
      show cC g j = eO 7 [.int (upd (g 23) n4 a j), .int (upd (g 24) n4 b j), .int (upd (g 25) n4 F j), .int (upd (g 26) n4 ps j), .int (upd (g 27) n4 fr j), .int (upd (g 28) n4 to j)]
      rw [un e, un e, un e, un e, un e, un e]
      rfl
end CON
