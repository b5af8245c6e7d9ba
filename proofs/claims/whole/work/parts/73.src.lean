section SRC
variable {ty : Nat → ClassId} {t0 : Nat} {g : Nat → Nat → Int32} {n1 n2 nL n4 n5 : Nat} {th : Int32} {rep bro : Nat → Nat → Int32} {u : Nat → Nat → Prop} {C : Nat → Nat → va_E} {ma : Nat → Nat → Nat} {S : mSt}
theorem fSrc_y {i f j : Nat} (h : gI g n1 n2 nL n4 n5) (hj : j < n2) (h1 : cn (g 12 j) / 6 = i) (h2 : cn (g 12 j) % 6 = f) : fSrc g (i * 6 + f) j = nI 1 := by
  unfold fSrc
  rw [if_pos (decide_eq_true (by rw [(h.src hj).1.1]; exact congrArg nI (by omega)))]; rfl
theorem fSrc_n {i f j : Nat} (hf : f < 6) (hi : i < 8) (h12 : cn (g 12 j) / 6 ≠ i ∨ cn (g 12 j) % 6 ≠ f) : fSrc g (i * 6 + f) j = nI 0 := by
  unfold fSrc
  rw [if_neg (fun z => by
    have := of_decide_eq_true z
    rw [this, cn_nI (show i * 6 + f < 2 ^ 31 by omega)] at h12
    omega)]; rfl
theorem srcG_sh (g : Nat → Nat → Int32) (n2 a b : Nat) (s0 sh : Int32) : va_up (srcG g n2 a b s0) 14 (upd (srcG g n2 a b s0 14) n2 sh) = srcG g n2 a b sh := by
  have e : srcG g n2 a b s0 14 = upd (g 14) n2 s0 := rfl
  rw [e, upd_2]
  funext k
  unfold srcG
  by_cases h : k = 14
  · subst h; rfl
  · rw [vn h]
    by_cases h2 : k = 2
    · subst h2; rfl
    · rw [vn h2, vn h2, vn h, vn h]
theorem gI_src (h : gI g n1 n2 nL n4 n5) (hn : n2 < 20) {i f i2 f2 : Nat} (hi : i < n1) (hf : f < 6) (hii : i2 < i) (hf2 : f2 < 6) (sh : Int32) : gI (srcG g n2 (i * 6 + f) (i2 * 6 + f2) sh) n1 (n2 + 1) nL n4 n5 := by
  have hb := h.b1
  have ec : ∀ f' n, carN (srcG g n2 (i * 6 + f) (i2 * 6 + f2) sh) f' n = carN g f' n := fun f' n => carN_c (g := g) (g' := srcG g n2 (i * 6 + f) (i2 * 6 + f2) sh) rfl rfl rfl f' n
  obtain ⟨⟨b1, b2, b3, b4, b5, b6, b7, b8, b9, b10⟩, a2, a3, a4, a5, a6, a7, a8, a9, a10⟩ := h
  refine ⟨⟨b1, b2, ⟨rfl, hn⟩, fun j hj => ?_, b5, b6, b7, b8, b9, b10⟩, a2, a3, fun p hp => by rw [ec]; exact a4 p hp, a5, a6, a7, a8, a9, a10⟩
  show nb (upd (g 12) n2 (nI (i * 6 + f)) j) 48 ∧ nb (upd (g 13) n2 (nI (i2 * 6 + f2)) j) 48 ∧ cn (upd (g 12) n2 (nI (i * 6 + f)) j) / 6 < n1 ∧ cn (upd (g 13) n2 (nI (i2 * 6 + f2)) j) / 6 < cn (upd (g 12) n2 (nI (i * 6 + f)) j) / 6
  by_cases e : j = n2
  · rw [e, us, us, cn_nI (by omega), cn_nI (by omega)]
    exact ⟨nb_nI (by omega) (by decide), nb_nI (by omega) (by decide), by omega, by omega⟩
  · rw [un e, un e]; exact b4 j (by omega)
theorem mR_src (h : mR ty t0 g n1 n2 nL n4 n5 th rep bro u C ma) (hn : n2 < 20) {i f i2 f2 : Nat} (hi : i < n1) (hf : f < 6) (hii : i2 < i) (hf2 : f2 < 6) {sh : Int32} (hc : chg 3 0 u C ma S) (hL : isL ty t0 S.1 S.2.1 S.2.2 3 0 (n2 + 1) (fun j => if j = n2 then ma 24 n2 else ma 24 j)) (hu : u 24 n2) (hC : C 24 n2 = eO 11 [.int (nI i), .int (nI f), .int (nI i2), .int (nI f2), .int sh]) : mR ty t0 (srcG g n2 (i * 6 + f) (i2 * 6 + f2) sh) n1 (n2 + 1) nL n4 n5 th rep bro S.1 S.2.1 S.2.2 := by
  have hb := h.I.b1
  have h' := mR_mix h (by decide) hc
  obtain ⟨-, o, l1, -, l5, l7, s, v, q, k, c, r⟩ := h'
  have m3 : S.2.2 3 0 = ma 3 0 := hc.2.2 3 0 (by omega)
  refine ⟨gI_src h.I hn hi hf hii hf2 sh, ⟨o.1, ?_⟩, l1, hL.ext (fun q => ⟨q, rfl⟩) (fun q => ⟨q, rfl, rfl⟩) (fun j hj => ?_), l5, l7, s, v, fun j hj => ?_, k, c, r⟩
  · refine (show S.2.1 0 0 = oC (mixC 3 ma S.2.2) th (g 0 0) from o.2).trans ?_
    show eO 13 [_, _, .ref (ma 3 0), _, _, _] = eO 13 [_, _, .ref (S.2.2 3 0), _, _, _]
    rw [m3]; rfl
  · have q := hc.2.2 24 j (by omega)
    by_cases e : j = n2
    · rw [if_pos e, ← e]; exact q
    · rw [if_neg e]; exact q
  · by_cases e : j = n2
    · subst e
      refine ⟨hc.1 _ _ hu, (hc.2.1 24 j (by omega) (by omega)).trans (hC.trans ?_)⟩
      show _ = eO 11 [.int (nI (cn (upd (g 12) j (nI (i * 6 + f)) j) / 6)), .int (nI (cn (upd (g 12) j (nI (i * 6 + f)) j) % 6)), .int (nI (cn (upd (g 13) j (nI (i2 * 6 + f2)) j) / 6)), .int (nI (cn (upd (g 13) j (nI (i2 * 6 + f2)) j) % 6)), .int (upd (g 14) j sh j)]
      rw [us, us, us, cn_nI (by omega), cn_nI (by omega), show (i * 6 + f) / 6 = i by omega, show (i * 6 + f) % 6 = f by omega, show (i2 * 6 + f2) / 6 = i2 by omega, show (i2 * 6 + f2) % 6 = f2 by omega]
    · refine ⟨(q j (by omega)).1, (q j (by omega)).2.trans ?_⟩
      show qC g j = eO 11 [.int (nI (cn (upd (g 12) n2 (nI (i * 6 + f)) j) / 6)), .int (nI (cn (upd (g 12) n2 (nI (i * 6 + f)) j) % 6)), .int (nI (cn (upd (g 13) n2 (nI (i2 * 6 + f2)) j) / 6)), .int (nI (cn (upd (g 13) n2 (nI (i2 * 6 + f2)) j) % 6)), .int (upd (g 14) n2 sh j)]
      rw [un e, un e, un e]
      rfl
end SRC
