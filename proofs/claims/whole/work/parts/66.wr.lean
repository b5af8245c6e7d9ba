theorem zmax_toInt (x y : Int32) : (zmax x y).toInt = max x.toInt y.toInt := by
  rw [zmax_def]
  by_cases h : x < y
  · rw [if_pos h]; rw [Int32.lt_iff_toInt_lt] at h; omega
  · rw [if_neg h]; rw [Int32.lt_iff_toInt_lt] at h; omega
theorem zmax_ac (a b c : Int32) : zmax (zmax a c) b = zmax (zmax a b) c := by
  apply Int32.toInt_inj.mp
  rw [zmax_toInt, zmax_toInt, zmax_toInt, zmax_toInt]; omega
theorem zmax_c (a b : Int32) : zmax a b = zmax b a := by
  apply Int32.toInt_inj.mp
  rw [zmax_toInt, zmax_toInt]; omega
theorem zmax_z {a x : Int32} (h : 0 ≤ x.toInt) : zmax (zmax a 0) x = zmax a x := by
  apply Int32.toInt_inj.mp
  rw [zmax_toInt, zmax_toInt, zmax_toInt, show (0 : Int32).toInt = 0 from rfl]; omega
theorem ovr_eq (m r : Int32) : zmax (nI 0) (m - r) / nI 10 = ovr m r := by
  unfold ovr
  by_cases h : m - r ≤ 0
  · rw [if_pos h, zmax_def, if_neg (fun z => by rw [nI_0] at z; exact absurd h (Int32.not_le.mpr z))]; decide
  · rw [if_neg h, zmax_def, if_pos (by rw [nI_0]; exact Int32.not_le.mp h)]
theorem ovr_pos (m r : Int32) : 0 ≤ (ovr m r).toInt := by
  unfold ovr
  split
  · exact Int.le_refl _
  · rename_i h
    have h1 : 0 < (m - r).toInt := by
      have := Int32.not_le.mp h
      rw [Int32.lt_iff_toInt_lt] at this
      exact this
    obtain ⟨j, hj, e⟩ := nI_of (x := m - r) (fun z => by rw [Int32.lt_iff_toInt_lt] at z; have : (0 : Int32).toInt = 0 := rfl; omega)
    rw [e, pk_div (by omega) (by decide) (by decide), nI_toInt (by omega)]
    omega
/-- below 288 the links look at nothing beyond -/
theorem carN_e {g : Nat → Nat → Int32} {n1 n2 nL n4 n5 : Nat} (hI : gI g n1 n2 nL n4 n5) {h h' : Nat → Int32} (e : ∀ p, p < 288 → h' p = h p) : ∀ n, n ≤ nL → ∀ p, p < 288 → carN g h' n p = carN g h n p := by
  intro n
  induction n with
  | zero => intro _ p hp; exact e p hp
  | succ n ih =>
    intro hn p hp
    have ih := ih (by omega)
    have hb := hI.lk (show n < nL by omega)
    show csS g (carN g h' n) n p = csS g (carN g h n) n p
    unfold csS
    rw [ih _ hb.1.2, ih _ hb.2.2]
    unfold upd
    split
    · rfl
    · exact ih p hp

theorem mR_terms {ty : Nat → ClassId} {t0 : Nat} {g : Nat → Nat → Int32} {n1 n2 nL n4 n5 : Nat} {th : Int32} {rep bro : Nat → Nat → Int32} {u : Nat → Nat → Prop} {C : Nat → Nat → va_E} {ma : Nat → Nat → Nat} (h : mR ty t0 g n1 n2 nL n4 n5 th rep bro u C ma) {i f : Nat} (hi : i < n1) (hf : f < 6) (pr ru : Int32) : mR ty t0 (va_up (va_up g 10 (upd (g 10) (i * 6 + f) pr)) 11 (upd (g 11) (i * 6 + f) ru)) n1 n2 nL n4 n5 th (rep) (bro) u (up2 (up2 C 10 i (eI (ty 0) 6 (upd (row6 (g 10) (i * 6)) f pr))) 11 i (eI (ty 0) 6 (upd (row6 (g 11) (i * 6)) f ru))) ma := by
  exact h.chg
    (h.I.cong (fun k hk => by unfold va_up; rw [if_neg (by omega), if_neg (by omega)]))
    (fun kl x hk => ((up2_k _ _ (by omega)).trans (up2_k _ _ (by omega))))
    rfl
    rfl
    ((up2_k _ _ (by decide)).trans ((up2_k _ _ (by decide)).trans h.o.2))
    (fun i hi => ((up2_k _ _ (by decide)).trans ((up2_k _ _ (by decide)).trans (h.s9 hi).2)))
    (fun i9 hi9 => by
      by_cases e9 : i9 = i
      · subst e9; rw [up2_k _ _ (by decide), up2_s, row6_u hf]; rfl
      · rw [up2_k _ _ (by decide), up2_n _ _ (fun z => e9 z.2), (h.s10 hi9).2]; show eI _ 6 (row6 _ _) = eI _ 6 (row6 (upd _ _ _) _); rw [row6_o (by omega)])
    (fun i9 hi9 => by
      by_cases e9 : i9 = i
      · subst e9; rw [up2_s, row6_u hf]; rfl
      · rw [up2_n _ _ (fun z => e9 z.2), up2_k _ _ (by decide), (h.s11 hi9).2]; show eI _ 6 (row6 _ _) = eI _ 6 (row6 (upd _ _ _) _); rw [row6_o (by omega)])
    (fun i hi => ((up2_k _ _ (by decide)).trans ((up2_k _ _ (by decide)).trans (h.s14 hi).2)))
    (fun i v hi hv => ((up2_k _ _ (by decide)).trans ((up2_k _ _ (by decide)).trans (h.v15 hi hv).2)))
    (fun i v hi hv => ((up2_k _ _ (by decide)).trans ((up2_k _ _ (by decide)).trans (h.v16 hi hv).2)))
    (fun i v hi hv => ((up2_k _ _ (by decide)).trans ((up2_k _ _ (by decide)).trans (h.v17 hi hv).2)))
    (fun i v hi hv => ((up2_k _ _ (by decide)).trans ((up2_k _ _ (by decide)).trans (h.v18 hi hv).2)))
    (fun i v f hi hv hf => h.ownz hi hv hf)
    (fun j hj => ((up2_k _ _ (by decide)).trans ((up2_k _ _ (by decide)).trans (h.q24 hj).2)))
    (fun j hj => ((up2_k _ _ (by decide)).trans ((up2_k _ _ (by decide)).trans (h.k23 hj).2)))
    (fun c hc => ((up2_k _ _ (by decide)).trans ((up2_k _ _ (by decide)).trans (h.c25 hc).2)))
    (fun r hr => ((up2_k _ _ (by decide)).trans ((up2_k _ _ (by decide)).trans (h.r26 hr).2)))
    (fun r hr => ((up2_k _ _ (by decide)).trans ((up2_k _ _ (by decide)).trans (h.r27 hr).2)))

theorem mR_end {ty : Nat → ClassId} {t0 : Nat} {g : Nat → Nat → Int32} {n1 n2 nL n4 n5 : Nat} {th : Int32} {rep bro : Nat → Nat → Int32} {u : Nat → Nat → Prop} {C : Nat → Nat → va_E} {ma : Nat → Nat → Nat} (h : mR ty t0 g n1 n2 nL n4 n5 th rep bro u C ma) {c0 : Nat} (hc0 : c0 < n4) (x : Int32) : mR ty t0 (va_up g 28 (upd (g 28) c0 x)) n1 n2 nL n4 n5 th (rep) (bro) u (up2 C 25 c0 (eO 7 [.int (g 23 c0), .int (g 24 c0), .int (g 25 c0), .int (g 26 c0), .int (g 27 c0), .int x])) ma := by
  exact h.chg
    (h.I.cong (fun k hk => by unfold va_up; rw [if_neg (by omega)]))
    (fun kl x hk => (up2_k _ _ (by omega)))
    rfl
    rfl
    ((up2_k _ _ (by decide)).trans h.o.2)
    (fun i hi => ((up2_k _ _ (by decide)).trans (h.s9 hi).2))
    (fun i hi => ((up2_k _ _ (by decide)).trans (h.s10 hi).2))
    (fun i hi => ((up2_k _ _ (by decide)).trans (h.s11 hi).2))
    (fun i hi => ((up2_k _ _ (by decide)).trans (h.s14 hi).2))
    (fun i v hi hv => ((up2_k _ _ (by decide)).trans (h.v15 hi hv).2))
    (fun i v hi hv => ((up2_k _ _ (by decide)).trans (h.v16 hi hv).2))
    (fun i v hi hv => ((up2_k _ _ (by decide)).trans (h.v17 hi hv).2))
    (fun i v hi hv => ((up2_k _ _ (by decide)).trans (h.v18 hi hv).2))
    (fun i v f hi hv hf => h.ownz hi hv hf)
    (fun j hj => ((up2_k _ _ (by decide)).trans (h.q24 hj).2))
    (fun j hj => ((up2_k _ _ (by decide)).trans (h.k23 hj).2))
    (fun c hc => by
      by_cases e9 : c = c0
      · subst e9; rw [up2_s]; show _ = eO 7 [_, _, _, _, _, .int (upd (g 28) c x c)]; rw [us]; rfl
      · rw [up2_n _ _ (fun z => e9 z.2), (h.c25 hc).2]; show _ = eO 7 [_, _, _, _, _, .int (upd (g 28) c0 x c)]; rw [un e9]; rfl)
    (fun r hr => ((up2_k _ _ (by decide)).trans (h.r26 hr).2))
    (fun r hr => ((up2_k _ _ (by decide)).trans (h.r27 hr).2))

theorem gI_prev {g : Nat → Nat → Int32} {n1 n2 nL n4 n5 R i : Nat} (h : gI g n1 n2 nL n4 n5) (hr6 : R < 6) (hi : i < n1) (x : Int32) : gI (va_up g 6 (upd (g 6) (R * 8 + i) x)) n1 n2 nL n4 n5 := by
  have ec : ∀ f n, carN (va_up g 6 (upd (g 6) (R * 8 + i) x)) f n = carN g f n := fun f n => carN_vu (by decide) (by decide) (by decide) _ _ _
  have hb := h.b1
  obtain ⟨a1, a2, a3, a4, a5, a6, a7, a8, a9, a10⟩ := h
  refine ⟨a1, a2, a3, fun p hp => ?_, a5, a6, fun r i' hr hi' h8 => ?_, a8, a9, a10⟩
  · rw [ec]; exact a4 p hp
  · show upd (g 6) (R * 8 + i) x (r * 8 + i') = 0
    rw [un (by omega)]; exact a7 r i' hr hi' h8

theorem mR_prev {ty : Nat → ClassId} {t0 : Nat} {g : Nat → Nat → Int32} {n1 n2 nL n4 n5 : Nat} {th : Int32} {rep bro : Nat → Nat → Int32} {u : Nat → Nat → Prop} {C : Nat → Nat → va_E} {ma : Nat → Nat → Nat} (h : mR ty t0 g n1 n2 nL n4 n5 th rep bro u C ma) {R i : Nat} (hr6 : R < 6) (hi : i < n1) (x : Int32) : mR ty t0 (va_up g 6 (upd (g 6) (R * 8 + i) x)) n1 n2 nL n4 n5 th (rep) (bro) u (up2 C 14 i (eI (ty 0) 6 (upd (prvR (g 6) i) R x))) ma := by
  exact h.chg
    (gI_prev h.I hr6 hi x)
    (fun kl x hk => (up2_k _ _ (by omega)))
    rfl
    rfl
    ((up2_k _ _ (by decide)).trans h.o.2)
    (fun i hi => ((up2_k _ _ (by decide)).trans (h.s9 hi).2))
    (fun i hi => ((up2_k _ _ (by decide)).trans (h.s10 hi).2))
    (fun i hi => ((up2_k _ _ (by decide)).trans (h.s11 hi).2))
    (fun i9 hi9 => by
      by_cases e9 : i9 = i
      · subst e9; rw [up2_s, prvR_u hr6]; rfl
      · have hb := h.I.b1
        rw [up2_n _ _ (fun z => e9 z.2), (h.s14 hi9).2]; show eI _ 6 (prvR _ _) = eI _ 6 (prvR (upd _ _ _) _); rw [prvR_o (by omega) (by omega) e9])
    (fun i v hi hv => ((up2_k _ _ (by decide)).trans (h.v15 hi hv).2))
    (fun i v hi hv => ((up2_k _ _ (by decide)).trans (h.v16 hi hv).2))
    (fun i v hi hv => ((up2_k _ _ (by decide)).trans (h.v17 hi hv).2))
    (fun i v hi hv => ((up2_k _ _ (by decide)).trans (h.v18 hi hv).2))
    (fun i v f hi hv hf => h.ownz hi hv hf)
    (fun j hj => ((up2_k _ _ (by decide)).trans (h.q24 hj).2))
    (fun j hj => ((up2_k _ _ (by decide)).trans (h.k23 hj).2))
    (fun c hc => ((up2_k _ _ (by decide)).trans (h.c25 hc).2))
    (fun r hr => ((up2_k _ _ (by decide)).trans (h.r26 hr).2))
    (fun r hr => ((up2_k _ _ (by decide)).trans (h.r27 hr).2))

theorem gI_pass {g : Nat → Nat → Int32} {n1 n2 nL n4 n5 : Nat} (h : gI g n1 n2 nL n4 n5) {x : Int32} (hx : nb x 360) : gI (va_up g 0 (upd (g 0) 0 x)) n1 n2 nL n4 n5 := by
  have ec : ∀ f n, carN (va_up g 0 (upd (g 0) 0 x)) f n = carN g f n := fun f n => carN_vu (by decide) (by decide) (by decide) _ _ _
  obtain ⟨⟨b1, b2, b3, b4, b5, b6, b7, b8, b9, b10⟩, a2, a3, a4, a5, a6, a7, a8, a9, a10⟩ := h
  exact ⟨⟨b1, b2, b3, b4, b5, b6, b7, b8, b9, hx⟩, a2, a3, fun p hp => by rw [ec]; exact a4 p hp, a5, a6, a7, a8, a9, a10⟩

theorem mR_pass {ty : Nat → ClassId} {t0 : Nat} {g : Nat → Nat → Int32} {n1 n2 nL n4 n5 : Nat} {th : Int32} {rep bro : Nat → Nat → Int32} {u : Nat → Nat → Prop} {C : Nat → Nat → va_E} {ma : Nat → Nat → Nat} (h : mR ty t0 g n1 n2 nL n4 n5 th rep bro u C ma) {x : Int32} (hx : nb x 360) : mR ty t0 (va_up g 0 (upd (g 0) 0 x)) n1 n2 nL n4 n5 th (rep) (bro) u (up2 C 0 0 (eO 13 [.int th, .ref (ma 1 0), .ref (ma 3 0), .ref (ma 5 0), .ref (ma 7 0), .int x])) ma := by
  exact h.chg
    (gI_pass h.I hx)
    (fun kl x hk => (up2_k _ _ (by omega)))
    rfl
    rfl
    (up2_s _ _ _ _)
    (fun i hi => ((up2_k _ _ (by decide)).trans (h.s9 hi).2))
    (fun i hi => ((up2_k _ _ (by decide)).trans (h.s10 hi).2))
    (fun i hi => ((up2_k _ _ (by decide)).trans (h.s11 hi).2))
    (fun i hi => ((up2_k _ _ (by decide)).trans (h.s14 hi).2))
    (fun i v hi hv => ((up2_k _ _ (by decide)).trans (h.v15 hi hv).2))
    (fun i v hi hv => ((up2_k _ _ (by decide)).trans (h.v16 hi hv).2))
    (fun i v hi hv => ((up2_k _ _ (by decide)).trans (h.v17 hi hv).2))
    (fun i v hi hv => ((up2_k _ _ (by decide)).trans (h.v18 hi hv).2))
    (fun i v f hi hv hf => h.ownz hi hv hf)
    (fun j hj => ((up2_k _ _ (by decide)).trans (h.q24 hj).2))
    (fun j hj => ((up2_k _ _ (by decide)).trans (h.k23 hj).2))
    (fun c hc => ((up2_k _ _ (by decide)).trans (h.c25 hc).2))
    (fun r hr => ((up2_k _ _ (by decide)).trans (h.r26 hr).2))
    (fun r hr => ((up2_k _ _ (by decide)).trans (h.r27 hr).2))

theorem bilN_s {g : Nat → Nat → Int32} {R k : Nat} (hR : R < 6) (hy : g 29 k = nI R) : bilN g (nI R) (k + 1) = upd (bilN g (nI R) k) k (chN g k - crN g 21 k) := (bilN_y (by rw [ofB_r hR]; exact decide_eq_true hy)).symm
theorem bilN_o {g : Nat → Nat → Int32} {R k : Nat} (hR : R < 6) (hy : ¬ g 29 k = nI R) : bilN g (nI R) (k + 1) = bilN g (nI R) k := (bilN_n (by rw [ofB_r hR]; exact decide_eq_false hy)).symm
theorem gI_bil {g : Nat → Nat → Int32} {n1 n2 nL n4 n5 : Nat} (h : gI g n1 n2 nL n4 n5) {f : Nat → Int32} (hf : ∀ r, n5 ≤ r → f r = g 37 r) : gI (va_up g 37 f) n1 n2 nL n4 n5 := by
  have ec : ∀ f' n, carN (va_up g 37 f) f' n = carN g f' n := fun f' n => carN_vu (by decide) (by decide) (by decide) _ _ _
  obtain ⟨a1, a2, a3, a4, a5, a6, a7, a8, a9, a10⟩ := h
  exact ⟨a1, a2, a3, fun p hp => by rw [ec]; exact a4 p hp, a5, a6, a7, a8, a9, fun r hr => (hf r hr).trans (a10 r hr)⟩

theorem mR_bil {ty : Nat → ClassId} {t0 : Nat} {g : Nat → Nat → Int32} {n1 n2 nL n4 n5 : Nat} {th : Int32} {rep bro : Nat → Nat → Int32} {u : Nat → Nat → Prop} {C : Nat → Nat → va_E} {ma : Nat → Nat → Nat} (h : mR ty t0 g n1 n2 nL n4 n5 th rep bro u C ma) {k : Nat} (hk : k < n5) (x : Int32) : mR ty t0 (va_up g 37 (upd (g 37) k x)) n1 n2 nL n4 n5 th (rep) (bro) u (up2 C 26 k (eO 10 [.int (g 29 k), .int (g 30 k), .int (g 31 k), .int (g 32 k), .int (g 33 k), .int (g 35 k), .int (g 34 k), .int (g 36 k), .ref (ma 27 k), .int x])) ma := by
  exact h.chg
    (gI_bil h.I (fun r hr => un (by omega)))
    (fun kl x hk => (up2_k _ _ (by omega)))
    rfl
    rfl
    ((up2_k _ _ (by decide)).trans h.o.2)
    (fun i hi => ((up2_k _ _ (by decide)).trans (h.s9 hi).2))
    (fun i hi => ((up2_k _ _ (by decide)).trans (h.s10 hi).2))
    (fun i hi => ((up2_k _ _ (by decide)).trans (h.s11 hi).2))
    (fun i hi => ((up2_k _ _ (by decide)).trans (h.s14 hi).2))
    (fun i v hi hv => ((up2_k _ _ (by decide)).trans (h.v15 hi hv).2))
    (fun i v hi hv => ((up2_k _ _ (by decide)).trans (h.v16 hi hv).2))
    (fun i v hi hv => ((up2_k _ _ (by decide)).trans (h.v17 hi hv).2))
    (fun i v hi hv => ((up2_k _ _ (by decide)).trans (h.v18 hi hv).2))
    (fun i v f hi hv hf => h.ownz hi hv hf)
    (fun j hj => ((up2_k _ _ (by decide)).trans (h.q24 hj).2))
    (fun j hj => ((up2_k _ _ (by decide)).trans (h.k23 hj).2))
    (fun c hc => ((up2_k _ _ (by decide)).trans (h.c25 hc).2))
    (fun r hr => by
      by_cases e9 : r = k
      · subst e9; rw [up2_s]; show _ = eO 10 [_, _, _, _, _, _, _, _, _, .int (upd (g 37) r x r)]; rw [us]; rfl
      · rw [up2_n _ _ (fun z => e9 z.2), (h.r26 hr).2]; show _ = eO 10 [_, _, _, _, _, _, _, _, _, .int (upd (g 37) k x r)]; rw [un e9]; rfl)
    (fun r hr => ((up2_k _ _ (by decide)).trans (h.r27 hr).2))

/-- one place's own harm is raised, all is settled anew -/
theorem gI_rse {g g' : Nat → Nat → Int32} {n1 n2 nL n4 n5 p : Nat} (h : gI g n1 n2 nL n4 n5) (hp : p < 288) (hex : p / 36 < n1 ∧ p / 6 % 6 < nV g (p / 36)) (x : Int32)
    (e : ∀ k, (k < 9 ∧ k ≠ 3) ∨ k = 12 ∨ k = 13 ∨ (15 ≤ k ∧ k ≤ 17) ∨ k = 30 ∨ k = 31 ∨ k = 37 ∨ k = 38 → g' k = g k) (e19 : g' 19 = upd (g 19) p (zmax (g 19 p) x)) (e20 : ∀ q, q < 288 → q ≠ p → g' 20 q = g 20 q) (e21 : g' 21 = setlN (rse g p x) nL) : gI g' n1 n2 nL n4 n5 := by
  have hI0 := h
  have e0 := e 0 (by omega)
  have e1 := e 1 (by omega)
  have e2 := e 2 (by omega)
  have e4 := e 4 (by omega)
  have e5 := e 5 (by omega)
  have e6 := e 6 (by omega)
  have e7 := e 7 (by omega)
  have e8 := e 8 (by omega)
  have e12 := e 12 (by omega)
  have e13 := e 13 (by omega)
  have e15 := e 15 (by omega)
  have e16 := e 16 (by omega)
  have e17 := e 17 (by omega)
  have e30 := e 30 (by omega)
  have e31 := e 31 (by omega)
  have e37 := e 37 (by omega)
  have e38 := e 38 (by omega)
  have ec := carN_c e15 e16 e17
  have er : ∀ f n, carN (rse g p x) f n = carN g f n := fun f n => carN_vu (by decide) (by decide) (by decide) _ _ _
  have eV : ∀ i, nV g' i = nV g i := fun i => by unfold nV; rw [e8]
  have eK : ∀ q, lkl g' nL q = lkl g nL q := fun q => by unfold lkl; rw [e15]
  obtain ⟨a1, a2, a3, a4, a5, a6, a7, a8, a9, a10⟩ := h
  refine ⟨?_, ?_, ?_, fun q hq => ?_, fun q hq hn => ?_, fun q hq => ?_, ?_, ?_, ?_, ?_⟩
  · unfold dI nF at *; simp only [e0, e1, e2, e4, e5, e7, e8, e12, e13, e15, e16, e30, e31]; exact a1
  · simp only [e15, e16, eV]; exact a2
  · simp only [e15, e16]; exact a3
  · rw [e21, ec]
    unfold setlN
    rw [er]
    refine carN_e hI0 (fun z hz => ?_) nL (Nat.le_refl _) q hq
    rw [e19]
    show cpy (va_up g 19 (upd (g 19) p (zmax (g 19 p) x)) 19) _ 288 z = _
    unfold cpy
    rw [if_pos hz]
    rfl
  · rw [eV] at hn
    have hqp : q ≠ p := fun z => hn (by rw [z]; exact hex)
    rw [e19, un hqp, e20 q hq hqp]
    exact a5 q hq hn
  · rw [eK]; exact a6 q hq
  · simp only [e6]; exact a7
  · simp only [e8]; exact a8
  · simp only [e38]; exact a9
  · simp only [e37]; exact a10
theorem gain_rep {g : Nat → Nat → Int32} {n1 n2 nL n4 n5 p : Nat} (h : gI g n1 n2 nL n4 n5) (hp : p < 288) (x : Int32) : sumN (fCr (repG g nL p x) (-1) (-1) 21) n5 - sumN (fCr g (-1) (-1) 21) n5 = gainN g nL n5 p x := by
  unfold gainN
  congr 1
  refine sumN_c fun r hr => ?_
  unfold fCr
  rw [ofB_a, ofB_a, if_pos rfl, if_pos rfl]
  unfold crN
  refine sumN_c fun f hf => ?_
  have hb := h.rd hr
  show g 38 (r * 6 + f) * repG g nL p x 21 ((cn (g 30 r) * 6 + cn (g 31 r)) * 6 + f) / nI 100 = g 38 (r * 6 + f) * triG g nL p x 22 ((cn (g 30 r) * 6 + cn (g 31 r)) * 6 + f) / nI 100
  have e : repG g nL p x 21 ((cn (g 30 r) * 6 + cn (g 31 r)) * 6 + f) = triG g nL p x 22 ((cn (g 30 r) * 6 + cn (g 31 r)) * 6 + f) := by
    show setlN (rse g p x) nL _ = tryN g nL p x _
    unfold setlN tryN
    rw [show carN (rse g p x) = carN g from by funext f n; exact carN_vu (by decide) (by decide) (by decide) _ _ _]
    refine carN_e h (fun z hz => ?_) nL (Nat.le_refl _) _ (by omega)
    show cpy (upd (g 19) p (zmax (g 19 p) x)) _ 288 z = _
    unfold cpy upd
    rw [if_pos hz]
    by_cases e : z = p
    · rw [if_pos e, if_pos e, if_pos hp]
    · rw [if_neg e, if_neg e]; exact (if_pos hz).symm
  rw [e]

theorem mR_rep {ty : Nat → ClassId} {t0 : Nat} {g : Nat → Nat → Int32} {n1 n2 nL n4 n5 : Nat} {th : Int32} {rep bro : Nat → Nat → Int32} {u : Nat → Nat → Prop} {C : Nat → Nat → va_E} {ma : Nat → Nat → Nat} (h : mR ty t0 g n1 n2 nL n4 n5 th rep bro u C ma) {i v f : Nat} (hi : i < n1) (hv : v < nV g i) (hf : f < 6) (x : Int32) : mR ty t0 (repG g nL ((i * 6 + v) * 6 + f) x) n1 n2 nL n4 n5 th (fun q => if q = i * 6 + v then upd (rep (i * 6 + v)) f (zmax (rep (i * 6 + v) f) x) else rep q) (bro) u (up2 C 16 (i * 6 + v) (eI (ty 0) 6 (upd (rep (i * 6 + v)) f (zmax (rep (i * 6 + v) f) x)))) ma := by
  have hv7 := (h.I.v7 hi).2
  have hb1 := h.I.b1
  exact h.chg
    (gI_rse h.I (by omega) (show ((i * 6 + v) * 6 + f) / 36 < n1 ∧ ((i * 6 + v) * 6 + f) / 6 % 6 < nV g (((i * 6 + v) * 6 + f) / 36) from by rw [show ((i * 6 + v) * 6 + f) / 36 = i by omega, show ((i * 6 + v) * 6 + f) / 6 % 6 = v by omega]; exact ⟨hi, hv⟩) x (fun k hk => by unfold repG rse triG va_up; rw [if_neg (by omega), if_neg (by omega), if_neg (by omega)]) rfl (fun q _ _ => rfl) rfl)
    (fun kl x hk => (up2_k _ _ (by omega)))
    rfl
    rfl
    ((up2_k _ _ (by decide)).trans h.o.2)
    (fun i hi => ((up2_k _ _ (by decide)).trans (h.s9 hi).2))
    (fun i hi => ((up2_k _ _ (by decide)).trans (h.s10 hi).2))
    (fun i hi => ((up2_k _ _ (by decide)).trans (h.s11 hi).2))
    (fun i hi => ((up2_k _ _ (by decide)).trans (h.s14 hi).2))
    (fun i v hi hv => ((up2_k _ _ (by decide)).trans (h.v15 hi hv).2))
    (fun i9 v9 hi9 hv9 => by
      have hv9b := (h.I.v7 hi9).2
      by_cases e9 : i9 * 6 + v9 = i * 6 + v
      · rw [if_pos e9, e9, up2_s]
      · rw [if_neg e9, up2_n _ _ (fun z => e9 z.2), (h.v16 hi9 hv9).2])
    (fun i v hi hv => ((up2_k _ _ (by decide)).trans (h.v17 hi hv).2))
    (fun i v hi hv => ((up2_k _ _ (by decide)).trans (h.v18 hi hv).2))
    (fun i9 v9 f9 hi9 hv9 hf9 => by
      have hv9b := (h.I.v7 hi9).2
      have hw := h.ownz hi9 hv9 hf9
      show zmax _ _ = upd (g 19) _ _ _ ∧ (g 20 _ = 0 → _)
      refine ⟨?_, hw.2⟩
      by_cases e9 : i9 * 6 + v9 = i * 6 + v
      · rw [if_pos e9]
        by_cases e8 : f9 = f
        · subst e8; rw [us, e9, us]; show _ = zmax (g 19 ((i * 6 + v) * 6 + f9)) x; rw [← (h.ownz hi hv hf).1, zmax_ac]
        · rw [un e8, un (by omega), ← hw.1, e9]
      · rw [if_neg e9, un (by omega)]; exact hw.1)
    (fun j hj => ((up2_k _ _ (by decide)).trans (h.q24 hj).2))
    (fun j hj => ((up2_k _ _ (by decide)).trans (h.k23 hj).2))
    (fun c hc => ((up2_k _ _ (by decide)).trans (h.c25 hc).2))
    (fun r hr => ((up2_k _ _ (by decide)).trans (h.r26 hr).2))
    (fun r hr => ((up2_k _ _ (by decide)).trans (h.r27 hr).2))

theorem mR_mis {ty : Nat → ClassId} {t0 : Nat} {g : Nat → Nat → Int32} {n1 n2 nL n4 n5 : Nat} {th : Int32} {rep bro : Nat → Nat → Int32} {u : Nat → Nat → Prop} {C : Nat → Nat → va_E} {ma : Nat → Nat → Nat} (h : mR ty t0 g n1 n2 nL n4 n5 th rep bro u C ma) {i v f : Nat} (hi : i < n1) (hv : v < nV g i) (hf : f < 6) {x : Int32} (hx : 0 ≤ x.toInt) (ht : g 20 ((i * 6 + v) * 6 + f) = 0) : mR ty t0 (misG g nL ((i * 6 + v) * 6 + f) x) n1 n2 nL n4 n5 th (rep) (fun q => if q = i * 6 + v then upd (bro (i * 6 + v)) f x else bro q) u (up2 (up2 C 18 (i * 6 + v) (eI (ty 1) 6 (upd (row6 (g 20) ((i * 6 + v) * 6)) f (nI 1)))) 17 (i * 6 + v) (eI (ty 0) 6 (upd (bro (i * 6 + v)) f x))) ma := by
  have hv7 := (h.I.v7 hi).2
  have hb1 := h.I.b1
  exact h.chg
    (gI_rse h.I (by omega) (show ((i * 6 + v) * 6 + f) / 36 < n1 ∧ ((i * 6 + v) * 6 + f) / 6 % 6 < nV g (((i * 6 + v) * 6 + f) / 36) from by rw [show ((i * 6 + v) * 6 + f) / 36 = i by omega, show ((i * 6 + v) * 6 + f) / 6 % 6 = v by omega]; exact ⟨hi, hv⟩) x (fun k hk => by unfold misG rse va_up; rw [if_neg (by omega), if_neg (by omega), if_neg (by omega)]) rfl (fun q _ hq => un hq) rfl)
    (fun kl x hk => ((up2_k _ _ (by omega)).trans (up2_k _ _ (by omega))))
    rfl
    rfl
    ((up2_k _ _ (by decide)).trans ((up2_k _ _ (by decide)).trans h.o.2))
    (fun i hi => ((up2_k _ _ (by decide)).trans ((up2_k _ _ (by decide)).trans (h.s9 hi).2)))
    (fun i hi => ((up2_k _ _ (by decide)).trans ((up2_k _ _ (by decide)).trans (h.s10 hi).2)))
    (fun i hi => ((up2_k _ _ (by decide)).trans ((up2_k _ _ (by decide)).trans (h.s11 hi).2)))
    (fun i hi => ((up2_k _ _ (by decide)).trans ((up2_k _ _ (by decide)).trans (h.s14 hi).2)))
    (fun i v hi hv => ((up2_k _ _ (by decide)).trans ((up2_k _ _ (by decide)).trans (h.v15 hi hv).2)))
    (fun i v hi hv => ((up2_k _ _ (by decide)).trans ((up2_k _ _ (by decide)).trans (h.v16 hi hv).2)))
    (fun i9 v9 hi9 hv9 => by
      have hv9b := (h.I.v7 hi9).2
      by_cases e9 : i9 * 6 + v9 = i * 6 + v
      · rw [if_pos e9, e9, up2_s]
      · rw [if_neg e9, up2_n _ _ (fun z => e9 z.2), up2_k _ _ (by decide), (h.v17 hi9 hv9).2])
    (fun i9 v9 hi9 hv9 => by
      have hv9b := (h.I.v7 hi9).2
      show _ = eI (ty 1) 6 (row6 (upd (g 20) ((i * 6 + v) * 6 + f) (nI 1)) _)
      by_cases e9 : i9 * 6 + v9 = i * 6 + v
      · rw [e9, up2_k _ _ (by decide), up2_s, row6_u hf]
      · rw [up2_k _ _ (by decide), up2_n _ _ (fun z => e9 z.2), (h.v18 hi9 hv9).2, row6_o (by omega)])
    (fun i9 v9 f9 hi9 hv9 hf9 => by
      have hv9b := (h.I.v7 hi9).2
      have hw := h.ownz hi9 hv9 hf9
      show zmax _ _ = upd (g 19) _ _ _ ∧ (upd (g 20) _ _ _ = 0 → _)
      by_cases e9 : i9 * 6 + v9 = i * 6 + v
      · rw [if_pos e9]
        by_cases e8 : f9 = f
        · subst e8
          have h0 := (h.ownz hi hv hf).2 ht
          have h1 := (h.ownz hi hv hf).1
          rw [h0] at h1
          rw [us, e9, us, us]
          show zmax _ x = zmax (g 19 ((i * 6 + v) * 6 + f9)) x ∧ _
          rw [← h1]
          exact ⟨(zmax_z hx).symm, fun z => absurd z (by decide)⟩
        · rw [un e8, un (by omega), un (by omega), ← hw.1, e9]; rw [e9] at hw; exact ⟨rfl, hw.2⟩
      · rw [if_neg e9, un (by omega), un (by omega)]; exact hw)
    (fun j hj => ((up2_k _ _ (by decide)).trans ((up2_k _ _ (by decide)).trans (h.q24 hj).2)))
    (fun j hj => ((up2_k _ _ (by decide)).trans ((up2_k _ _ (by decide)).trans (h.k23 hj).2)))
    (fun c hc => ((up2_k _ _ (by decide)).trans ((up2_k _ _ (by decide)).trans (h.c25 hc).2)))
    (fun r hr => ((up2_k _ _ (by decide)).trans ((up2_k _ _ (by decide)).trans (h.r26 hr).2)))
    (fun r hr => ((up2_k _ _ (by decide)).trans ((up2_k _ _ (by decide)).trans (h.r27 hr).2)))

theorem mR_srck {ty : Nat → ClassId} {t0 : Nat} {g : Nat → Nat → Int32} {n1 n2 nL n4 n5 : Nat} {th : Int32} {rep bro : Nat → Nat → Int32} {u : Nat → Nat → Prop} {C : Nat → Nat → va_E} {ma : Nat → Nat → Nat} (h : mR ty t0 g n1 n2 nL n4 n5 th rep bro u C ma) {j0 : Nat} (hj0 : j0 < n2) (sh : Int32) : mR ty t0 (va_up g 14 (upd (g 14) j0 sh)) n1 n2 nL n4 n5 th (rep) (bro) u (up2 C 24 j0 (eO 11 [.int (nI (cn (g 12 j0) / 6)), .int (nI (cn (g 12 j0) % 6)), .int (nI (cn (g 13 j0) / 6)), .int (nI (cn (g 13 j0) % 6)), .int sh])) ma := by
  exact h.chg
    (h.I.cong (fun k hk => by unfold va_up; rw [if_neg (by omega)]))
    (fun kl x hk => (up2_k _ _ (by omega)))
    rfl
    rfl
    ((up2_k _ _ (by decide)).trans h.o.2)
    (fun i hi => ((up2_k _ _ (by decide)).trans (h.s9 hi).2))
    (fun i hi => ((up2_k _ _ (by decide)).trans (h.s10 hi).2))
    (fun i hi => ((up2_k _ _ (by decide)).trans (h.s11 hi).2))
    (fun i hi => ((up2_k _ _ (by decide)).trans (h.s14 hi).2))
    (fun i v hi hv => ((up2_k _ _ (by decide)).trans (h.v15 hi hv).2))
    (fun i v hi hv => ((up2_k _ _ (by decide)).trans (h.v16 hi hv).2))
    (fun i v hi hv => ((up2_k _ _ (by decide)).trans (h.v17 hi hv).2))
    (fun i v hi hv => ((up2_k _ _ (by decide)).trans (h.v18 hi hv).2))
    (fun i v f hi hv hf => h.ownz hi hv hf)
    (fun j hj => by
      by_cases e9 : j = j0
      · subst e9; rw [up2_s]; show _ = eO 11 [_, _, _, _, .int (upd (g 14) j sh j)]; rw [us]; rfl
      · rw [up2_n _ _ (fun z => e9 z.2), (h.q24 hj).2]; show _ = eO 11 [_, _, _, _, .int (upd (g 14) j0 sh j)]; rw [un e9]; rfl)
    (fun j hj => ((up2_k _ _ (by decide)).trans (h.k23 hj).2))
    (fun c hc => ((up2_k _ _ (by decide)).trans (h.c25 hc).2))
    (fun r hr => ((up2_k _ _ (by decide)).trans (h.r26 hr).2))
    (fun r hr => ((up2_k _ _ (by decide)).trans (h.r27 hr).2))

theorem mR_unrep {ty : Nat → ClassId} {t0 : Nat} {g : Nat → Nat → Int32} {n1 n2 nL n4 n5 : Nat} {th th0 : Int32} {rep bro : Nat → Nat → Int32} {u : Nat → Nat → Prop} {C C0 : Nat → Nat → va_E} {ma : Nat → Nat → Nat} (h0 : mR ty t0 g n1 n2 nL n4 n5 th0 rep bro u C0 ma) {i v f : Nat} (hi : i < n1) (hv : v < nV g i) (hf : f < 6) (x : Int32) (h : mR ty t0 (repG g nL ((i * 6 + v) * 6 + f) x) n1 n2 nL n4 n5 th (fun q => if q = i * 6 + v then upd (rep (i * 6 + v)) f (zmax (rep (i * 6 + v) f) x) else rep q) bro u C ma) : mR ty t0 (triG g nL ((i * 6 + v) * 6 + f) x) n1 n2 nL n4 n5 th rep bro u (up2 C 16 (i * 6 + v) (eI (ty 0) 6 (upd ((fun q => if q = i * 6 + v then upd (rep (i * 6 + v)) f (zmax (rep (i * 6 + v) f) x) else rep q) (i * 6 + v)) f (rep (i * 6 + v) f)))) ma := by
  have hv7 := (h0.I.v7 hi).2
  exact h.chg
    (h0.I.cong (fun k hk => by unfold triG va_up; rw [if_neg (by omega)]))
    (fun kl x hk => (up2_k _ _ (by omega))) rfl rfl
    ((up2_k _ _ (by decide)).trans h.o.2) (fun i hi => ((up2_k _ _ (by decide)).trans (h.s9 hi).2)) (fun i hi => ((up2_k _ _ (by decide)).trans (h.s10 hi).2)) (fun i hi => ((up2_k _ _ (by decide)).trans (h.s11 hi).2)) (fun i hi => ((up2_k _ _ (by decide)).trans (h.s14 hi).2))
    (fun i v hi hv => ((up2_k _ _ (by decide)).trans (h.v15 hi hv).2))
    (fun i9 v9 hi9 hv9 => by
      by_cases e9 : i9 * 6 + v9 = i * 6 + v
      · rw [e9, up2_s]
        show eI (ty 0) 6 (upd (if i * 6 + v = i * 6 + v then _ else _) f _) = _
        rw [if_pos rfl, upd_2, show upd (rep (i * 6 + v)) f (rep (i * 6 + v) f) = rep (i * 6 + v) from by funext j; unfold upd; split <;> simp_all]
      · rw [up2_n _ _ (fun z => e9 z.2), (h.v16 hi9 hv9).2]
        show eI (ty 0) 6 (if i9 * 6 + v9 = i * 6 + v then _ else _) = _
        rw [if_neg e9])
    (fun i v hi hv => ((up2_k _ _ (by decide)).trans (h.v17 hi hv).2)) (fun i v hi hv => ((up2_k _ _ (by decide)).trans (h.v18 hi hv).2))
    (fun i v f hi hv hf => h0.ownz hi hv hf)
    (fun j hj => ((up2_k _ _ (by decide)).trans (h.q24 hj).2)) (fun j hj => ((up2_k _ _ (by decide)).trans (h.k23 hj).2)) (fun c hc => ((up2_k _ _ (by decide)).trans (h.c25 hc).2)) (fun r hr => ((up2_k _ _ (by decide)).trans (h.r26 hr).2)) (fun r hr => ((up2_k _ _ (by decide)).trans (h.r27 hr).2))

