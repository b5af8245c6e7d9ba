/-! the law's beginning: sets, then sources, then a version of each -/
section SA
variable {g : Nat → Nat → Int32} {n k m : Nat}
theorem nb_0 {b : Nat} (h : 0 < b) (hb : b < 2 ^ 31) : nb 0 b := by
  have k := nb_nI h hb
  rw [nI_0] at k
  exact k
theorem cn_0 : cn 0 = 0 := by decide
/-- the sets that there are, with their fields and prices -/
def sF (g : Nat → Nat → Int32) (k : Nat) : Prop := (g 1 0 = nI k ∧ k ≤ 8) ∧ (∀ i, i < k → nb (g 7 i) 7 ∧ 0 < nF g i) ∧ ∀ i f, i < k → f < nF g i → nb (g 10 (i * 6 + f)) 100
theorem sF.c {g' : Nat → Nat → Int32} (h : sF g k) (e1 : g' 1 = g 1) (e7 : g' 7 = g 7) (e10 : g' 10 = g 10) : sF g' k := by
  unfold sF nF at h ⊢
  rw [e1, e7, e10]; exact h
theorem dI_mk {n2 nL : Nat} (hF : sF g n) (h8 : ∀ i, i < n → nb (g 8 i) 7) (h2 : g 2 0 = nI n2 ∧ n2 ≤ 20) (hs : ∀ j, j < n2 → nb (g 12 j) 48 ∧ nb (g 13 j) 48 ∧ cn (g 12 j) / 6 < n ∧ cn (g 13 j) / 6 < cn (g 12 j) / 6) (hL : g 2 1 = nI nL ∧ nL ≤ 120) (hl : ∀ j, j < nL → nb (g 15 j) 288 ∧ nb (g 16 j) 288) (h4 : g 4 = fun _ => 0) (h5 : g 5 = fun _ => 0) (h0 : g 0 = fun _ => 0) : dI g n n2 nL 0 0 :=
  ⟨hF.1, fun i hi => ⟨(hF.2.1 i hi).1, h8 i hi, (hF.2.1 i hi).2⟩, h2, hs, hL, hl, ⟨by rw [h4]; exact nI_0.symm, Nat.zero_le _⟩, ⟨by rw [h5]; exact nI_0.symm, Nat.zero_le _⟩, fun r hr => absurd hr (Nat.not_lt_zero _), by rw [h0]; exact nb_0 (by decide) (by decide)⟩
def sA (g : Nat → Nat → Int32) (k : Nat) : Prop := sF g k ∧ ∀ r, r ≠ 1 → r ≠ 7 → r ≠ 10 → r ≠ 11 → g r = fun _ => 0
theorem sA.z (h : sA g k) (r : Nat) (hr : r ≠ 1 ∧ r ≠ 7 ∧ r ≠ 10 ∧ r ≠ 11) : g r = fun _ => 0 := h.2 r hr.1 hr.2.1 hr.2.2.1 hr.2.2.2
theorem sA_0 : sA (fun _ _ => 0) 0 := ⟨⟨⟨nI_0.symm, Nat.zero_le _⟩, fun i hi => absurd hi (Nat.not_lt_zero _), fun i f hi => absurd hi (Nat.not_lt_zero _)⟩, fun _ _ _ _ _ => rfl⟩
theorem sA.d (h : sA g k) : dI g k 0 0 0 0 := dI_mk h.1 (fun i _ => by rw [h.z 8 (by decide)]; exact nb_0 (by decide) (by decide)) ⟨by rw [h.z 2 (by decide)]; exact nI_0.symm, Nat.zero_le _⟩ (fun j hj => absurd hj (Nat.not_lt_zero _)) ⟨by rw [h.z 2 (by decide)]; exact nI_0.symm, Nat.zero_le _⟩ (fun j hj => absurd hj (Nat.not_lt_zero _)) (h.z 4 (by decide)) (h.z 5 (by decide)) (h.z 0 (by decide))
theorem sA_set (h : sA g k) (hk : k < 8) {a : Nat} (ha1 : 1 ≤ a) (ha6 : a ≤ 6) : sA (setG g k a) (k + 1) ∧ setG g k a 10 (k * 6 + 0) = nI 10 ∧ 0 < nF (setG g k a) k := by
  have e7 : ∀ i, setG g k a 7 i = upd (g 7) k (nI a) i := fun _ => rfl
  have e10 : ∀ q, setG g k a 10 q = rng (g 10) (k * 6) a (nI 10) q := fun _ => rfl
  have ek : nF (setG g k a) k = a := by unfold nF; rw [e7, us, cn_nI (by omega)]
  have eo : ∀ i, i ≠ k → nF (setG g k a) i = nF g i := fun i hi => by unfold nF; rw [e7, un hi]
  obtain ⟨⟨⟨h1, h1b⟩, h7, h10⟩, hz⟩ := h
  refine ⟨⟨⟨⟨rfl, hk⟩, fun i hi => ?_, fun i f hi hf => ?_⟩, fun r r1 r7 r10 r11 => ?_⟩, ?_, by omega⟩
  · by_cases e : i = k
    · rw [e, e7, us, ek]; exact ⟨nb_nI (by omega) (by decide), by omega⟩
    · rw [e7, un e, eo i e]; exact h7 i (by omega)
  · rw [e10]
    unfold rng
    by_cases e : i = k
    · rw [e, ek] at hf
      rw [e, if_pos (by omega)]; exact nb_nI (by decide) (by decide)
    · rw [eo i e] at hf
      have h7i := (h7 i (by omega)).1.2
      have ef : nF g i = cn (g 7 i) := rfl
      rw [if_neg (by omega)]; exact h10 i f (by omega) hf
  · exact ((vn r1).trans ((vn r11).trans ((vn r10).trans (vn r7)))).trans (hz r r1 r7 r10 r11)
  · rw [e10]
    unfold rng
    rw [if_pos (by omega)]
theorem sA_terms (h : sA g k) {p : Nat} (hp : p < 100) (q : Nat) (ru : Int32) : sA (va_up (va_up g 10 (upd (g 10) q (nI p))) 11 (upd (g 11) q ru)) k := by
  obtain ⟨⟨h1, h7, h10⟩, hz⟩ := h
  refine ⟨⟨h1, h7, fun i f hi hf => ?_⟩, fun r r1 r7 r10 r11 => ((vn r11).trans (vn r10)).trans (hz r r1 r7 r10 r11)⟩
  show nb (upd (g 10) q (nI p) (i * 6 + f)) 100
  by_cases e : i * 6 + f = q
  · rw [e, us]; exact nb_nI hp (by decide)
  · rw [un e]; exact h10 i f hi hf
/-! sources: the last field of each set is made of the first field of the set before -/
def sS (g : Nat → Nat → Int32) (m : Nat) : Prop := g 2 0 = nI m ∧ ∀ j, j < m → g 12 j = nI ((j + 1) * 6 + (nF g (j + 1) - 1)) ∧ g 13 j = nI (j * 6) ∧ nb (g 14 j) 101
theorem sF.f (h : sF g n) {i : Nat} (hi : i < n) : g 7 i = nI (nF g i) ∧ 0 < nF g i ∧ nF g i < 7 := ⟨(h.2.1 i hi).1.1, (h.2.1 i hi).2, (h.2.1 i hi).1.2⟩
theorem sS.c12 (hF : sF g n) (hn : n ≤ 5) (h : sS g m) (hm : m + 1 ≤ n) {j : Nat} (hj : j < m) : cn (g 12 j) = (j + 1) * 6 + (nF g (j + 1) - 1) ∧ cn (g 13 j) = j * 6 := by
  have hf := hF.f (show j + 1 < n by omega)
  rw [(h.2 j hj).1, (h.2 j hj).2.1, cn_nI (by omega), cn_nI (by omega)]
  exact ⟨rfl, rfl⟩
theorem sS.src (hF : sF g n) (hn : n ≤ 5) (h : sS g m) (hm : m + 1 ≤ n) : ∀ j, j < m → nb (g 12 j) 48 ∧ nb (g 13 j) 48 ∧ cn (g 12 j) / 6 < n ∧ cn (g 13 j) / 6 < cn (g 12 j) / 6 := fun j hj => by
  have hf := hF.f (show j + 1 < n by omega)
  have hc := sS.c12 hF hn h hm hj
  rw [hc.1, hc.2, (h.2 j hj).1, (h.2 j hj).2.1]
  exact ⟨nb_nI (by omega) (by decide), nb_nI (by omega) (by decide), by omega, by omega⟩
def sB (g : Nat → Nat → Int32) (n m : Nat) : Prop := sF g n ∧ sS g m ∧ g 2 1 = 0 ∧ ∀ r, (r = 0 ∨ r = 4 ∨ r = 5 ∨ r = 8 ∨ r = 19 ∨ r = 21 ∨ r = 38) → g r = fun _ => 0
theorem sB_0 (h : sA g n) : sB g n 0 := ⟨h.1, ⟨by rw [h.z 2 (by decide)]; exact nI_0.symm, fun j hj => absurd hj (Nat.not_lt_zero _)⟩, by rw [h.z 2 (by decide)], fun r hr => h.z r (by omega)⟩
theorem sB.d (h : sB g n m) (hn : n ≤ 5) (hm : m + 1 ≤ n) : dI g n m 0 0 0 := dI_mk h.1 (fun i _ => by rw [h.2.2.2 8 (by omega)]; exact nb_0 (by decide) (by decide)) ⟨h.2.1.1, by omega⟩ (sS.src h.1 hn h.2.1 hm) ⟨by rw [h.2.2.1]; exact nI_0.symm, Nat.zero_le _⟩ (fun j hj => absurd hj (Nat.not_lt_zero _)) (h.2.2.2 4 (by omega)) (h.2.2.2 5 (by omega)) (h.2.2.2 0 (by omega))
theorem sB_no (h : sB g n m) (hn : n ≤ 5) (hm : m + 2 ≤ n) (b : Nat) : ∀ j, j < m → ¬ (g 12 j = nI ((m + 1) * 6 + (nF g (m + 1) - 1)) ∧ g 13 j = nI b) := fun j hj hq => by
  have hf := h.1.f (show j + 1 < n by omega)
  have hf2 := h.1.f (show m + 1 < n by omega)
  have e := hq.1
  rw [(h.2.1.2 j hj).1] at e
  have := (nI_eq (by omega) (by omega)).mp e
  omega
theorem sB_src (h : sB g n m) (hn : n ≤ 5) (hm : m + 2 ≤ n) {sh : Nat} (hsh : sh ≤ 100) : sB (srcG g m ((m + 1) * 6 + (nF g (m + 1) - 1)) (m * 6 + 0) (nI sh)) n (m + 1) ∧ sumN (fSrc (srcG g m ((m + 1) * 6 + (nF g (m + 1) - 1)) (m * 6 + 0) (nI sh)) ((m + 1) * 6 + (nF g (m + 1) - 1))) (m + 1) = nI 1 := by
  have hno := sB_no h hn hm
  obtain ⟨hF, ⟨h2, hs⟩, h21, hz⟩ := h
  have e12 : ∀ j, srcG g m ((m + 1) * 6 + (nF g (m + 1) - 1)) (m * 6 + 0) (nI sh) 12 j = upd (g 12) m (nI ((m + 1) * 6 + (nF g (m + 1) - 1))) j := fun _ => rfl
  have e13 : ∀ j, srcG g m ((m + 1) * 6 + (nF g (m + 1) - 1)) (m * 6 + 0) (nI sh) 13 j = upd (g 13) m (nI (m * 6 + 0)) j := fun _ => rfl
  have e14 : ∀ j, srcG g m ((m + 1) * 6 + (nF g (m + 1) - 1)) (m * 6 + 0) (nI sh) 14 j = upd (g 14) m (nI sh) j := fun _ => rfl
  refine ⟨⟨hF.c rfl rfl rfl, ⟨rfl, fun j hj => ?_⟩, h21, fun r hr => ?_⟩, ?_⟩
  · rw [e12, e13, e14]
    show _ = nI ((j + 1) * 6 + (nF g (j + 1) - 1)) ∧ _
    by_cases e : j = m
    · rw [e, us, us, us]; exact ⟨rfl, rfl, nb_nI (by omega) (by decide)⟩
    · rw [un e, un e, un e]; exact hs j (by omega)
  · rcases hr with rfl | rfl | rfl | rfl | rfl | rfl | rfl
    · exact hz 0 (by omega)
    · exact hz 4 (by omega)
    · exact hz 5 (by omega)
    · exact hz 8 (by omega)
    · exact hz 19 (by omega)
    · exact hz 21 (by omega)
    · exact hz 38 (by omega)
  · rw [sumN_s, sumN_0 (fun j hj => ?_), Int32.zero_add]
    · unfold fSrc
      rw [e12, us, decide_eq_true rfl]; rfl
    · unfold fSrc
      rw [e12, un (by omega), decide_eq_false (fun e => ?_)]; rfl
      have hf := hF.f (show j + 1 < n by omega)
      have hf2 := hF.f (show m + 1 < n by omega)
      rw [(hs j hj).1] at e
      have := (nI_eq (by omega) (by omega)).mp e
      omega
/-! versions -/
def sC (g : Nat → Nat → Int32) (n k : Nat) : Prop := sF g n ∧ sS g (n - 1) ∧ (∀ i, i < n → g 8 i = nI (if i < k then 1 else 0)) ∧ (∀ i, i < k → ∃ r, g 9 (i * 6) = nI r ∧ 1 ≤ r ∧ r ≤ 5049) ∧ g 2 1 = nI (k - 1) ∧ (∀ j, j < k - 1 → g 15 j = nI (pcl g j) ∧ g 16 j = nI (ppl j) ∧ nb (g 17 j) 101) ∧ (∀ p, g 21 p = 0) ∧ ∀ r, (r = 0 ∨ r = 4 ∨ r = 5 ∨ r = 19 ∨ r = 38) → g r = fun _ => 0
theorem sC_0 (h : sB g n (n - 1)) : sC g n 0 := ⟨h.1, h.2.1, fun i hi => by rw [h.2.2.2 8 (by omega), if_neg (Nat.not_lt_zero _)]; exact nI_0.symm, fun i hi => absurd hi (Nat.not_lt_zero _), by rw [h.2.2.1]; exact nI_0.symm, fun j hj => absurd hj (Nat.not_lt_zero _), fun p => by rw [h.2.2.2 21 (by omega)], fun r hr => h.2.2.2 r (by omega)⟩
theorem sC.v (h : sC g n k) {i : Nat} (hi : i < n) : nb (g 8 i) 7 ∧ nV g i = if i < k then 1 else 0 := by
  unfold nV
  rw [h.2.2.1 i hi]
  by_cases e : i < k
  · rw [if_pos e]; exact ⟨nb_nI (by decide) (by decide), cn_nI (by decide)⟩
  · rw [if_neg e]; exact ⟨nb_nI (by decide) (by decide), cn_nI (by decide)⟩
theorem sC.lk (h : sC g n k) (hn : n ≤ 5) (hk : k ≤ n) {j : Nat} (hj : j < k - 1) : pcl g j < 288 ∧ ppl j < 288 ∧ ppl j / 36 < pcl g j / 36 := by
  have hf := h.1.f (show j + 1 < n by omega)
  have e1 : pcl g j = (j + 1) * 36 + (nF g (j + 1) - 1) := rfl
  have e2 : ppl j = j * 36 := rfl
  omega
theorem sC.d (h : sC g n k) (hn2 : 2 ≤ n) (hn : n ≤ 5) (hk : k ≤ n) : dI g n (n - 1) (k - 1) 0 0 := dI_mk h.1 (fun i hi => (h.v hi).1) ⟨h.2.1.1, by omega⟩ (sS.src h.1 hn h.2.1 (by omega)) ⟨h.2.2.2.2.1, by omega⟩ (fun j hj => by
  have h1 := h.2.2.2.2.2.1 j hj
  have h2 := h.lk hn hk hj
  rw [h1.1, h1.2.1]; exact ⟨nb_nI h2.1 (by decide), nb_nI h2.2.1 (by decide)⟩) (h.2.2.2.2.2.2.2 4 (by omega)) (h.2.2.2.2.2.2.2 5 (by omega)) (h.2.2.2.2.2.2.2 0 (by omega))
theorem lkN_k (h : sC g n k) (hn2 : 2 ≤ n) (hn : n ≤ 5) (hk : k < n) (x : Int32) : ∀ q, q ≤ n - 1 → lkN k (nV g k) (vr1 g k x) q = if q < k ∨ k = 0 then vr1 g k x else addLnk (vr1 g k x) (nI (pcl g (k - 1))) (nI (ppl (k - 1))) (g 14 (k - 1)) := by
  have hv0 : nV g k = 0 := by rw [(h.v hk).2, if_neg (Nat.lt_irrefl _)]
  intro q
  induction q with
  | zero =>
    intro _
    rw [if_pos (by omega)]; rfl
  | succ q ih =>
    intro hq
    have ih := ih (by omega)
    have hc := sS.c12 h.1 hn h.2.1 (by omega) (show q < n - 1 by omega)
    have hf := h.1.f (show q + 1 < n by omega)
    have r12 : lkN k (nV g k) (vr1 g k x) q 12 = g 12 := lkN_r (k := 12) ⟨by decide, by decide, by decide, by decide⟩
    have r13 : lkN k (nV g k) (vr1 g k x) q 13 = g 13 := lkN_r (k := 13) ⟨by decide, by decide, by decide, by decide⟩
    have r14 : lkN k (nV g k) (vr1 g k x) q 14 = g 14 := lkN_r (k := 14) ⟨by decide, by decide, by decide, by decide⟩
    have r8 : lkN k (nV g k) (vr1 g k x) q 8 = upd (g 8) k (nI (nV g k + 1)) := lkN_r (k := 8) ⟨by decide, by decide, by decide, by decide⟩
    show lkS k (nV g k) (lkN k (nV g k) (vr1 g k x) q) q = _
    unfold lkS
    rw [r12, r13, r14, hc.1, hc.2]
    by_cases e : q + 1 = k
    · have hq8 : nV (lkN k (nV g k) (vr1 g k x) q) (q * 6 / 6) = 1 := by
        unfold nV
        rw [show q * 6 / 6 = q by omega, show lkN k (cn (g 8 k)) (vr1 g k x) q 8 = _ from r8, un (by omega)]
        have := (h.v (show q < n by omega)).2
        rw [if_pos (by omega)] at this
        exact this
      rw [hq8, if_pos ⟨by omega, by decide⟩, if_neg (by omega), ih, if_pos (by omega), hv0]
      have e1 : plc k 0 (((q + 1) * 6 + (nF g (q + 1) - 1)) % 6) = pcl g (k - 1) := by
        unfold plc pcl
        rw [show k - 1 + 1 = k by omega, e]
        rw [e] at hf
        omega
      have e2 : plc (q * 6 / 6) (1 - 1) (q * 6 % 6) = ppl (k - 1) := by unfold plc ppl; omega
      rw [e1, e2, show q = k - 1 by omega]
    · rw [if_neg (by omega), ih]
      by_cases e2 : k = 0
      · rw [if_pos (Or.inr e2), if_pos (Or.inr e2)]
      · by_cases e3 : q < k
        · rw [if_pos (Or.inl e3), if_pos (by omega)]
        · rw [if_neg (by omega), if_neg (by omega)]
theorem carN_z {h : Nat → Int32} (e : ∀ q, h q = 0) : ∀ m q, carN g h m q = 0 := by
  intro m
  induction m with
  | zero => exact e
  | succ m ih =>
    intro q
    show upd (carN g h m) _ (zmax (carN g h m _) (carN g h m _ * g 17 m / nI 100)) q = 0
    rw [ih, ih, Int32.zero_mul]
    by_cases eq : q = cn (g 15 m)
    · rw [eq, us]; decide
    · rw [un eq]; exact ih q
theorem ver_21 (h : sC g n k) (x : Int32) (p : Nat) : verG g (n - 1) k x 21 p = 0 := by
  show carN (vr2 g (n - 1) k x) (cpy (vr2 g (n - 1) k x 19) (vr2 g (n - 1) k x 21) 288) _ p = 0
  refine carN_z (fun q => ?_) _ _
  have r19 : vr2 g (n - 1) k x 19 = g 19 := lkN_r (k := 19) ⟨by decide, by decide, by decide, by decide⟩
  have r21 : vr2 g (n - 1) k x 21 = g 21 := lkN_r (k := 21) ⟨by decide, by decide, by decide, by decide⟩
  unfold cpy
  rw [r19, r21, h.2.2.2.2.2.2.2 19 (by omega)]
  split
  · rfl
  · exact h.2.2.2.2.2.2.1 q
theorem sC_ver (h : sC g n k) (hn2 : 2 ≤ n) (hn : n ≤ 5) (hk : k < n) {r : Nat} (h1 : 1 ≤ r) (hr : r ≤ 5049) : sC (verG g (n - 1) k (nI r)) n (k + 1) := by
  have hv0 : nV g k = 0 := by rw [(h.v hk).2, if_neg (Nat.lt_irrefl _)]
  have h21 := ver_21 h (nI r)
  have hL := lkN_k h hn2 hn hk (nI r) (n - 1) (Nat.le_refl _)
  have rr : ∀ j, j ≠ 15 ∧ j ≠ 16 ∧ j ≠ 17 ∧ j ≠ 2 → j ≠ 21 → verG g (n - 1) k (nI r) j = vr1 g k (nI r) j := fun j hj hj2 => (vn hj2).trans (lkN_r hj)
  have r8 : ∀ i, verG g (n - 1) k (nI r) 8 i = upd (g 8) k (nI (nV g k + 1)) i := fun i => congrFun (rr 8 (by decide) (by decide)) i
  have r9 : ∀ i, verG g (n - 1) k (nI r) 9 i = upd (g 9) (k * 6 + nV g k) (nI r) i := fun i => congrFun (rr 9 (by decide) (by decide)) i
  have r1 : verG g (n - 1) k (nI r) 1 = g 1 := rr 1 (by decide) (by decide)
  have r7 : verG g (n - 1) k (nI r) 7 = g 7 := rr 7 (by decide) (by decide)
  have r10 : verG g (n - 1) k (nI r) 10 = g 10 := rr 10 (by decide) (by decide)
  have r12 : verG g (n - 1) k (nI r) 12 = g 12 := rr 12 (by decide) (by decide)
  have r13 : verG g (n - 1) k (nI r) 13 = g 13 := rr 13 (by decide) (by decide)
  have r14 : verG g (n - 1) k (nI r) 14 = g 14 := rr 14 (by decide) (by decide)
  have r20 : verG g (n - 1) k (nI r) 2 0 = g 2 0 := lkN_0
  have epc : ∀ j, pcl (verG g (n - 1) k (nI r)) j = pcl g j := fun j => by unfold pcl nF; rw [r7]
  obtain ⟨r, er⟩ : ∃ r', r' = r := ⟨_, rfl⟩
  have hz := h.2.2.2.2.2.2.2
  have hk2 := h.2.2.2.2.1
  have hv := h.2.2.1
  have hrow := h.2.2.2.1
  have hlk := h.2.2.2.2.2.1
  have hb : cn (vr1 g k (nI r) 2 1) = k - 1 := by
    show cn (g 2 1) = k - 1
    rw [hk2, cn_nI (by omega)]
  refine ⟨h.1.c r1 r7 r10, ⟨r20.trans h.2.1.1, fun j hj => ?_⟩, fun i hi => ?_, fun i hi => ?_, ?_, fun j hj => ?_, h21, fun j hj => ?_⟩
  · unfold nF
    rw [r12, r13, r14, r7]; exact h.2.1.2 j hj
  · rw [r8, hv0]
    by_cases e : i = k
    · rw [e, us, if_pos (by omega)]
    · rw [un e, hv i hi]
      by_cases e2 : i < k
      · rw [if_pos e2, if_pos (by omega)]
      · rw [if_neg e2, if_neg (by omega)]
  · rw [r9, hv0]
    by_cases e : i = k
    · rw [e, Nat.add_zero, us]; exact ⟨_, rfl, h1, hr⟩
    · rw [un (by omega)]; exact hrow i (by omega)
  · show vr2 g (n - 1) k _ 2 1 = nI (k + 1 - 1)
    unfold vr2
    rw [hL]
    by_cases e : k = 0
    · rw [if_pos (Or.inr e)]
      show g 2 1 = _
      rw [hk2, e]
    · rw [if_neg (by omega)]
      subst er
      unfold addLnk
      rw [hb, if_pos (by omega)]
      show nI (k - 1 + 1) = _
      rw [show k - 1 + 1 = k + 1 - 1 by omega]
  · rw [epc]
    show vr2 g (n - 1) k _ 15 j = _ ∧ vr2 g (n - 1) k _ 16 j = _ ∧ nb (vr2 g (n - 1) k _ 17 j) 101
    unfold vr2
    rw [hL, if_neg (by omega)]
    subst er
    unfold addLnk
    rw [hb, if_pos (by omega)]
    show upd (g 15) (k - 1) (nI (pcl g (k - 1))) j = _ ∧ upd (g 16) (k - 1) (nI (ppl (k - 1))) j = _ ∧ nb (upd (g 17) (k - 1) (g 14 (k - 1)) j) 101
    by_cases e : j = k - 1
    · rw [e, us, us, us]; exact ⟨rfl, rfl, (h.2.1.2 (k - 1) (by omega)).2.2⟩
    · rw [un e, un e, un e]; exact hlk j (by omega)
  · rcases hj with rfl | rfl | rfl | rfl | rfl
    · exact (rr 0 (by decide) (by decide)).trans (hz 0 (by omega))
    · exact (rr 4 (by decide) (by decide)).trans (hz 4 (by omega))
    · exact (rr 5 (by decide) (by decide)).trans (hz 5 (by omega))
    · exact (rr 19 (by decide) (by decide)).trans (hz 19 (by omega))
    · exact (rr 38 (by decide) (by decide)).trans (hz 38 (by omega))
theorem carX_z {c p s h : Nat → Nat} (e : ∀ q, h q = 0) : ∀ m q, carX c p s h m q = 0 := by
  intro m
  induction m with
  | zero => exact e
  | succ m ih =>
    intro q
    show (if q = c m then max (carX c p s h m q) (carX c p s h m (p m) * s m / 100) else carX c p s h m q) = 0
    rw [ih, ih]
    split
    · rw [Nat.zero_mul]; rfl
    · rfl
/-- what holds as the law's calls begin -/
theorem sC_pI (h : sC g n n) (hn2 : 2 ≤ n) (hn : n ≤ 5) : pI g n 0 0 := by
  have hd := h.d hn2 hn (Nat.le_refl _)
  have hv := fun i (hi : i < n) => (h.v hi).2
  obtain ⟨hF, hS, h8, hr, h21, hl, hz21, hz⟩ := h
  have h19 := hz 19 (by omega)
  have h38 := hz 38 (by omega)
  refine ⟨hd, ⟨⟨hn2, hn⟩, fun i hi => by rw [hv i hi, if_pos hi], hr, hF.2.2⟩, hl, ⟨fun p _ => by rw [h19]; exact nb_0 (by decide) (by decide), fun p _ => ?_⟩, ⟨fun q _ => by rw [h38]; exact nb_0 (by decide) (by decide), fun q _ => by rw [h38]⟩, fun c hc => absurd hc (Nat.not_lt_zero _), fun r hr => absurd hr (Nat.not_lt_zero _), fun r hr => absurd hr (Nat.not_lt_zero _), fun r hr => absurd hr (Nat.not_lt_zero _)⟩
  rw [hz21]
  unfold hmN
  rw [carX_z (fun q => by unfold pOw; rw [h19]; exact cn_0)]
  exact nI_0.symm
end SA
